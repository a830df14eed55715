/-! the property of its own: what the acts answer -/
theorem co_9 {f : Nat → Int32} {p : Nat} (h1 : 1 ≤ p) (h2 : p ≤ 30) (n : ng f = 9) : coR f (nI p) = (-4, f) := by
  rw [coR, if_neg (fun z => ?_), if_pos n]
  rcases z with z | z
  · exact nI_nlt h1 (by omega) z
  · exact nI_nlt h2 (by omega) z
theorem co_n {f : Nat → Int32} {p : Nat} (h1 : 1 ≤ p) (h2 : p ≤ 30) (n : ¬ ng f = 9) : coR f (nI p) = (nI (fre f 9 0), nwF f (fre f 9 0) (nI p)) := by
  rw [coR, if_neg (fun z => ?_), if_neg n]
  rcases z with z | z
  · exact nI_nlt h1 (by omega) z
  · exact nI_nlt h2 (by omega) z
theorem nw_g {f : Nat → Int32} {g : Nat} {x : Int32} : gs (nwF f g x) g = true := decide_eq_true (by rw [nwF, upd_ne (by omega), upd_ne (by omega), upd_at])
theorem nw_0 {f : Nat → Int32} {g : Nat} {x : Int32} (hg : g < 9) : ofR1 (nwF f g x) (nI g) (nI 0) = nI (ng f) := by
  rw [of_t hg nw_g]
  show nwF f g x (14 + 17 * g) = _
  rw [nwF, upd_ne (by omega), upd_at]
theorem nw_1 {f : Nat → Int32} {g : Nat} {x : Int32} (hg : g < 9) : ofR1 (nwF f g x) (nI g) (nI 1) = x := by
  rw [of_t hg nw_g]
  show nwF f g x (15 + 17 * g) = _
  rw [nwF, upd_at]
theorem nw_2 {f : Nat → Int32} {g : Nat} {x : Int32} (h : IV f) (hg : g < 9) (sg : gs f g = false) : ofR1 (nwF f g x) (nI g) (nI 2) = 0 := by
  rw [of_t hg nw_g]
  show nwF f g x (16 + 17 * g) = _
  rw [nw_ne (by omega) (by omega) (by omega), show 16 + 17 * g = 13 + 17 * g + 3 by omega]
  exact h.zr g hg sg 3 (by decide)
theorem nw_67 {f : Nat → Int32} {g : Nat} {x : Int32} (h : IV f) (hj : JO f) (hg : g < 9) (sg : gs f g = false) : ofR1 (nwF f g x) (nI g) (nI 6) + ofR1 (nwF f g x) (nI g) (nI 7) = 0 := by
  rw [of_t hg nw_g, of_t hg nw_g]
  show owd (nwF f g x) g + owt (nwF f g x) g = 0
  have e1 : owd (nwF f g x) g = 0 := (sumI_congr (h' := fun _ => nI 0) 9 (fun o ho => by
    rw [nw_ne (by omega) (by omega) (by omega), show 21 + 17 * g + o = 13 + 17 * g + (8 + o) by omega, h.zr g hg sg (8 + o) (by omega)]
    rfl)).trans rfl
  have e2 : owt (nwF f g x) g = 0 := (sumI_congr (h' := fun _ => nI 0) 9 (fun o ho => by
    rw [nw_ne (by omega) (by omega) (by omega), hj o g ho hg (Or.inl sg)]
    rfl)).trans rfl
  rw [e1, e2]
  rfl
theorem le_t {f : Nat → Int32} {g : Nat} (hg : g < 9) (sg : gs f g = true) : leR f (nI g) = (f (14 + 17 * g), lvF f g) := by rw [leR, hx_n hg, if_pos sg, nI_clamp (by omega)]
theorem le_f {f : Nat → Int32} {g : Nat} (hg : g < 9) (sg : gs f g = false) : leR f (nI g) = (-1, f) := by rw [leR, hx_n hg, sg]; rfl
theorem lv_n1 {f : Nat → Int32} (h : IV f) {g : Nat} (hg : g < 9) (sg : gs f g = true) : nI (ng (lvF f g)) = nI (ng f) - nI 1 := by
  have e := lv_ng h hg sg
  rw [pk_sub (by omega), e, Nat.add_sub_cancel]
theorem lv_8b {f : Nat → Int32} (h : IV f) {g : Nat} (hg : g < 9) : lvF f g 8 = f 8 + owd f g + owt f g := by rw [lv_8 h hg, Int32.add_assoc]
theorem seat_0 {f : Nat → Int32} (h : IV f) {g : Nat} (hg : g < 9) : ¬ f (14 + 17 * g) < 0 := Int32.not_lt.mpr (h.sn g hg)
theorem seat_9 {f : Nat → Int32} (h : IV f) {g : Nat} (hg : g < 9) : ¬ f (14 + 17 * g) = -9 := fun z => absurd (h.sn g hg) (by rw [z]; decide)
theorem wr_t {f : Nat → Int32} {g : Nat} (hg : g < 9) (sg : gs f g = true) : woR f (nI g) = (f (16 + 17 * g), woF f g) := by rw [woR, hx_n hg, if_pos sg, nI_clamp (by omega)]
theorem wr_f {f : Nat → Int32} {g : Nat} (hg : g < 9) (sg : gs f g = false) : woR f (nI g) = (-1, f) := by rw [woR, hx_n hg, sg]; rfl
theorem wo_gs {f : Nat → Int32} {g : Nat} (sg : gs f g = true) : gs (woF f g) g = true := by rw [← sg]; exact gs_congr (wo_ne (by omega) (by omega) (by omega))
theorem ow_lt {f : Nat → Int32} {x z : Int32} (c : pairE f x z < 0) : owR f x z = pairE f x z := if_pos c
/-- a pair is a pair of guests, or owR tells the error -/
theorem pr_is {f : Nat → Int32} {g o : Nat} (hg : g < 9) (ho : o < 9) : (pairE f (nI g) (nI o) < 0) ∨ (g ≠ o ∧ gs f g = true ∧ gs f o = true ∧ ¬ pairE f (nI g) (nI o) < 0) := by
  by_cases c : pairE f (nI g) (nI o) < 0
  · exact Or.inl c
  · obtain ⟨g2, o2, h1, h2, h3, e1, e2, s1, s2⟩ := pairE_ok (Int32.not_lt.mp c)
    rw [← (nI_eq (by omega) (by omega)).mp e1] at h3 s1
    rw [← (nI_eq (by omega) (by omega)).mp e2] at h3 s2
    exact Or.inr ⟨h3, s1, s2, c⟩
theorem cell_v {f : Nat → Int32} (h : IV f) {g o : Nat} (hg : g < 9) (ho : o < 9) : ∃ k, k ≤ 21 ∧ f (21 + 17 * g + o) = nI k := by
  obtain ⟨w, a, b⟩ := h.ow g hg
  exact ⟨w o, Nat.le_trans (sumN_at 9 ho) b, a o ho⟩
theorem cell_0 {f : Nat → Int32} (h : IV f) {g o : Nat} (hg : g < 9) (ho : o < 9) : ¬ f (21 + 17 * g + o) < 0 := by
  obtain ⟨k, hk, e⟩ := cell_v h hg ho
  rw [e]
  exact nI_pos (by omega)
theorem bo_lt {f : Nat → Int32} {x z : Int32} (c : pairE f x z < 0) : boR f x z = (pairE f x z, f) := if_pos c
theorem bo_0 {f : Nat → Int32} {g o : Nat} (hg : g < 9) (ho : o < 9) (c : ¬ pairE f (nI g) (nI o) < 0) (e : f (21 + 17 * g + o) = 0) : boR f (nI g) (nI o) = (-5, f) := by rw [boR, if_neg c, nI_clamp (by omega), nI_clamp (by omega), if_pos e]
theorem bo_n {f : Nat → Int32} {g o : Nat} (hg : g < 9) (ho : o < 9) (c : ¬ pairE f (nI g) (nI o) < 0) (e : ¬ f (21 + 17 * g + o) = 0) : boR f (nI g) (nI o) = (f (21 + 17 * g + o) - 1, payF f g o) := by rw [boR, if_neg c, nI_clamp (by omega), nI_clamp (by omega), if_neg e]
theorem pay_7 {f : Nat → Int32} {g o : Nat} (e : ¬ f (21 + 17 * g + o) = 0) : payF f g o 7 = f 7 + nI 1 := by rw [payF, if_neg e, upd_at]; rfl
theorem pay_c {f : Nat → Int32} {g o : Nat} (ho : o < 9) (e : ¬ f (21 + 17 * g + o) = 0) : payF f g o (21 + 17 * g + o) = f (21 + 17 * g + o) - 1 := by rw [payF, if_neg e, upd_ne (by omega), upd_ne (by omega), upd_at]
theorem pay_gs {f : Nat → Int32} {g o i : Nat} (ho : o < 9) : gs (payF f g o) i = gs f i := gs_congr (pay_ne (by omega) (by omega) (by omega))
theorem of_lt {f : Nat → Int32} {x z : Int32} {c : Nat} (n : pairE f x z < 0) : ofR f x z c = (pairE f x z, f) := if_pos n
theorem of_p {f : Nat → Int32} {g o c : Nat} (hg : g < 9) (ho : o < 9) (n : ¬ pairE f (nI g) (nI o) < 0) (e : ¬ rsn f o = 0) : ofR f (nI g) (nI o) c = (-5, f) := by rw [ofR, if_neg n, nI_clamp (show o < 2 ^ 31 by omega), if_pos (Or.inl e)]
theorem of_n {f : Nat → Int32} {T g o : Nat} (h : JV f T) (hT : T ≤ 9900) (hg : g < 9) (ho : o < 9) (n : ¬ pairE f (nI g) (nI o) < 0) (e : rsn f o = 0) : ofR f (nI g) (nI o) (cu f) = (ofF f g o (cu f) (21 + 17 * o + g), ofF f g o (cu f)) := by
  obtain ⟨t, ht, et⟩ := t4 h
  have hc := cu_le h.iv
  rw [ofR, if_neg n, nI_clamp (show o < 2 ^ 31 by omega), nI_clamp (show g < 2 ^ 31 by omega), if_neg (fun z => ?_)]
  rcases z with z | z
  · exact z e
  · rw [et, h.iv.hc, nI_add] at z
    have := (nI_ltI (by omega) (by omega)).mp z
    omega
/-- the bows that both owe, the two new ones among them -/
def lsF (f : Nat → Int32) (g o : Nat) : Int32 := if f (21 + 17 * o + g) + nI 2 < f (21 + 17 * g + o) then f (21 + 17 * o + g) + nI 2 else f (21 + 17 * g + o)
theorem of_min {f : Nat → Int32} {g o c : Nat} (hg : g < 9) (ho : o < 9) (hgo : g ≠ o) : minF (layF (drF f o c) o g (nI 2)) g o = lsF f g o := by rw [minF, lsF, lay_at, drF_owes f o c hg, lay_ne (by omega) (by omega), drF_owes f o c ho]
theorem of_og {f : Nat → Int32} {g o c : Nat} (hg : g < 9) (ho : o < 9) (hgo : g ≠ o) : ofF f g o c (21 + 17 * o + g) = f (21 + 17 * o + g) + nI 2 - lsF f g o := by
  rw [ofF, offF, upd_ne (by omega), upd_at, of_min hg ho hgo, lay_at, drF_owes f o c hg]
theorem of_go {f : Nat → Int32} {g o c : Nat} (hg : g < 9) (ho : o < 9) (hgo : g ≠ o) : ofF f g o c (21 + 17 * g + o) = f (21 + 17 * g + o) - lsF f g o := by
  rw [ofF, offF, upd_ne (by omega), upd_ne (by omega), upd_at, of_min hg ho hgo, lay_ne (by omega) (by omega), drF_owes f o c ho]
theorem of_c7 {f : Nat → Int32} {g o c : Nat} (hg : g < 9) (ho : o < 9) (hgo : g ≠ o) : ofF f g o c 9 = f 9 + nI 2 * lsF f g o := by
  rw [ofF, offF, upd_at, of_min hg ho hgo, lay_ne (by omega) (by omega), drF_ne2 (by omega) (by omega) (by omega) (by omega)]
  rfl
theorem of_cu {f : Nat → Int32} {g o c : Nat} (hg : g < 9) (ho : o < 9) : ofF f g o c (17 + 17 * o) = f (17 + 17 * o) + nI 1 := by
  rw [ofF, off_ne (by omega) (by omega) (by omega), lay_ne (by omega) (by omega), drF, psF_ne _ _ (by omega) (by omega) (by omega), dr2, upd_ne (by omega), dr1, upd_at]
theorem of_gs {f : Nat → Int32} {g o c i : Nat} (hg : g < 9) (ho : o < 9) : gs (ofF f g o c) i = gs f i := gs_congr (by rw [ofF, off_ne (by omega) (by omega) (by omega), lay_ne (by omega) (by omega), drF_ne2 (by omega) (by omega) (by omega) (by omega)])
theorem se_in {f : Nat → Int32} {k w : Nat} (hk : k < 4) (h1 : 1 ≤ w) (h2 : w ≤ mxS k) : seB (nI k) (nI w) = true := by
  have hm : mxS k ≤ 30 := by
    unfold mxS
    split
    · omega
    · split <;> omega
  rw [seB_j hk]
  exact inB_T (nI_le h1 (by omega)) (nI_le h2 (by omega))
theorem se_13 {f : Nat → Int32} {k : Nat} (hk : k < 4) : coR1 f (nI (13 + k)) = f k := by rw [coR1_set (by omega) (by omega), setR_in hk]
theorem be_n {f : Nat → Int32} {T m : Nat} (h : JV f T) (hT : T ≤ 9900) (h1 : 1 ≤ m) (h2 : m ≤ 99) : beR f (nI m) = (nI (brMC f m), psF f m) := by
  obtain ⟨t, ht, et⟩ := t4 h
  rw [beR, if_neg (fun z => ?_), if_neg (fun z => ?_), nI_clamp (by omega)]
  · rw [et, nI_add] at z
    have := (nI_ltI (by omega) (by omega)).mp z
    omega
  · rcases z with z | z
    · exact nI_nlt h1 (by omega) z
    · exact nI_nlt h2 (by omega) z
theorem ps_12 (f : Nat → Int32) (m : Nat) : nI (brMC f m) = psF f m 12 - f 12 := by
  rw [psF, upd_at, ps1, upd_ne (by omega), brM_ne f (by omega), Int32.sub_eq_add_neg, Int32.add_comm (f 12), Int32.add_assoc, Int32.add_right_neg, Int32.add_zero]
theorem ps_4 (f : Nat → Int32) (m : Nat) : psF f m 4 = f 4 + nI m := by rw [psF, upd_ne (by omega), ps1, upd_at, brM_ne f (by omega)]
/-! the property of its own: who could lead -/
def anyN (Q : Nat → Bool) : Nat → Bool
  | 0 => false
  | m + 1 => anyN Q m || Q m
theorem anyN_t {Q : Nat → Bool} : ∀ m, anyN Q m = true ↔ ∃ i, i < m ∧ Q i = true
  | 0 => by
    constructor
    · intro z
      cases z
    · rintro ⟨i, a, b⟩
      omega
  | m + 1 => by
    rw [anyN, Bool.or_eq_true, anyN_t m]
    constructor
    · rintro (⟨i, a, b⟩ | h)
      · exact ⟨i, by omega, b⟩
      · exact ⟨m, by omega, h⟩
    · rintro ⟨i, a, b⟩
      by_cases e : i = m
      · exact Or.inr (e ▸ b)
      · exact Or.inl ⟨i, by omega, b⟩
def lz (f : Nat → Int32) (g : Nat) : Nat → Bool := fun k => decide (rk (biF f k) g = 0)
def ldN (f : Nat → Int32) (m : Nat) : Nat → Bool := fun g => gs f g && anyN (lz f g) m
theorem or_9 : ∀ b0 b1 b2 b3 b4 b5 b6 b7 b8 : Bool, ∀ j : Fin 9, orI (fun i => [b0, b1, b2, b3, b4, b5, b6, b7, b8].getD i false) 9 ||| (nI 1 <<< (nI j.val &&& 31)) = orI (fun i => [b0, b1, b2, b3, b4, b5, b6, b7, b8].getD i false || decide (i = j.val)) 9 := by decide +kernel
theorem or_add (P : Nat → Bool) {j : Nat} (hj : j < 9) : orI P 9 ||| (nI 1 <<< (nI j &&& 31)) = orI (fun i => P i || decide (i = j)) 9 := by
  have h := or_9 (P 0) (P 1) (P 2) (P 3) (P 4) (P 5) (P 6) (P 7) (P 8) ⟨j, hj⟩
  rw [orI_congr 9 (P_9 P)]
  refine h.trans (orI_congr 9 (fun i hi => ?_))
  rw [P_9 P i hi]
theorem gs_bi (f : Nat → Int32) (k g : Nat) : gs (biF f k) g = gs f g := gs_congr (biF_ne f (by omega) (by omega) (by omega) k)
theorem gr_is {f : Nat → Int32} (h : IV f) (n : ¬ ng f = 0) : ∃ g, g < 9 ∧ gs f g = true ∧ rk f g = 0 ∧ grR f = nI g := by
  obtain ⟨g, hg, sg, e⟩ := rk_is h.su (show 0 < ng f by omega)
  have hP : rnP f (nI 0) g = true := by rw [rnP, sg, e]; rfl
  exact ⟨g, hg, sg, e, lst_one hP 9 hg (fun i hi hp => rnP_u h.ru hi hg hp hP)⟩
theorem cl_ld {f : Nat → Int32} (h : IV f) (n : ¬ ng f = 0) : ∀ m, clX f m = orI (ldN f m) 9
  | 0 => by
    have e : ∀ i, i < 9 → ldN f 0 i = (fun _ => false) i := fun i hi => Bool.and_false _
    rw [orI_congr 9 e]
    rfl
  | m + 1 => by
    have hb := IV_bi h m
    obtain ⟨j, hj, sj, ej, er⟩ := gr_is hb (by rw [ng_bi]; exact n)
    rw [gs_bi] at sj
    rw [clX, er, cl_ld h n m, or_add _ hj]
    refine orI_congr 9 (fun i hi => ?_)
    by_cases c : i = j
    · subst c
      have z : lz f i m = true := decide_eq_true ej
      rw [decide_eq_true rfl, Bool.or_true, ldN, sj, anyN, z, Bool.or_true]
      rfl
    · rw [decide_eq_false c, Bool.or_false, ldN, ldN, anyN]
      cases s : gs f i
      · rw [Bool.false_and, Bool.false_and]
      · have z : lz f i m = false := decide_eq_false (fun q => c (hb.ru i j hi hj (by rw [gs_bi]; exact s) (by rw [gs_bi]; exact sj) (by rw [q, ej])))
        rw [z, Bool.or_false]
theorem cl_is {f : Nat → Int32} (h : IV f) : clR f = orI (ldN f 101) 9 := by
  by_cases n : ng f = 0
  · rw [clR, if_pos n]
    have e : ∀ i, i < 9 → ldN f 101 i = (fun _ => false) i := fun i hi => by
      unfold ldN
      cases s : gs f i
      · rw [Bool.false_and]
      · have := rk_ng (f := f) hi s
        omega
    rw [orI_congr 9 e]
    rfl
  · rw [clR, if_neg n, ← clX_F, cl_ld h n]
theorem nt_9 : ∀ b0 b1 b2 b3 b4 b5 b6 b7 b8 : Bool, ∀ j : Fin 9, [b0, b1, b2, b3, b4, b5, b6, b7, b8].getD j.val false = true → (nI 1 <<< (nI j.val &&& 31)) &&& (orI (fun i => [b0, b1, b2, b3, b4, b5, b6, b7, b8].getD i false) 9 ^^^ -1) = 0 := by decide +kernel
theorem or_and0 {a b x : Int32} (ha : a &&& x = 0) (hb : b &&& x = 0) : (a ||| b) &&& x = 0 := by
  have h1 := congrArg Int32.toBitVec ha
  have h2 := congrArg Int32.toBitVec hb
  apply Int32.toBitVec_inj.mp
  rw [Int32.toBitVec_and] at h1 h2
  rw [Int32.toBitVec_and, Int32.toBitVec_or]
  have e : (a.toBitVec ||| b.toBitVec) &&& x.toBitVec = (a.toBitVec &&& x.toBitVec) ||| (b.toBitVec &&& x.toBitVec) := by
    ext i hi
    simp [Bool.and_or_distrib_right]
  rw [e, h1, h2]
  rfl
theorem or_nt (P Q : Nat → Bool) (h : ∀ i, i < 9 → P i = true → Q i = true) : ∀ n, n ≤ 9 → orI P n &&& (orI Q 9 ^^^ -1) = 0
  | 0, _ => by
    show (0 : Int32) &&& _ = 0
    exact Int32.zero_and
  | n + 1, hn => by
    rw [orI]
    cases p : P n
    · exact or_nt P Q h n (by omega)
    · rw [if_pos rfl]
      refine or_and0 (or_nt P Q h n (by omega)) ?_
      have e := nt_9 (Q 0) (Q 1) (Q 2) (Q 3) (Q 4) (Q 5) (Q 6) (Q 7) (Q 8) ⟨n, by omega⟩ (by rw [← P_9 Q n (by omega)]; exact h n (by omega) p)
      rw [orI_congr 9 (P_9 Q)]
      exact e
theorem ld_gs {f : Nat → Int32} {m g : Nat} (h : ldN f m g = true) : gs f g = true := by
  rw [ldN, Bool.and_eq_true] at h
  exact h.1
theorem cl_nt {f : Nat → Int32} (h : IV f) : clR f &&& (orI (gs f) 9 ^^^ -1) = 0 := by
  rw [cl_is h]
  exact or_nt _ _ (fun i _ p => ld_gs p) 9 (Nat.le_refl _)
theorem ld_0 {f : Nat → Int32} {g : Nat} (sg : gs f g = true) (e : rk f g = 0) : ldN f 101 g = true := by
  rw [ldN, sg, Bool.true_and]
  exact (anyN_t 101).mpr ⟨0, by decide, decide_eq_true e⟩
theorem cl_bt {f : Nat → Int32} (h : IV f) {g : Nat} (hg : g < 9) (l : ldN f 101 g = true) : (clR f >>> (nI g &&& 31)) &&& nI 1 = nI 1 := by rw [cl_is h]; exact bit_t hg l
theorem cl_bf {f : Nat → Int32} (h : IV f) {g : Nat} (hg : g < 9) (l : ldN f 101 g = false) : (clR f >>> (nI g &&& 31)) &&& nI 1 = nI 0 := by rw [cl_is h]; exact bit_f hg l
theorem cl_r0 {f : Nat → Int32} (h : IV f) (n : ¬ ng f = 0) : (clR f >>> (lst (rnP f (nI 0)) 9 &&& 31)) &&& nI 1 = nI 1 := by
  obtain ⟨g, hg, sg, e, er⟩ := gr_is h n
  rw [show lst (rnP f (nI 0)) 9 = nI g from er]
  exact cl_bt h hg (ld_0 sg e)
theorem cl_0 {f : Nat → Int32} (n : ng f = 0) : clR f = 0 := by rw [clR, if_pos n]; rfl
theorem sh_0 : ∀ j : Fin 9, ((0 : Int32) >>> (nI j.val &&& 31)) &&& nI 1 = nI 0 := by decide +kernel
theorem cl_n0 {f : Nat → Int32} (h : IV f) (n : ¬ ng f = 0) : ¬ clR f = 0 := by
  obtain ⟨g, hg, sg, e, er⟩ := gr_is h n
  intro z
  have b := cl_bt h hg (ld_0 sg e)
  rw [z, sh_0 ⟨g, hg⟩] at b
  exact absurd b (by decide)
theorem rk0_le {f : Nat → Int32} {g : Nat} : nI (rk f g) ≤ nI 0 ↔ rk f g = 0 := by
  have := rk_le f g
  rw [nI_leI (by omega) (by decide)]
  omega
/-- just those who would sit first within a hundred breaths -/
theorem un_t {f : Nat → Int32} {g : Nat} (hg : g < 9) (l : ldN f 101 g = true) : ¬ stR f (nI g) (nI 0) < 0 ∧ ¬ nI 100 < stR f (nI g) (nI 0) := by
  have sg := ld_gs l
  have h0 : 0 < ng f := Nat.lt_of_le_of_lt (Nat.zero_le _) (rk_ng hg sg)
  rw [ldN, sg, Bool.true_and] at l
  obtain ⟨k, hk, ek⟩ := (anyN_t 101).mp l
  have ek := of_decide_eq_true ek
  rw [stR_X hg sg h0]
  rcases siX_is f g (nI 0) 301 0 with ⟨a, b⟩ | ⟨i, a, b, d, e, m⟩
  · exact absurd (rk0_le.mpr ek) (b k (by omega) (by omega))
  · have : i ≤ k := Nat.le_of_not_lt (fun z => m k (by omega) z (rk0_le.mpr ek))
    rw [d]
    exact ⟨nI_pos (by omega), nI_nlt (by omega) (by omega)⟩
theorem un_f {f : Nat → Int32} {g : Nat} (hg : g < 9) (sg : gs f g = true) (l : ldN f 101 g = false) (n : ¬ stR f (nI g) (nI 0) < 0) : nI 100 < stR f (nI g) (nI 0) := by
  have h0 : 0 < ng f := Nat.lt_of_le_of_lt (Nat.zero_le _) (rk_ng hg sg)
  have al : ∀ k, k < 101 → ¬ rk (biF f k) g = 0 := fun k hk z => by
    have t : ldN f 101 g = true := by
      rw [ldN, sg, Bool.true_and]
      exact (anyN_t 101).mpr ⟨k, hk, decide_eq_true z⟩
    rw [l] at t
    cases t
  rw [stR_X hg sg h0] at n ⊢
  rcases siX_is f g (nI 0) 301 0 with ⟨a, b⟩ | ⟨i, a, b, d, e, m⟩
  · rw [a] at n
    exact absurd (by decide) n
  · rw [d]
    refine nI_lt (Nat.lt_of_not_le (fun z => al i (by omega) (rk0_le.mp e))) (by omega)
theorem ld_f {f : Nat → Int32} {g : Nat} (sg : gs f g = false) : ldN f 101 g = false := by rw [ldN, sg, Bool.false_and]
/-! the property of its own: the start -/
theorem gs_iF (g : Nat) : gs iF g = false := by
  rw [gs, iF_0 (by omega)]
  decide
theorem ng_iF : ng iF = 0 := cnt_0 9 (fun i _ => gs_iF i)
theorem IV_iF : IV iF := by
  refine ⟨fun g hg => Or.inr ⟨iF_0 (by omega), iF_0 (by omega)⟩, fun i j hi hj a => ?_, fun i hi a => ?_, fun i hi a k hk => iF_0 (by omega), ⟨2, by decide, rfl⟩, ⟨3, by decide, rfl⟩, fun g hg => ⟨fun _ => 0, fun o ho => iF_0 (by omega), by decide⟩⟩
  · rw [gs_iF] at a
    cases a
  · rw [gs_iF] at a
    cases a
theorem sumI_0 : ∀ n, sumI (fun _ => nI 0) n = 0
  | 0 => rfl
  | n + 1 => by
    rw [sumI, sumI_0 n]
    rfl
theorem JV_iF : JV iF 0 := by
  refine ⟨IV_iF, ⟨⟨⟨3, by decide, rfl⟩, fun g hg => ⟨⟨0, by decide, iF_0 (by omega)⟩, 0, by decide, iF_0 (by omega)⟩⟩, ⟨9, by decide, rfl⟩, ⟨0, by decide, rfl⟩, fun g hg => ⟨0, by decide, iF_0 (by omega)⟩⟩, fun g o hg ho _ => iF_0 (by omega), ?_⟩
  have e : owa iF = 0 := (sumI_congr (h' := fun _ => nI 0) 81 (fun c _ => iF_0 (by unfold o_at; omega))).trans (sumI_0 81)
  unfold JS
  rw [e]
  rfl
theorem SR_iF : SR iF := fun g _ s => by
  rw [gs_iF] at s
  cases s
