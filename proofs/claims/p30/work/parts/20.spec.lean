/-! the reference's methods: the same words -/
def inB (x lo hi : Int32) : Bool := decide (lo ≤ x) && decide (x ≤ hi)
theorem inB_t {x lo hi : Int32} (h : inB x lo hi = true) : lo ≤ x ∧ x ≤ hi := by
  simpa only [inB, Bool.and_eq_true, decide_eq_true_eq] using h
theorem inB_f {x lo hi : Int32} (h : inB x lo hi = false) : x < lo ∨ hi < x := by
  by_cases a : lo ≤ x
  · right
    rw [inB, decide_eq_true a, Bool.true_and] at h
    exact Int32.not_le.mp (of_decide_eq_false h)
  · exact Or.inl (Int32.not_le.mp a)
theorem in8_t {x : Int32} (h : inB x (nI 0) (nI 8) = true) : ∃ g : Nat, g < 9 ∧ x = nI g := by
  obtain ⟨a, b⟩ := inB_t h
  refine x_is (by decide) (Int32.not_lt.mpr a) (fun z => absurd (Int32.le_trans z b) (by decide))
theorem in8_f {f : Nat → Int32} {x : Int32} (h : inB x (nI 0) (nI 8) = false) : hx f x = false := by
  rcases inB_f h with a | a
  · exact hx_lo a
  · refine hx_hi (Int32.not_lt.mp (fun z => ?_))
    have h0 : ¬ x < 0 := fun q => absurd (Int32.lt_trans a q) (by decide)
    obtain ⟨k, hk, rfl⟩ := nI_of h0
    rw [nI_ltI (by decide) hk] at a
    rw [nI_ltI hk (by decide)] at z
    omega
theorem fl_add {f : Nat → Int32} (h : PF f) {j : Nat} (hj : j < 9) : nI (cnt (gs f) j) + f (13 + 17 * j) = nI (cnt (gs f) (j + 1)) := by
  rcases h j hj with ⟨h1, -⟩ | ⟨h1, -⟩
  · rw [h1, cnt_t (by simp [gs, h1])]
    exact nI_1 _
  · rw [h1, cnt_f (by rw [gs, h1]; decide)]
    exact Int32.add_zero _
/-- what is owed is little -/
def OB (f : Nat → Int32) : Prop := ∀ g, g < 9 → ∃ k : Nat, k < 2 ^ 30 ∧ owd f g = nI k
theorem ob_lt {f : Nat → Int32} (h : OB f) {g o : Nat} (hg : g < 9) (ho : o < 9) : owd f g - owd f o < 0 ↔ owd f g < owd f o := by
  obtain ⟨a, ha, ea⟩ := h g hg
  obtain ⟨b, hb, eb⟩ := h o ho
  rw [ea, eb, Int32.lt_iff_toInt_lt, pk_sub_toInt ha hb, nI_ltI (by omega) (by omega)]
  show (a : Int) - b < 0 ↔ a < b
  omega
theorem ob_eq {f : Nat → Int32} (h : OB f) {g o : Nat} (hg : g < 9) (ho : o < 9) : owd f g - owd f o = 0 ↔ owd f g = owd f o := by
  obtain ⟨a, ha, ea⟩ := h g hg
  obtain ⟨b, hb, eb⟩ := h o ho
  rw [ea, eb, ← Int32.toInt_inj, pk_sub_toInt ha hb, nI_eq (by omega) (by omega)]
  show (a : Int) - b = 0 ↔ a = b
  omega
def rkV (r f : Nat → Int32) : Nat → Nat → Int32
  | 0 => r
  | j + 1 => upd (rkV r f j) j (if gs f j = true then nI (rk f j) else nI 0)
theorem rkV_at (r f : Nat → Int32) : ∀ j i, i < j → rkV r f j i = (if gs f i = true then nI (rk f i) else nI 0)
  | 0, _, h => absurd h (by omega)
  | j + 1, i, h => by
    rw [rkV]
    by_cases e : i = j
    · rw [e, upd_at]
    · rw [upd_ne e, rkV_at r f j i (by omega)]
theorem upd_id {f : Nat → Int32} {k : Nat} {x : Int32} (h : f k = x) : upd f k x = f := by rw [← h]; exact upd_self f k
theorem upd_comm {f : Nat → Int32} {k l : Nat} {x z : Int32} (h : k ≠ l) : upd (upd f k x) l z = upd (upd f l z) k x := by
  funext j
  by_cases a : j = k
  · by_cases b : j = l
    · omega
    · rw [upd_ne b, upd_is a, upd_is a]
  · by_cases b : j = l
    · rw [upd_is b, upd_ne a, upd_is b]
    · rw [upd_ne b, upd_ne a, upd_ne a, upd_ne b]
theorem upd_upd {f : Nat → Int32} {k : Nat} {x z : Int32} : upd (upd f k x) k z = upd f k z := by
  funext j
  by_cases a : j = k
  · rw [upd_is a, upd_is a]
  · rw [upd_ne a, upd_ne a, upd_ne a]
theorem si1_4 (h : Nat → Int32) (v : Int32) (g : Nat) : si1 (upd h 4 v) g = upd (si1 h g) 4 v := by
  rw [si1, si1, upd_ne (show 16 + 17 * g ≠ 4 by omega), upd_comm (by omega)]
theorem sgT_4 (h : Nat → Int32) (v : Int32) (g : Nat) : sgT (upd h 4 v) g = sgT h g := by
  rw [sgT, sgT, si1_4, upd_ne (show 16 + 17 * g ≠ 4 by omega), upd_ne (show 3 ≠ 4 by omega), upd_ne (show 15 + 17 * g ≠ 4 by omega)]
theorem sgF_4 (h : Nat → Int32) (v : Int32) (g : Nat) : sgF (upd h 4 v) g = upd (sgF h g) 4 v := by
  rw [sgF, sgF, sgT_4]
  split
  · rw [sg1, sg1, si1_4, upd_ne (show 15 + 17 * g ≠ 4 by omega), upd_comm (show 4 ≠ 16 + 17 * g by omega), upd_ne (show 18 + 17 * g ≠ 4 by omega), upd_comm (show 4 ≠ 18 + 17 * g by omega)]
  · exact si1_4 h v g
theorem gs_4 (h : Nat → Int32) (v : Int32) (g : Nat) : gs (upd h 4 v) g = gs h g := gs_congr (upd_ne (by omega))
theorem brN_4 (h : Nat → Int32) (v : Int32) : ∀ j, brN (upd h 4 v) j = upd (brN h j) 4 v
  | 0 => rfl
  | j + 1 => by
    rw [brN, brN, gs_4, brN_4 h v j]
    split
    · exact sgF_4 _ _ _
    · rfl
theorem brP_4 (h : Nat → Int32) (v : Int32) : brP (upd h 4 v) = brP h := by
  funext i
  rw [brP, brP, gs_4, brN_4, sgT_4]
theorem ps1_0 (s : Nat → Int32) : ps1 s 0 = s := upd_id (Int32.add_zero _).symm
theorem ps1_s (s : Nat → Int32) (k : Nat) : upd (brN (ps1 s k) 9) 4 (brN (ps1 s k) 9 4 + nI 1) = ps1 s (k + 1) := by
  rw [ps1, brN_4, upd_at, upd_upd, ps1]
  show upd (brN (brM s k) 9) 4 _ = upd (brN (brM s k) 9) 4 (brN (brM s k) 9 4 + nI (k + 1))
  rw [brN_ne (brM s k) (i := 4) (by omega), Int32.add_assoc, nI_add]
theorem brMC_s (s : Nat → Int32) (k : Nat) : brMC s k + cnt (brP (ps1 s k)) 9 = brMC s (k + 1) := by rw [ps1, brP_4]; rfl
theorem PF_ps1 {f : Nat → Int32} (h : PF f) (j : Nat) : PF (ps1 f j) := PF_congr (PF_brM h j) (fun g _ => upd_ne (by omega)) (fun g _ => upd_ne (by omega))
theorem fl_t {f : Nat → Int32} {g : Nat} (c : f (13 + 17 * g) = nI 1) : gs f g = true := decide_eq_true c
theorem fl_f {f : Nat → Int32} {g : Nat} (c : ¬ f (13 + 17 * g) = nI 1) : gs f g = false := decide_eq_false c
theorem fl_1 {f : Nat → Int32} {g : Nat} (c : gs f g = true) : f (13 + 17 * g) = nI 1 := of_decide_eq_true c
theorem fl_0 {f : Nat → Int32} (h : PF f) {g : Nat} (hg : g < 9) (c : gs f g = false) : f (13 + 17 * g) = nI 0 := by
  rcases h g hg with ⟨h1, -⟩ | ⟨h1, -⟩
  · rw [gs, h1] at c
    exact absurd c (by decide)
  · exact h1
/-- an empty place's row is empty -/
def ZR (f : Nat → Int32) : Prop := ∀ g, g < 9 → gs f g = false → ∀ k, k < 17 → f (13 + 17 * g + k) = 0
theorem rsn_pos {f : Nat → Int32} {g : Nat} : (0 < rsn f g) ↔ ¬ rsn f g = 0 := by
  unfold rsn
  split
  · decide
  · split <;> decide
/-- the seats behind one who leaves, and what is owed to the one, up to the guest j -/
def lm (f : Nat → Int32) (g : Nat) (v : Int32) : Nat → Nat → Int32
  | 0 => f
  | j + 1 => upd (upd (lm f g v j) (14 + 17 * j) (lm f g v j (14 + 17 * j) - (if v < lm f g v j (14 + 17 * j) then nI 1 else nI 0))) (21 + 17 * j + g) (nI 0)
def zr (f : Nat → Int32) (g : Nat) : Nat → Nat → Int32
  | 0 => f
  | k + 1 => upd (zr f g k) (13 + 17 * g + k) (nI 0)
def lvM (f : Nat → Int32) (g : Nat) : Nat → Int32 := zr (lm (upd f 8 (f 8 + (owd f g + owt f g))) g (f (14 + 17 * g)) 9) g 17
theorem lm_ne {f : Nat → Int32} {g i : Nat} {v : Int32} (hg : g < 9) : ∀ j, j ≤ 9 → (i < 13 ∨ ((i - 13) % 17 ≠ 1 ∧ (i - 13) % 17 ≠ 8 + g)) → lm f g v j i = f i
  | 0, _, _ => rfl
  | j + 1, hj, h => by rw [lm, upd_ne (by omega), upd_ne (by omega), lm_ne hg j (by omega) h]
theorem lm_later {f : Nat → Int32} {g o : Nat} {v : Int32} (hg : g < 9) : ∀ j, j ≤ o → lm f g v j (14 + 17 * o) = f (14 + 17 * o)
  | 0, _ => rfl
  | j + 1, hj => by rw [lm, upd_ne (by omega), upd_ne (by omega), lm_later hg j (by omega)]
theorem lm_seat {f : Nat → Int32} {g o : Nat} {v : Int32} (hg : g < 9) : ∀ j, o < j → lm f g v j (14 + 17 * o) = f (14 + 17 * o) - (if v < f (14 + 17 * o) then nI 1 else nI 0)
  | 0, h => absurd h (by omega)
  | j + 1, h => by
    rw [lm, upd_ne (by omega)]
    by_cases e : o = j
    · subst e
      rw [upd_at, lm_later hg o (Nat.le_refl _)]
    · rw [upd_ne (by omega), lm_seat hg j (by omega)]
theorem lm_owes {f : Nat → Int32} {g o : Nat} {v : Int32} (hg : g < 9) : ∀ j, o < j → lm f g v j (21 + 17 * o + g) = 0
  | 0, h => absurd h (by omega)
  | j + 1, h => by
    rw [lm]
    by_cases e : o = j
    · subst e
      rw [upd_at]
      rfl
    · rw [upd_ne (by omega), upd_ne (by omega), lm_owes hg j (by omega)]
theorem zr_in {f : Nat → Int32} {g i : Nat} : ∀ k, 13 + 17 * g ≤ i → i < 13 + 17 * g + k → zr f g k i = 0
  | 0, h1, h2 => by omega
  | k + 1, h1, h2 => by
    rw [zr]
    by_cases e : i = 13 + 17 * g + k
    · rw [upd_is e]
      rfl
    · rw [upd_ne e, zr_in k h1 (by omega)]
theorem zr_out {f : Nat → Int32} {g i : Nat} : ∀ k, (i < 13 + 17 * g ∨ 13 + 17 * g + k ≤ i) → zr f g k i = f i
  | 0, _ => rfl
  | k + 1, h => by rw [zr, upd_ne (by omega), zr_out k (by omega)]
theorem se0_later {f : Nat → Int32} {o : Nat} {v : Int32} : ∀ j, j ≤ o → se0 f v j (14 + 17 * o) = f (14 + 17 * o) := fun j hj => se0_ne f j (fun g hg => by omega)
theorem se0_seat {f : Nat → Int32} {o : Nat} {v : Int32} : ∀ j, o < j → se0 f v j (14 + 17 * o) = (if gs f o = true ∧ v < f (14 + 17 * o) then f (14 + 17 * o) - nI 1 else f (14 + 17 * o))
  | 0, h => absurd h (by omega)
  | j + 1, h => by
    rw [se0]
    by_cases e : o = j
    · subst e
      by_cases c : gs f o = true ∧ v < f (14 + 17 * o)
      · rw [if_pos c, if_pos c, upd_at]
      · rw [if_neg c, if_neg c, se0_later o (Nat.le_refl _)]
    · split
      · rw [upd_ne (by omega), se0_seat j (by omega)]
      · exact se0_seat j (by omega)
theorem fg0_row {f : Nat → Int32} {g o : Nat} : ∀ j, o < j → j ≤ 9 → g < 9 → fg0 f g j (21 + 17 * g + o) = 0
  | 0, h, _, _ => absurd h (by omega)
  | j + 1, h, hj, hg => by
    rw [fg0]
    by_cases e : 21 + 17 * g + o = 21 + 17 * j + g
    · rw [upd_is e]
    · rw [upd_ne e]
      by_cases e2 : o = j
      · rw [e2, upd_at]
      · rw [upd_ne (by omega), fg0_row j (by omega) (by omega) hg]
theorem fg0_col {f : Nat → Int32} {g o : Nat} : ∀ j, o < j → j ≤ 9 → g < 9 → fg0 f g j (21 + 17 * o + g) = 0
  | 0, h, _, _ => absurd h (by omega)
  | j + 1, h, hj, hg => by
    rw [fg0]
    by_cases e : o = j
    · rw [e, upd_at]
    · rw [upd_ne (by omega)]
      by_cases e2 : 21 + 17 * o + g = 21 + 17 * g + j
      · rw [upd_is e2]
      · rw [upd_ne e2, fg0_col j (by omega) (by omega) hg]
theorem fg0_else {f : Nat → Int32} {g i : Nat} (hg : g < 9) : ∀ j, j ≤ 9 → (∀ o, o < 9 → i ≠ 21 + 17 * g + o ∧ i ≠ 21 + 17 * o + g) → fg0 f g j i = f i
  | 0, _, _ => rfl
  | j + 1, hj, h => by rw [fg0, upd_ne (h j (by omega)).2, upd_ne (h j (by omega)).1, fg0_else hg j (by omega) h]
theorem sumI_congr {h h' : Nat → Int32} : ∀ n, (∀ i, i < n → h i = h' i) → sumI h n = sumI h' n
  | 0, _ => rfl
  | n + 1, e => by rw [sumI, sumI, e n (by omega), sumI_congr n (fun i hi => e i (by omega))]
theorem owd_congr {f f' : Nat → Int32} {g : Nat} (h : ∀ o, o < 9 → f (21 + 17 * g + o) = f' (21 + 17 * g + o)) : owd f g = owd f' g := sumI_congr 9 h
theorem owt_congr {f f' : Nat → Int32} {g : Nat} (h : ∀ o, o < 9 → f (21 + 17 * o + g) = f' (21 + 17 * o + g)) : owt f g = owt f' g := sumI_congr 9 h
/-- an empty place has seat 0, a guest's seat isn't below 0 -/
def SN (f : Nat → Int32) : Prop := ∀ g, g < 9 → 0 ≤ f (14 + 17 * g)
theorem lv_eq {f : Nat → Int32} (hp : PF f) (hz : ZR f) (hs : SN f) {g : Nat} (hg : g < 9) {i : Nat} (hi : i < 166) : lvM f g i = lvF f g i := by
  by_cases c1 : 13 + 17 * g ≤ i ∧ i < 30 + 17 * g
  · rw [lvM, zr_in 17 c1.1 (by omega)]
    unfold lvF
    by_cases e1 : i = 14 + 17 * g
    · rw [upd_is e1]
    rw [upd_ne e1]
    by_cases e2 : i = 19 + 17 * g
    · rw [upd_is e2]
    rw [upd_ne e2]
    by_cases e3 : i = 18 + 17 * g
    · rw [upd_is e3]
    rw [upd_ne e3]
    by_cases e4 : i = 17 + 17 * g
    · rw [upd_is e4]
    rw [upd_ne e4]
    by_cases e5 : i = 16 + 17 * g
    · rw [upd_is e5]
    rw [upd_ne e5]
    by_cases e6 : i = 15 + 17 * g
    · rw [upd_is e6]
    rw [upd_ne e6]
    by_cases e7 : i = 13 + 17 * g
    · rw [upd_is e7]
    rw [upd_ne e7, lv1, fgtF]
    by_cases e8 : i = 20 + 17 * g
    · rw [upd_is e8]
    rw [upd_ne e8, show i = 21 + 17 * g + (i - (21 + 17 * g)) by omega, fg0_row 9 (by omega) (Nat.le_refl _) hg]
  · rw [lvM, zr_out 17 (by omega), lvF, upd_ne (by omega), upd_ne (by omega), upd_ne (by omega), upd_ne (by omega), upd_ne (by omega), upd_ne (by omega), upd_ne (by omega), lv1, fgtF, upd_ne (by omega)]
    have o1 : owd (se0 f (f (14 + 17 * g)) 9) g = owd f g := owd_congr (fun o ho => se0_ne f 9 (fun x hx => by omega))
    have o2 : owt (se0 f (f (14 + 17 * g)) 9) g = owt f g := owt_congr (fun o ho => se0_ne f 9 (fun x hx => by omega))
    rw [o1, o2, se0_ne f (i := 8) 9 (fun x hx => by omega)]
    by_cases c2 : i < 13
    · rw [lm_ne hg 9 (Nat.le_refl _) (Or.inl c2), fg0_else hg 9 (Nat.le_refl _) (fun o ho => by omega)]
      by_cases e : i = 8
      · rw [upd_is e, upd_is e]
      · rw [upd_ne e, upd_ne e, se0_ne f 9 (fun x hx => by omega)]
    · have hk : i = 13 + 17 * ((i - 13) / 17) + (i - 13) % 17 := by omega
      have ho : (i - 13) / 17 < 9 := by omega
      generalize (i - 13) / 17 = o at hk ho
      by_cases c3 : (i - 13) % 17 = 1
      · have e : i = 14 + 17 * o := by omega
        rw [e, lm_seat hg 9 ho, fg0_else hg 9 (Nat.le_refl _) (fun x hx => by omega), upd_ne (by omega), upd_ne (by omega), se0_seat 9 ho]
        by_cases c : f (14 + 17 * g) < f (14 + 17 * o)
        · by_cases d : gs f o = true
          · rw [if_pos c, if_pos ⟨d, c⟩]
          · exfalso
            have z := hz o ho (by simpa using d) 1 (by omega)
            rw [show 13 + 17 * o + 1 = 14 + 17 * o by omega] at z
            rw [z] at c
            exact absurd c (Int32.not_lt.mpr (hs g hg))
        · rw [if_neg c, if_neg (fun q => c q.2)]
          exact Int32.sub_zero _
      · by_cases c4 : (i - 13) % 17 = 8 + g
        · have e : i = 21 + 17 * o + g := by omega
          rw [e, lm_owes hg 9 ho, fg0_col 9 ho (Nat.le_refl _) hg]
        · rw [lm_ne hg 9 (Nat.le_refl _) (Or.inr ⟨c3, c4⟩), upd_ne (by omega), fg0_else hg 9 (Nat.le_refl _) (fun x hx => by omega), upd_ne (by omega), se0_ne f 9 (fun x hx => by omega)]
def rwF (r f : Nat → Int32) : Nat → Nat → Int32
  | 0 => r
  | s + 1 => upd (rwF r f s) s (nI (od f s))
theorem rwF_at (r f : Nat → Int32) : ∀ j i, i < j → rwF r f j i = nI (od f i)
  | 0, _, h => absurd h (by omega)
  | j + 1, i, h => by
    rw [rwF]
    by_cases e : i = j
    · rw [e, upd_at]
    · rw [upd_ne e, rwF_at r f j i (by omega)]
theorem OB_congr {f f' : Nat → Int32} (h : OB f) (e : ∀ g, g < 9 → owd f' g = owd f g) : OB f' := fun g hg => by rw [e g hg]; exact h g hg
theorem stF_owd (f : Nat → Int32) (j g : Nat) : owd (stF f j) g = owd f g := sumI_congr 9 (fun o ho => stF_ne f j (fun x hx => by omega))

/-! the reference's public methods -/
theorem nI_ne1 {o : Nat} (h : o < 9) : ¬ nI o = -1 := fun e => by
  have := congrArg Int32.toInt e
  rw [nI_toInt (by omega)] at this
  have h2 : (-1 : Int32).toInt = -1 := rfl
  omega
def cpF (r s : Nat → Int32) (j : Nat) : Nat → Int32 := fun i => if i < j then s i else r i
theorem cpF_0 (r s : Nat → Int32) : cpF r s 0 = r := rfl
theorem cpF_s (r s : Nat → Int32) (j : Nat) : upd (cpF r s j) j (s j) = cpF r s (j + 1) := by
  funext i
  by_cases e : i = j
  · rw [upd_is e, cpF, if_pos (by omega), e]
  · rw [upd_ne e, cpF, cpF]
    by_cases l : i < j
    · rw [if_pos l, if_pos (by omega)]
    · rw [if_neg l, if_neg (by omega)]
theorem cpF_at {r s : Nat → Int32} {n i : Nat} (h : i < n) : cpF r s n i = s i := if_pos h
/-- the oldest state goes -/
def shF (B : Nat → Int32) (j : Nat) : Nat → Int32 := fun i => if i < j then B (166 + i) else B i
theorem shF_s (B : Nat → Int32) (j : Nat) : upd (shF B j) j (shF B j (166 + j)) = shF B (j + 1) := by
  funext i
  by_cases e : i = j
  · rw [upd_is e, shF, shF, if_neg (by omega), if_pos (by omega), e]
  · rw [upd_ne e, shF, shF]
    by_cases l : i < j
    · rw [if_pos l, if_pos (by omega)]
    · rw [if_neg l, if_neg (by omega)]
/-- a state goes to the place k -/
def plF (B S : Nat → Int32) (k j : Nat) : Nat → Int32 := fun i => if 166 * k ≤ i ∧ i < 166 * k + j then S (i - 166 * k) else B i
theorem plF_0 (B S : Nat → Int32) (k : Nat) : plF B S k 0 = B := by
  funext i
  rw [plF, if_neg (by omega)]
theorem plF_s (B S : Nat → Int32) (k j : Nat) : upd (plF B S k j) (166 * k + j) (S j) = plF B S k (j + 1) := by
  funext i
  by_cases e : i = 166 * k + j
  · rw [upd_is e, plF, if_pos (by omega), e, Nat.add_sub_cancel_left]
  · rw [upd_ne e, plF, plF]
    by_cases l : 166 * k ≤ i ∧ i < 166 * k + j
    · rw [if_pos l, if_pos (by omega)]
    · rw [if_neg l, if_neg (by omega)]
def mxS (k : Nat) : Nat := if k = 1 then 20 else if k = 2 then 30 else 9
def seB (x v : Int32) : Bool := decide (0 ≤ x) && (decide (x ≤ nI 3) && inB v (nI 1) (nI (mxS x.toNatClampNeg)))
def seR (f : Nat → Int32) (x v : Int32) : Int32 × (Nat → Int32) := if seB x v = true then (f x.toNatClampNeg, upd f x.toNatClampNeg v) else (-2, f)
theorem seB_out {x v : Int32} (h : x.toInt < 0 ∨ (3 : Int) < x.toInt) : seB x v = false := by
  rcases h with h | h
  · rw [seB, decide_eq_false (p := 0 ≤ x) (fun z => by have := Int32.le_iff_toInt_le.mp z; have z2 : (0 : Int32).toInt = 0 := rfl; omega)]
    rfl
  · rw [seB, decide_eq_false (p := x ≤ nI 3) (fun z => by have := Int32.le_iff_toInt_le.mp z; rw [nI_toInt (by decide)] at this; omega)]
    simp
theorem sumI_add (h : Nat → Int32) (m : Nat) : ∀ n, sumI h (m + n) = sumI h m + sumI (fun i => h (m + i)) n
  | 0 => (Int32.add_zero _).symm
  | n + 1 => by
    show sumI h (m + n) + h (m + n) = _
    rw [sumI_add h m n, sumI, Int32.add_assoc]
theorem owa_n (f : Nat → Int32) : ∀ n, sumI (fun c => f (o_at c)) (9 * n) = sumI (owd f) n
  | 0 => rfl
  | n + 1 => by
    show sumI (fun c => f (o_at c)) (9 * n + 9) = sumI (owd f) n + owd f n
    rw [sumI_add, owa_n f n]
    congr 1
    exact sumI_congr 9 (fun o ho => by rw [o_at_in ho])
theorem owa_eq (f : Nat → Int32) : sumI (owd f) 9 = owa f := (owa_n f 9).symm
def ogR (f : Nat → Int32) (x : Int32) : Int32 := if x = nI 4 then owa f else if x = nI 11 then orI (gs f) 9 else orI (psP f) 9
def cnR (f : Nat → Int32) (len st x : Int32) : Int32 := if x = nI 17 then len else if x = nI 18 then st else coR1 f x
theorem or0 (x : Int32) : x ||| nI 0 = x := by
  show x ||| 0 = x
  simp
theorem coR1_set {f : Nat → Int32} {k : Nat} (h : 13 ≤ k) (hk : k < 2 ^ 31) : coR1 f (nI k) = setR f (nI k) := by
  have n : ∀ j : Nat, j < 13 → ¬ nI k = nI j := fun j hj e => by have := (nI_eq hk (by omega)).mp e; omega
  rw [coR1, if_neg (n 0 (by omega)), if_neg (n 1 (by omega)), if_neg (n 2 (by omega)), if_neg (n 3 (by omega)), if_neg (n 4 (by omega)), if_neg (n 5 (by omega)), if_neg (n 6 (by omega)), if_neg (n 7 (by omega)), if_neg (n 8 (by omega)), if_neg (n 9 (by omega)), if_neg (n 10 (by omega)), if_neg (n 11 (by omega)), if_neg (n 12 (by omega))]
theorem setR_in {f : Nat → Int32} {k : Nat} (h : k < 4) : setR f (nI (13 + k)) = f k := by
  rw [setR, if_pos ⟨nI_le (by omega) (by omega), nI_lt (by omega) (by decide)⟩, nI_clamp (by omega), Nat.add_sub_cancel_left]
theorem coR1_out {f : Nat → Int32} {x : Int32} (h : x.toInt < 0 ∨ (18 : Int) < x.toInt) : coR1 f x = -2 := by
  have n : ∀ j : Nat, j < 13 → ¬ x = nI j := fun j hj => x_out (n := 18) h (by omega) (by decide)
  rw [coR1, if_neg (n 0 (by omega)), if_neg (n 1 (by omega)), if_neg (n 2 (by omega)), if_neg (n 3 (by omega)), if_neg (n 4 (by omega)), if_neg (n 5 (by omega)), if_neg (n 6 (by omega)), if_neg (n 7 (by omega)), if_neg (n 8 (by omega)), if_neg (n 9 (by omega)), if_neg (n 10 (by omega)), if_neg (n 11 (by omega)), if_neg (n 12 (by omega)), setR, if_neg]
  rintro ⟨h1, h2⟩
  have h3 := Int32.le_iff_toInt_le.mp h1
  have h4 := Int32.lt_iff_toInt_lt.mp h2
  rw [nI_toInt (by decide)] at h3 h4
  omega
theorem st_lo {f : Nat → Int32} (h : SN f) {x : Int32} (hx0 : x < 0) : lst (stP f x) 9 = -1 := lst_none 9 (fun i hi => by
  rw [stP, decide_eq_false (fun e => by have := h i hi; rw [e] at this; exact absurd hx0 (Int32.not_lt.mpr this)), Bool.and_false])
theorem rn_lo (f : Nat → Int32) {x : Int32} (hx0 : x < 0) : lst (rnP f x) 9 = -1 := lst_none 9 (fun i hi => by
  rw [rnP, decide_eq_false (fun e => by rw [← e] at hx0; exact nI_pos (by have := rk_le f i; omega) hx0), Bool.and_false])
/-- breaths, one by one -/
def biF (f : Nat → Int32) : Nat → Nat → Int32
  | 0 => f
  | k + 1 => psF (biF f k) 1
theorem biF_ne (f : Nat → Int32) {i : Nat} (h : i < 13 ∨ ((i - 13) % 17 ≠ 3 ∧ (i - 13) % 17 ≠ 5)) (h4 : i ≠ 4) (h12 : i ≠ 12) : ∀ k, biF f k i = f i
  | 0 => rfl
  | k + 1 => by rw [biF, psF_ne _ _ h h4 h12, biF_ne f h h4 h12 k]
theorem PF_biF {f : Nat → Int32} (h : PF f) (k : Nat) : PF (biF f k) := PF_congr h (fun g _ => biF_ne f (by omega) (by omega) (by omega) k) (fun g _ => biF_ne f (by omega) (by omega) (by omega) k)
theorem OB_biF {f : Nat → Int32} (h : OB f) (k : Nat) : OB (biF f k) := OB_congr h (fun g _ => sumI_congr 9 (fun o _ => biF_ne f (by omega) (by omega) (by omega) k))
theorem ng_congr {f f' : Nat → Int32} (h : ∀ g, g < 9 → f' (13 + 17 * g) = f (13 + 17 * g)) : ng f' = ng f := cnt_congr 9 (fun g hg => gs_congr (h g hg))
def siR (f : Nat → Int32) (g : Nat) (v : Int32) : Nat → Nat → Int32
  | 0, k => if nI (rk (biF f k) g) ≤ v then nI k else -6
  | n + 1, k => if nI (rk (biF f k) g) ≤ v then nI k else siR f g v n (k + 1)
def stB (f : Nat → Int32) (x z : Int32) : Bool := hx f x && inB z (nI 0) (nI (ng f) - nI 1)
def stR (f : Nat → Int32) (x z : Int32) : Int32 := if stB f x z = true then siR f x.toNatClampNeg z 300 0 else -1
def iwR (f : Nat → Int32) (x : Int32) : Int32 := if hx f x = true then nI (rk (wo1 f x.toNatClampNeg) x.toNatClampNeg) else -1
def irR (f : Nat → Int32) (c : Nat) (x : Int32) : Int32 := if inB x (nI 0) (nI 2) = true then (if ng f = 0 then -5 else if x = nI 0 then nI (cpH f c (ng f)).2.2 else if x = nI 1 then nI (cpH f c (ng f)).2.2 * f 0 else lst (stP (rnF f c) (nI 0)) 9) else -2
def grR (f : Nat → Int32) : Int32 := lst (rnP f (nI 0)) 9
def clF (f : Nat → Int32) : Nat → Int32
  | 0 => nI 1 <<< (grR f &&& 31)
  | k + 1 => clF f k ||| (nI 1 <<< (grR (biF f (k + 1)) &&& 31))
def clR (f : Nat → Int32) : Int32 := if ng f = 0 then nI 0 else clF f 100

def s01 (x : Int32) : Bool := inB x (nI 0) (nI 1)
theorem s01_t {x : Int32} (h : s01 x = true) : ∃ k : Nat, k < 2 ∧ x = nI k := by
  obtain ⟨a, b⟩ := inB_t h
  exact x_is (by decide) (Int32.not_lt.mpr a) (fun z => absurd (Int32.le_trans z b) (by decide))
theorem s01_n {k : Nat} (h : k < 2) : s01 (nI k) = true := by
  rcases (by omega : k = 0 ∨ k = 1) with rfl | rfl <;> rfl
theorem bI_nar (b : Bool) : narrow .boolean (.int (bI b)) = .int (bI b) := by cases b <;> rfl
