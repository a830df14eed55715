/-! what always holds goes on: seats, one who comes, one who leaves -/
theorem stF_at (f : Nat → Int32) {i : Nat} (si : gs f i = true) : ∀ j, i < j → stF f j (14 + 17 * i) = nI (rk f i)
  | 0, h => absurd h (by omega)
  | j + 1, h => by
    rw [stF]
    by_cases e : i = j
    · subst e
      rw [if_pos si, upd_at]
    · split
      · rw [upd_ne (by omega), stF_at f si j (by omega)]
      · exact stF_at f si j (by omega)
theorem stF_out (f : Nat → Int32) {g k : Nat} (sg : gs f g = false) (hk : k < 17) : ∀ j, stF f j (13 + 17 * g + k) = f (13 + 17 * g + k)
  | 0 => rfl
  | j + 1 => by
    rw [stF]
    split
    · rename_i sj
      have := gs_ne sj sg
      rw [upd_ne (by omega), stF_out f sg hk j]
    · exact stF_out f sg hk j
/-- the seats anew: each guest has one, below their number -/
theorem IV_seat {f f' : Nat → Int32} (h : IV f) (φ : Nat → Nat) (hφ : ∀ g, g < 9 → gs f g = true → f' (14 + 17 * g) = nI (φ g) ∧ φ g < ng f) (hi : ∀ i j, i < 9 → j < 9 → gs f i = true → gs f j = true → φ i = φ j → i = j) (e0 : f' 0 = f 0) (e1 : f' 1 = f 1) (eg : ∀ g, g < 9 → f' (13 + 17 * g) = f (13 + 17 * g)) (ep : ∀ g, g < 9 → f' (15 + 17 * g) = f (15 + 17 * g)) (z : ∀ g, g < 9 → gs f g = false → ∀ k, k < 17 → f' (13 + 17 * g + k) = f (13 + 17 * g + k)) (o : OW f') : IV f' := by
  have es : ∀ g, g < 9 → gs f' g = gs f g := fun g hg => gs_congr (eg g hg)
  have en : ng f' = ng f := ng_congr eg
  have hn := ng_le f
  refine ⟨PF_congr h.pf eg ep, fun i j hi' hj' si sj e => ?_, fun g hg sg => ?_, fun g hg sg k hk => ?_, ?_, ?_, o⟩
  · rw [es i hi'] at si
    rw [es j hj'] at sj
    obtain ⟨a, b⟩ := hφ i hi' si
    obtain ⟨a2, b2⟩ := hφ j hj' sj
    rw [a, a2] at e
    exact hi i j hi' hj' si sj ((nI_eq (by omega) (by omega)).mp e)
  · rw [es g hg] at sg
    obtain ⟨a, b⟩ := hφ g hg sg
    exact ⟨φ g, by rw [en]; exact b, a⟩
  · rw [es g hg] at sg
    rw [z g hg sg k hk]
    exact h.zr g hg sg k hk
  · rw [e0]
    exact h.s0
  · rw [e1]
    exact h.s1
theorem IV_st {f : Nat → Int32} (h : IV f) : IV (stF f 9) :=
  IV_seat h (rk f) (fun g hg sg => ⟨stF_at f sg 9 hg, rk_ng hg sg⟩) (RU_of h.su) (stF_ne f 9 (fun g hg => by omega)) (stF_ne f 9 (fun g hg => by omega)) (fun i hi => stF_ne f 9 (fun g hg => by omega)) (fun i hi => stF_ne f 9 (fun g hg => by omega)) (fun g hg sg k hk => stF_out f sg hk 9) (OW_congr h.ow (fun g o hg ho => stF_ne f 9 (fun g hg => by omega)))
theorem IV_cp {f : Nat → Int32} (h : IV f) (c : Nat) : ∀ s, s ≤ ng f → IV (cpH f c s).1
  | 0, _ => h
  | s + 1, hs => by
    have ih := IV_cp h c s (by omega)
    obtain ⟨k1, k2, k3⟩ := cpH_keep h.su h.sj (c := c) s (by omega)
    obtain ⟨o1, o2, o3⟩ := od_is h.su h.sj (show s < ng f by omega)
    have eg : ∀ i, gs (cpH f c s).1 i = gs f i := fun i => gs_congr (k1 _ (by unfold stc; omega))
    rw [cpH]
    split
    · rename_i hr
      show IV (layO (drF (cpH f c s).1 (od f s) c) (od f s) (cpH f c s).2.1)
      have hd : IV (drF (cpH f c s).1 (od f s) c) := IV_dr ih (by rw [eg]; exact o2) c
      cases e : (cpH f c s).2.1 with
      | none => exact hd
      | some o =>
        obtain ⟨ho, -, -⟩ := k2 o e
        exact IV_lay hd (m := 19) (k := 1) ho (by rw [gs_congr (drF_ne (by unfold stc; omega)), eg]; exact o2) (OR_le (OR_rsn (ih.ow _ o1) ih.s1 hr) (fun j hj => drF_owes _ _ _ hj)) (by decide)
    · exact ih
theorem IV_5 {f : Nat → Int32} (h : IV f) (i : Nat) (hi : 4 ≤ i ∧ i < 13) (v : Int32) : IV (upd f i v) :=
  IV_stc h (fun j hj => upd_ne (by unfold stc at hj; omega)) (fun g hg sg k hk => upd_ne (by omega)) (OW_congr h.ow (fun g o hg ho => upd_ne (by omega)))
theorem IV_rn {f : Nat → Int32} (h : IV f) (c : Nat) : IV (rnF f c) := IV_5 (IV_st (IV_cp h c (ng f) (Nat.le_refl _))) 5 (by decide) _
theorem IV_set {f : Nat → Int32} (h : IV f) {x v : Int32} (e : seB x v = true) : IV (upd f x.toNatClampNeg v) := by
  have hx : ∃ k, k < 4 ∧ x = nI k ∧ inB v (nI 1) (nI (mxS k)) = true := by
    rcases x_sw 3 (by decide) x with no | ⟨k, hk, rfl⟩
    · rw [seB_out no] at e
      cases e
    · refine ⟨k, by omega, rfl, ?_⟩
      unfold seB at e
      rw [nI_clamp (by omega)] at e
      simp only [Bool.and_eq_true] at e
      exact e.2.2
  obtain ⟨k, hk, rfl, hv⟩ := hx
  rw [nI_clamp (by omega)]
  obtain ⟨a, b⟩ := inB_t hv
  have hm : mxS k ≤ 30 := by
    unfold mxS
    split
    · omega
    · split <;> omega
  obtain ⟨w, hw, rfl⟩ := nI_of (x := v) (fun z => absurd (Int32.lt_of_le_of_lt a z) (by decide))
  have hb : w ≤ mxS k := (nI_leI hw (by omega)).mp b
  have ne : ∀ i, 4 ≤ i → upd f k (nI w) i = f i := fun i hi => upd_ne (by omega)
  have eg : ∀ g, gs (upd f k (nI w)) g = gs f g := fun g => gs_congr (ne _ (by omega))
  refine ⟨PF_congr h.pf (fun g _ => ne _ (by omega)) (fun g _ => ne _ (by omega)), SU_congr h.su (fun g _ => ne _ (by omega)) (fun g _ => ne _ (by omega)), fun g hg sg => ?_, fun g hg sg j hj => ?_, ?_, ?_, OW_congr h.ow (fun g o hg ho => ne _ (by omega))⟩
  · rw [eg] at sg
    obtain ⟨s, a, b⟩ := h.sb g hg sg
    exact ⟨s, by rw [ng_congr (f := f) (f' := upd f k (nI w)) (fun g _ => ne _ (by omega))]; exact a, by rw [ne _ (by omega)]; exact b⟩
  · rw [eg] at sg
    rw [ne _ (by omega)]
    exact h.zr g hg sg j hj
  · by_cases c : k = 0
    · subst c
      exact ⟨w, hb, upd_at⟩
    · rw [upd_ne (by omega)]
      exact h.s0
  · by_cases c : k = 1
    · subst c
      exact ⟨w, hb, upd_at⟩
    · rw [upd_ne (by omega)]
      exact h.s1
theorem fre_ok {f : Nat → Int32} : ∀ n k, (∃ j, k ≤ j ∧ j < k + n ∧ gs f j = false) → fre f n k < k + n ∧ gs f (fre f n k) = false
  | 0, k, h => by
    obtain ⟨j, a, b, c⟩ := h
    omega
  | n + 1, k, h => by
    rw [fre]
    cases e : gs f k
    · rw [if_neg (by decide)]
      exact ⟨by omega, e⟩
    · rw [if_pos rfl]
      obtain ⟨j, a, b, c⟩ := h
      have hne : j ≠ k := fun z => by
        rw [z, e] at c
        cases c
      have := fre_ok n (k + 1) ⟨j, by omega, by omega, c⟩
      exact ⟨by omega, this.2⟩
theorem fre_9 {f : Nat → Int32} (h : ¬ ng f = 9) : fre f 9 0 < 9 ∧ gs f (fre f 9 0) = false := by
  have := fre_ok (f := f) 9 0 (by
    by_cases c : ∃ j, 0 ≤ j ∧ j < 0 + 9 ∧ gs f j = false
    · exact c
    · exfalso
      refine h (cnt_all 9 (fun i hi => ?_))
      cases e : gs f i
      · exact absurd ⟨i, by omega, by omega, e⟩ c
      · rfl)
  exact ⟨by omega, this.2⟩
theorem IV_nw {f : Nat → Int32} (h : IV f) {g : Nat} (hg : g < 9) (sg : gs f g = false) {x : Int32} (hx : 0 < x) : IV (nwF f g x) := by
  have ne : ∀ i, i ≠ 13 + 17 * g → i ≠ 14 + 17 * g → i ≠ 15 + 17 * g → nwF f g x i = f i := fun i a b c => by rw [nwF, upd_ne c, upd_ne b, upd_ne a]
  have n0 : nwF f g x (13 + 17 * g) = 1 := by rw [nwF, upd_ne (by omega), upd_ne (by omega), upd_at]
  have n1 : nwF f g x (14 + 17 * g) = nI (ng f) := by rw [nwF, upd_ne (by omega), upd_at]
  have n2 : nwF f g x (15 + 17 * g) = x := by rw [nwF, upd_at]
  have eg : ∀ i, i ≠ g → gs (nwF f g x) i = gs f i := fun i hi => gs_congr (ne _ (by omega) (by omega) (by omega))
  have gg : gs (nwF f g x) g = true := decide_eq_true n0
  have en : ng (nwF f g x) = ng f + 1 := (cnt_add1 eg sg gg 9).2 hg
  have hn := ng_le f
  have seat : ∀ i, i < 9 → gs (nwF f g x) i = true → (i = g ∧ nwF f g x (14 + 17 * i) = nI (ng f)) ∨ (i ≠ g ∧ gs f i = true ∧ ∃ s, s < ng f ∧ f (14 + 17 * i) = nI s ∧ nwF f g x (14 + 17 * i) = nI s) := by
    intro i hi si
    by_cases c : i = g
    · subst c
      exact Or.inl ⟨rfl, n1⟩
    · rw [eg i c] at si
      obtain ⟨s, a, b⟩ := h.sb i hi si
      exact Or.inr ⟨c, si, s, a, b, by rw [ne _ (by omega) (by omega) (by omega)]; exact b⟩
  refine ⟨fun i hi => ?_, fun i j hi hj si sj e => ?_, fun i hi si => ?_, fun i hi si k hk => ?_, ?_, ?_, OW_congr h.ow (fun i o hi ho => ne _ (by omega) (by omega) (by omega))⟩
  · by_cases c : i = g
    · subst c
      rw [n0, n2]
      exact Or.inl ⟨rfl, hx⟩
    · rw [ne _ (by omega) (by omega) (by omega), ne _ (by omega) (by omega) (by omega)]
      exact h.pf i hi
  · rcases seat i hi si with ⟨a, b⟩ | ⟨a, si2, s, hs, b0, b⟩ <;> rcases seat j hj sj with ⟨a2, b2⟩ | ⟨a2, sj2, s2, hs2, c0, b2⟩
    · rw [a, a2]
    · rw [b, b2] at e
      have := (nI_eq (by omega) (by omega)).mp e
      omega
    · rw [b, b2] at e
      have := (nI_eq (by omega) (by omega)).mp e
      omega
    · rw [b, b2] at e
      exact h.su i j hi hj si2 sj2 (by rw [b0, c0]; exact e)
  · rcases seat i hi si with ⟨a, b⟩ | ⟨a, si2, s, hs, b0, b⟩
    · exact ⟨ng f, by omega, b⟩
    · exact ⟨s, by omega, b⟩
  · have c : i ≠ g := fun z => by
      rw [z, gg] at si
      cases si
    rw [eg i c] at si
    rw [ne _ (by omega) (by omega) (by omega)]
    exact h.zr i hi si k hk
  · rw [ne _ (by omega) (by omega) (by omega)]
    exact h.s0
  · rw [ne _ (by omega) (by omega) (by omega)]
    exact h.s1
theorem IV_lv {f : Nat → Int32} (h : IV f) {g : Nat} (hg : g < 9) (sg : gs f g = true) : IV (lvF f g) := by
  obtain ⟨v, hv, ev⟩ := h.sb g hg sg
  have hn := ng_le f
  have hF : ∀ i, i < 166 → lvF f g i = lvM f g i := fun i hi => (lv_eq h.pf h.zr h.sn hg hi).symm
  have row : ∀ k, k < 17 → lvF f g (13 + 17 * g + k) = 0 := fun k hk => by rw [hF _ (by omega), lvM, zr_in 17 (by omega) (by omega)]
  have ne : ∀ i, i < 166 → (i < 13 + 17 * g ∨ 13 + 17 * g + 17 ≤ i) → i ≠ 8 → (i < 13 ∨ ((i - 13) % 17 ≠ 1 ∧ (i - 13) % 17 ≠ 8 + g)) → lvF f g i = f i := fun i hi a b c => by rw [hF i hi, lvM, zr_out 17 a, lm_ne hg 9 (by omega) c, upd_ne b]
  have seat : ∀ o, o < 9 → o ≠ g → lvF f g (14 + 17 * o) = f (14 + 17 * o) - (if f (14 + 17 * g) < f (14 + 17 * o) then nI 1 else nI 0) := fun o ho hne => by rw [hF _ (by omega), lvM, zr_out 17 (by omega), lm_seat hg 9 (by omega), upd_ne (by omega)]
  have col : ∀ o, o < 9 → o ≠ g → lvF f g (21 + 17 * o + g) = 0 := fun o ho hne => by rw [hF _ (by omega), lvM, zr_out 17 (by omega), lm_owes hg 9 ho]
  have g0 : gs (lvF f g) g = false := decide_eq_false (by rw [show 13 + 17 * g = 13 + 17 * g + 0 from rfl, row 0 (by decide)]; decide)
  have fl : ∀ i, i < 9 → i ≠ g → lvF f g (13 + 17 * i) = f (13 + 17 * i) := fun i hi hne => ne _ (by omega) (by omega) (by omega) (by omega)
  have eg : ∀ i, i < 9 → i ≠ g → gs (lvF f g) i = gs f i := fun i hi hne => gs_congr (fl i hi hne)
  have en : ng f = ng (lvF f g) + 1 := by
    have e : ng (lvF f g) = cnt (fun i => if i = g then false else gs f i) 9 := cnt_congr 9 (fun i hi => by
      by_cases c : i = g
      · rw [if_pos c, c]
        exact g0
      · rw [if_neg c]
        exact eg i hi c)
    rw [e]
    exact (cnt_add1 (P := fun i => if i = g then false else gs f i) (P' := gs f) (fun i hi => (if_neg hi).symm) (if_pos rfl) sg 9).2 hg
  have gne : ∀ i, gs (lvF f g) i = true → i ≠ g := fun i si z => by
    rw [z, g0] at si
    cases si
  have st : ∀ i, i < 9 → gs (lvF f g) i = true → gs f i = true ∧ ∃ s, s < ng f ∧ s ≠ v ∧ f (14 + 17 * i) = nI s ∧ lvF f g (14 + 17 * i) = nI (if v < s then s - 1 else s) := by
    intro i hi si
    have c := gne i si
    rw [eg i hi c] at si
    obtain ⟨s, a, b⟩ := h.sb i hi si
    have sv : s ≠ v := fun z => c (h.su i g hi hg si sg (by rw [b, ev, z]))
    refine ⟨si, s, a, sv, b, ?_⟩
    rw [seat i hi c, ev, b]
    by_cases d : v < s
    · rw [if_pos (nI_lt d (by omega)), if_pos d]
      exact pk_sub (by omega)
    · rw [if_neg (fun z => d ((nI_ltI (by omega) (by omega)).mp z)), if_neg d]
      exact pk_sub (Nat.zero_le _)
  refine ⟨fun i hi => ?_, fun i j hi hj si sj e => ?_, fun i hi si => ?_, fun i hi si k hk => ?_, ?_, ?_, fun i hi => ?_⟩
  · by_cases c : i = g
    · subst c
      exact Or.inr ⟨row 0 (by decide), by rw [show 15 + 17 * i = 13 + 17 * i + 2 by omega]; exact row 2 (by decide)⟩
    · rw [fl i hi c, ne _ (by omega) (by omega) (by omega) (by omega)]
      exact h.pf i hi
  · obtain ⟨a, s, hs, sv, b, d⟩ := st i hi si
    obtain ⟨a2, s2, hs2, sv2, b2, d2⟩ := st j hj sj
    rw [d, d2] at e
    have e2 := (nI_eq (by split <;> omega) (by split <;> omega)).mp e
    have e3 : s = s2 := by
      split at e2 <;> split at e2 <;> omega
    exact h.su i j hi hj a a2 (by rw [b, b2, e3])
  · obtain ⟨a, s, hs, sv, b, d⟩ := st i hi si
    exact ⟨_, by split <;> omega, d⟩
  · by_cases c : i = g
    · subst c
      exact row k hk
    · rw [eg i hi c] at si
      have z := h.zr i hi si
      by_cases k1 : k = 1
      · subst k1
        have z1 := z 1 (by decide)
        rw [show 13 + 17 * i + 1 = 14 + 17 * i by omega] at z1 ⊢
        rw [seat i hi c, z1, ev, if_neg (nI_pos (by omega))]
        rfl
      · by_cases k8 : k = 8 + g
        · subst k8
          rw [show 13 + 17 * i + (8 + g) = 21 + 17 * i + g by omega]
          exact col i hi c
        · rw [ne _ (by omega) (by omega) (by omega) (by omega)]
          exact z k hk
  · rw [ne _ (by omega) (by omega) (by omega) (by omega)]
    exact h.s0
  · rw [ne _ (by omega) (by omega) (by omega) (by omega)]
    exact h.s1
  · by_cases c : i = g
    · subst c
      refine ⟨fun _ => 0, fun o ho => ?_, by decide⟩
      rw [show 21 + 17 * i + o = 13 + 17 * i + (8 + o) by omega]
      exact row _ (by omega)
    · refine OR_dec (h.ow i hi) hg (fun w hw e => ⟨0, Nat.zero_le _, col i hi c⟩) (fun j hj hne => ne _ (by omega) (by omega) (by omega) (by omega))
/-! the changes -/
theorem IV_co {f : Nat → Int32} (h : IV f) (x : Int32) : IV (coR f x).2 := by
  unfold coR
  split
  · exact h
  · rename_i c
    split
    · exact h
    · rename_i n
      obtain ⟨a, b⟩ := fre_9 n
      exact IV_nw h a b (Int32.lt_of_lt_of_le (by decide) (Int32.not_lt.mp (fun z => c (Or.inl z))))
theorem IV_le {f : Nat → Int32} (h : IV f) (x : Int32) : IV (leR f x).2 := by
  unfold leR
  split
  · rename_i c
    obtain ⟨g, hg, rfl, sg⟩ := hx_t c
    rw [nI_clamp (by omega)]
    exact IV_lv h hg sg
  · exact h
theorem IV_woR {f : Nat → Int32} (h : IV f) (x : Int32) : IV (woR f x).2 := by
  unfold woR
  split
  · rename_i c
    obtain ⟨g, hg, rfl, sg⟩ := hx_t c
    rw [nI_clamp (by omega)]
    exact IV_wo h sg
  · exact h
theorem IV_bo {f : Nat → Int32} (h : IV f) (x z : Int32) : IV (boR f x z).2 := by
  unfold boR
  split
  · exact h
  · rename_i c
    split
    · exact h
    · obtain ⟨g, o, hg, ho, hgo, rfl, rfl, sg, so⟩ := pairE_ok (Int32.not_lt.mp c)
      rw [nI_clamp (by omega), nI_clamp (by omega)]
      exact IV_pay h hg ho sg
theorem IV_ofR {f : Nat → Int32} (h : IV f) (x z : Int32) (c : Nat) : IV (ofR f x z c).2 := by
  unfold ofR
  split
  · exact h
  · rename_i n
    split
    · exact h
    · rename_i n2
      obtain ⟨g, o, hg, ho, hgo, rfl, rfl, sg, so⟩ := pairE_ok (Int32.not_lt.mp n)
      rw [nI_clamp (by omega)] at n2
      rw [nI_clamp (by omega), nI_clamp (by omega)]
      exact IV_of h c hg ho hgo sg so (Decidable.of_not_not (fun z => n2 (Or.inl z)))
theorem IV_be {f : Nat → Int32} (h : IV f) (x : Int32) : IV (beR f x).2 := by
  unfold beR
  split
  · exact h
  · split
    · exact h
    · exact IV_ps h _
theorem IV_ro {f : Nat → Int32} (h : IV f) (c : Nat) : IV (roR f c).2 := by
  unfold roR
  split
  · exact h
  · exact IV_rn h c
theorem IV_se {f : Nat → Int32} (h : IV f) (x v : Int32) : IV (seR f x v).2 := by
  unfold seR
  split
  · rename_i c
    exact IV_set h c
  · exact h
/-- an order of the text -/
def dsR (f : Nat → Int32) (op x z : Int32) : Int32 × (Nat → Int32) := if op = nI 103 then coR f x else if op = nI 120 then leR f x else if op = nI 119 then woR f x else if op = nI 98 then boR f x z else if op = nI 116 then beR f x else if op = nI 111 then ofR f x z (cu f) else roR f (cu f)
theorem IV_ds {f : Nat → Int32} (h : IV f) (op x z : Int32) : IV (dsR f op x z).2 := by
  unfold dsR
  split
  · exact IV_co h x
  split
  · exact IV_le h x
  split
  · exact IV_woR h x
  split
  · exact IV_bo h x z
  split
  · exact IV_be h x
  split
  · exact IV_ofR h x z _
  · exact IV_ro h _
