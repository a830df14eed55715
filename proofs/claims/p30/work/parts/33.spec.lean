/-! ranks; what always holds goes on -/
theorem cnt_onto {P : Nat → Bool} {φ : Nat → Nat} (h1 : ∀ i, i < 9 → P i = true → φ i < cnt P 9) (h2 : ∀ i j, i < 9 → j < 9 → P i = true → P j = true → φ i = φ j → i = j) {s : Nat} (hs : s < cnt P 9) : ∃ g, g < 9 ∧ P g = true ∧ φ g = s := by
  by_cases h : ∃ g, g < 9 ∧ P g = true ∧ φ g = s
  · exact h
  · exfalso
    have k := cnt_inj 9 P (fun x => decide (x ≠ s)) φ (cnt P 9) (fun i hi p => ⟨h1 i hi p, decide_eq_true (fun z => h ⟨i, hi, p, z⟩)⟩) h2
    have l := cnt_lt (P := fun x => decide (x ≠ s)) (j := s) (by simp) (cnt P 9) hs
    omega
theorem cnt_ss {P Q : Nat → Bool} {j : Nat} (hj : P j = false) (hq : Q j = true) : ∀ n, (∀ i, i < n → P i = true → Q i = true) → cnt P n ≤ cnt Q n ∧ (j < n → cnt P n < cnt Q n)
  | 0, _ => ⟨Nat.le_refl _, fun z => absurd z (by omega)⟩
  | n + 1, h => by
    obtain ⟨a, b⟩ := cnt_ss hj hq n (fun i hi => h i (by omega))
    by_cases e : j = n
    · subst e
      rw [cnt_f hj, cnt_t hq]
      exact ⟨by omega, fun _ => by omega⟩
    · cases p : P n
      · rw [cnt_f p, cnt]
        refine ⟨by omega, fun z => ?_⟩
        have := b (by omega)
        omega
      · rw [cnt_t p, cnt_t (h n (by omega) p)]
        refine ⟨by omega, fun z => ?_⟩
        have := b (by omega)
        omega
theorem cnt_add1 {P P' : Nat → Bool} {g : Nat} (h : ∀ i, i ≠ g → P' i = P i) (h1 : P g = false) (h2 : P' g = true) : ∀ n, (n ≤ g → cnt P' n = cnt P n) ∧ (g < n → cnt P' n = cnt P n + 1)
  | 0 => ⟨fun _ => rfl, fun z => absurd z (by omega)⟩
  | n + 1 => by
    obtain ⟨a, b⟩ := cnt_add1 h h1 h2 n
    by_cases e : n = g
    · subst e
      refine ⟨fun z => absurd z (by omega), fun _ => ?_⟩
      rw [cnt_t h2, cnt_f h1, a (Nat.le_refl _)]
    · have c : P' n = P n := h n e
      refine ⟨fun z => ?_, fun z => ?_⟩
      · rw [cnt, cnt, c, a (by omega)]
      · rw [cnt, cnt, c, b (by omega)]
        omega
theorem ahd_iff {f : Nat → Int32} {g o : Nat} : ahd f g o = true ↔ (f (16 + 17 * o)).toInt < (f (16 + 17 * g)).toInt ∨ ((f (16 + 17 * g)).toInt = (f (16 + 17 * o)).toInt ∧ ((f (17 + 17 * g)).toInt < (f (17 + 17 * o)).toInt ∨ ((f (17 + 17 * g)).toInt = (f (17 + 17 * o)).toInt ∧ ((owd f g).toInt < (owd f o).toInt ∨ ((owd f g).toInt = (owd f o).toInt ∧ (f (14 + 17 * g)).toInt < (f (14 + 17 * o)).toInt))))) := by
  unfold ahd
  by_cases c1 : f (16 + 17 * g) = f (16 + 17 * o)
  · rw [if_pos c1]
    have e1 := Int32.toInt_inj.mpr c1
    by_cases c2 : f (17 + 17 * g) = f (17 + 17 * o)
    · rw [if_pos c2]
      have e2 := Int32.toInt_inj.mpr c2
      by_cases c3 : owd f g = owd f o
      · rw [if_pos c3]
        have e3 := Int32.toInt_inj.mpr c3
        rw [decide_eq_true_eq, Int32.lt_iff_toInt_lt]
        omega
      · rw [if_neg c3]
        have e3 : ¬ (owd f g).toInt = (owd f o).toInt := fun z => c3 (Int32.toInt_inj.mp z)
        rw [decide_eq_true_eq, Int32.lt_iff_toInt_lt]
        omega
    · rw [if_neg c2]
      have e2 : ¬ (f (17 + 17 * g)).toInt = (f (17 + 17 * o)).toInt := fun z => c2 (Int32.toInt_inj.mp z)
      rw [decide_eq_true_eq, Int32.lt_iff_toInt_lt]
      omega
  · rw [if_neg c1]
    have e1 : ¬ (f (16 + 17 * g)).toInt = (f (16 + 17 * o)).toInt := fun z => c1 (Int32.toInt_inj.mp z)
    rw [decide_eq_true_eq, Int32.lt_iff_toInt_lt]
    omega
theorem ahd_tr {f : Nat → Int32} {a b c : Nat} (h1 : ahd f a b = true) (h2 : ahd f b c = true) : ahd f a c = true := by
  rw [ahd_iff] at *
  omega
theorem ahd_as {f : Nat → Int32} {a b : Nat} (h1 : ahd f a b = true) (h2 : ahd f b a = true) : False := by
  rw [ahd_iff] at *
  omega
theorem ahd_tot {f : Nat → Int32} {a b : Nat} (h : ¬ f (14 + 17 * a) = f (14 + 17 * b)) : ahd f a b = true ∨ ahd f b a = true := by
  have : ¬ (f (14 + 17 * a)).toInt = (f (14 + 17 * b)).toInt := fun z => h (Int32.toInt_inj.mp z)
  rw [ahd_iff, ahd_iff]
  omega
theorem rkP_t {f : Nat → Int32} {g o : Nat} : rkP f g o = true ↔ gs f o = true ∧ o ≠ g ∧ ahd f o g = true := by
  unfold rkP
  simp
theorem rk_lt {f : Nat → Int32} {i j : Nat} (hi : i < 9) (si : gs f i = true) (hij : i ≠ j) (h : ahd f i j = true) : rk f i < rk f j := by
  refine (cnt_ss (P := rkP f i) (Q := rkP f j) (j := i) ?_ (rkP_t.mpr ⟨si, hij, h⟩) 9 (fun x hx p => ?_)).2 hi
  · cases e : rkP f i i
    · rfl
    · exact absurd rfl (rkP_t.mp e).2.1
  · obtain ⟨a, b, c⟩ := rkP_t.mp p
    refine rkP_t.mpr ⟨a, fun z => ?_, ahd_tr c h⟩
    subst z
    exact ahd_as c h
theorem RU_of {f : Nat → Int32} (hu : SU f) : RU f := by
  intro i j hi hj si sj e
  by_cases c : i = j
  · exact c
  · exfalso
    rcases ahd_tot (fun z => c (hu i j hi hj si sj z)) with h | h
    · have := rk_lt hi si c h
      omega
    · have := rk_lt hj sj (fun z => c z.symm) h
      omega
theorem rk_ng {f : Nat → Int32} {g : Nat} (hg : g < 9) (sg : gs f g = true) : rk f g < ng f := by
  refine (cnt_ss (P := rkP f g) (Q := gs f) (j := g) ?_ sg 9 (fun x hx p => (rkP_t.mp p).1)).2 hg
  cases e : rkP f g g
  · rfl
  · exact absurd rfl (rkP_t.mp e).2.1
theorem IV.ru {f : Nat → Int32} (h : IV f) : RU f := RU_of h.su
/-- each rank has its guest -/
theorem rk_is {f : Nat → Int32} (hu : SU f) {s : Nat} (hs : s < ng f) : ∃ g, g < 9 ∧ gs f g = true ∧ rk f g = s := cnt_onto (fun i hi p => rk_ng hi p) (RU_of hu) hs
theorem OW_congr {f f' : Nat → Int32} (h : OW f) (e : ∀ g o, g < 9 → o < 9 → f' (21 + 17 * g + o) = f (21 + 17 * g + o)) : OW f' := fun g hg => OR_le (h g hg) (fun o ho => e g o hg ho)
theorem IV_stc {f f' : Nat → Int32} (h : IV f) (e : ∀ i, stc i → f' i = f i) (z : ∀ g, g < 9 → gs f g = false → ∀ k, k < 17 → f' (13 + 17 * g + k) = f (13 + 17 * g + k)) (o : OW f') : IV f' := by
  have eg : ∀ g, gs f' g = gs f g := fun g => gs_congr (e _ (by unfold stc; omega))
  refine ⟨PF_stc h.pf e, SU_stc h.su e, fun g hg sg => ?_, fun g hg sg k hk => ?_, ?_, ?_, o⟩
  · rw [eg] at sg
    obtain ⟨s, a, b⟩ := h.sb g hg sg
    exact ⟨s, by rw [ng_congr (f := f) (f' := f') (fun g _ => e _ (by unfold stc; omega))]; exact a, by rw [e _ (by unfold stc; omega)]; exact b⟩
  · rw [eg] at sg
    rw [z g hg sg k hk]
    exact h.zr g hg sg k hk
  · rw [e 0 (by unfold stc; omega)]
    exact h.s0
  · rw [e 1 (by unfold stc; omega)]
    exact h.s1
theorem gs_ne {f : Nat → Int32} {g i : Nat} (a : gs f g = true) (b : gs f i = false) : i ≠ g := fun z => by
  rw [z, a] at b
  cases b
theorem IV_wo {f : Nat → Int32} (h : IV f) {g : Nat} (sg : gs f g = true) : IV (woF f g) := by
  have ne : ∀ i, i ≠ 16 + 17 * g → i ≠ 19 + 17 * g → i ≠ 11 → woF f g i = f i := fun i a b c => by rw [woF, upd_ne c, wo2, upd_ne b, wo1, upd_ne a]
  refine IV_stc h (fun i hi => ne i (by unfold stc at hi; omega) (by unfold stc at hi; omega) (by unfold stc at hi; omega)) (fun i hi si k hk => ?_) (OW_congr h.ow (fun i o hi ho => ne _ (by omega) (by omega) (by omega)))
  have := gs_ne sg si
  exact ne _ (by omega) (by omega) (by omega)
theorem nI_dec {w k : Nat} (h : k ≤ w) : nI w - nI k = nI (w - k) := pk_sub h
theorem IV_pay {f : Nat → Int32} (h : IV f) {g o : Nat} (hg : g < 9) (ho : o < 9) (sg : gs f g = true) : IV (payF f g o) := by
  unfold payF
  split
  · exact h
  · rename_i n0
    have ne : ∀ i, i ≠ 21 + 17 * g + o → i ≠ 20 + 17 * g → i ≠ 7 → (upd (upd (upd f (21 + 17 * g + o) (f (21 + 17 * g + o) - 1)) (20 + 17 * g) (f (20 + 17 * g) + 1)) 7 (f 7 + 1)) i = f i := fun i a b c => by rw [upd_ne c, upd_ne b, upd_ne a]
    refine IV_stc h (fun i hi => ne i (by unfold stc at hi; omega) (by unfold stc at hi; omega) (by unfold stc at hi; omega)) (fun i hi si k hk => ?_) (fun i hi => ?_)
    · have := gs_ne sg si
      exact ne _ (by omega) (by omega) (by omega)
    · by_cases e : i = g
      · subst e
        refine OR_dec (h.ow i hi) ho (fun w hw e => ?_) (fun j hj hne => ne _ (by omega) (by omega) (by omega))
        have w0 : w ≠ 0 := fun z => n0 (by rw [e, z]; rfl)
        refine ⟨w - 1, by omega, ?_⟩
        rw [upd_ne (by omega), upd_ne (by omega), upd_at, e]
        exact nI_dec (k := 1) (by omega)
      · exact OR_le (h.ow i hi) (fun j hj => ne _ (by omega) (by omega) (by omega))
theorem brN_out {f : Nat → Int32} {g k : Nat} (sg : gs f g = false) (hk : k < 17) : ∀ j, brN f j (13 + 17 * g + k) = f (13 + 17 * g + k)
  | 0 => rfl
  | j + 1 => by
    rw [brN]
    split
    · rename_i sj
      have := gs_ne sj sg
      rw [sgF_ne (by omega) (by omega), brN_out sg hk j]
    · exact brN_out sg hk j
theorem brM_out {f : Nat → Int32} {g k : Nat} (sg : gs f g = false) (hk : k < 17) : ∀ m, brM f m (13 + 17 * g + k) = f (13 + 17 * g + k)
  | 0 => rfl
  | m + 1 => by rw [brM, brN_out (by rw [gs_congr (brM_ne f (by omega) m)]; exact sg) hk, brM_out sg hk m]
theorem psF_out {f : Nat → Int32} {g k m : Nat} (sg : gs f g = false) (hk : k < 17) : psF f m (13 + 17 * g + k) = f (13 + 17 * g + k) := by
  rw [psF, upd_ne (by omega), ps1, upd_ne (by omega), brM_out sg hk]
theorem IV_ps {f : Nat → Int32} (h : IV f) (m : Nat) : IV (psF f m) := IV_stc h (fun i hi => psF_ne f m (by unfold stc at hi; omega) (by unfold stc at hi; omega) (by unfold stc at hi; omega)) (fun g hg sg k hk => psF_out sg hk) (OW_congr h.ow (fun g o hg ho => psF_owes f m ho))
theorem IV_bi {f : Nat → Int32} (h : IV f) : ∀ k, IV (biF f k)
  | 0 => h
  | k + 1 => IV_ps (IV_bi h k) 1
theorem IV_dr {f : Nat → Int32} (h : IV f) {g : Nat} (sg : gs f g = true) (c : Nat) : IV (drF f g c) := by
  unfold drF
  refine IV_ps (IV_stc h (fun i hi => dr2_ne (by unfold stc at hi; omega) (by unfold stc at hi; omega)) (fun i hi si k hk => ?_) (OW_congr h.ow (fun i o hi ho => dr2_ne (by omega) (by omega)))) c
  have := gs_ne sg si
  exact dr2_ne (by omega) (by omega)
theorem lay_ne {f : Nat → Int32} {g o i : Nat} {k : Int32} (h1 : i ≠ 21 + 17 * g + o) (h2 : i ≠ 10) : layF f g o k i = f i := by rw [layF, upd_ne h2, upd_ne h1]
theorem lay_at {f : Nat → Int32} {g o : Nat} {k : Int32} : layF f g o k (21 + 17 * g + o) = f (21 + 17 * g + o) + k := by rw [layF, upd_ne (by omega), upd_at]
theorem IV_lay {f : Nat → Int32} (h : IV f) {g o k m : Nat} (ho : o < 9) (sg : gs f g = true) (hr : OR f g m) (hm : m + k ≤ 21) : IV (layF f g o (nI k)) := by
  refine IV_stc h (fun i hi => layF_ne ho hi) (fun i hi si j hj => ?_) (fun i hi => ?_)
  · have := gs_ne sg si
    exact lay_ne (by omega) (by omega)
  · by_cases e : i = g
    · subst e
      exact OR_mono (OR_lay hr ho lay_at (fun j hj hne => lay_ne (by omega) (by omega))) hm
    · exact OR_le (h.ow i hi) (fun j hj => lay_ne (by omega) (by omega))
theorem off_ne {f : Nat → Int32} {g o i : Nat} (h1 : i ≠ 21 + 17 * g + o) (h2 : i ≠ 21 + 17 * o + g) (h3 : i ≠ 9) : offF f g o i = f i := by rw [offF, upd_ne h3, upd_ne h2, upd_ne h1]
theorem IV_off {f : Nat → Int32} (h : IV f) {g o : Nat} (hg : g < 9) (ho : o < 9) (hgo : g ≠ o) (sg : gs f g = true) (so : gs f o = true) : IV (offF f g o) := by
  have mn : ∀ a b : Nat, a ≤ 21 → b ≤ 21 → f (21 + 17 * g + o) = nI a → f (21 + 17 * o + g) = nI b → minF f g o = nI (if b < a then b else a) := by
    intro a b ha hb e1 e2
    rw [minF, e1, e2]
    by_cases c : b < a
    · rw [if_pos (nI_lt c (by omega)), if_pos c]
    · rw [if_neg (fun z => c ((nI_ltI (by omega) (by omega)).mp z)), if_neg c]
  have val : ∀ i j, i < 9 → j < 9 → ∃ a, a ≤ 21 ∧ f (21 + 17 * i + j) = nI a := by
    intro i j hi hj
    obtain ⟨w, a, b⟩ := h.ow i hi
    exact ⟨w j, Nat.le_trans (sumN_at 9 hj) b, a j hj⟩
  refine IV_stc h (fun i hi => off_ne (by unfold stc at hi; omega) (by unfold stc at hi; omega) (by unfold stc at hi; omega)) (fun i hi si j hj => ?_) (fun i hi => ?_)
  · have := gs_ne sg si
    have := gs_ne so si
    exact off_ne (by omega) (by omega) (by omega)
  · by_cases e : i = g
    · subst e
      refine OR_dec (h.ow i hi) ho (fun w hw e => ?_) (fun j hj hne => off_ne (by omega) (by omega) (by omega))
      obtain ⟨b, hb, eb⟩ := val o i ho hi
      refine ⟨w - (if b < w then b else w), by omega, ?_⟩
      rw [offF, upd_ne (by omega), upd_ne (by omega), upd_at, mn w b hw hb e eb, e]
      exact nI_dec (by split <;> omega)
    · by_cases e2 : i = o
      · subst e2
        refine OR_dec (h.ow i hi) hg (fun w hw e => ?_) (fun j hj hne => off_ne (by omega) (by omega) (by omega))
        obtain ⟨b, hb, eb⟩ := val g i hg hi
        refine ⟨w - (if w < b then w else b), by omega, ?_⟩
        rw [offF, upd_ne (by omega), upd_at, mn b w hb hw eb e, e]
        exact nI_dec (by split <;> omega)
      · exact OR_le (h.ow i hi) (fun j hj => off_ne (by omega) (by omega) (by omega))
theorem IV_of {f : Nat → Int32} (h : IV f) {g o : Nat} (c : Nat) (hg : g < 9) (ho : o < 9) (hgo : g ≠ o) (sg : gs f g = true) (so : gs f o = true) (hr : rsn f o = 0) : IV (ofF f g o c) := by
  unfold ofF
  have hd := IV_dr h so c
  have eg : ∀ i, gs (drF f o c) i = gs f i := fun i => gs_congr (drF_ne (by unfold stc; omega))
  have hl : IV (layF (drF f o c) o g (nI 2)) := IV_lay hd (m := 19) hg (by rw [eg]; exact so) (OR_le (OR_rsn (h.ow o ho) h.s1 hr) (fun j hj => drF_owes f o c hj)) (by decide)
  have el : ∀ i, gs (layF (drF f o c) o g (nI 2)) i = gs f i := fun i => (gs_congr (layF_ne hg (by unfold stc; omega))).trans (eg i)
  exact IV_off hl hg ho hgo (by rw [el]; exact sg) (by rw [el]; exact so)
