/-! the property of its own: who is ahead, by differences -/
theorem d_eq (x y : Int32) : x - y = 0 ↔ x = y := by
  constructor
  · intro h
    grind
  · intro h
    rw [h, Int32.sub_self]
def sm (x : Int32) : Prop := ∃ k : Nat, k < 2 ^ 30 ∧ x = nI k
theorem d_le {x y : Int32} (hx : sm x) (hy : sm y) : x - y ≤ 0 ↔ x ≤ y := by
  obtain ⟨a, ha, rfl⟩ := hx
  obtain ⟨b, hb, rfl⟩ := hy
  rw [Int32.le_iff_toInt_le, pk_sub_toInt ha hb, nI_leI (by omega) (by omega)]
  show (a : Int) - b ≤ 0 ↔ a ≤ b
  omega
theorem sm_si {f : Nat → Int32} {T g : Nat} (h : JV f T) (hg : g < 9) : sm (f (16 + 17 * g)) := by
  obtain ⟨s, hs, e⟩ := (h.jn.1.2 g hg).2
  exact ⟨s, by omega, e⟩
theorem sm_cu {f : Nat → Int32} {T g : Nat} (h : JV f T) (hg : g < 9) : sm (f (17 + 17 * g)) := by
  obtain ⟨s, hs, e⟩ := h.jn.2.2.2 g hg
  exact ⟨s, by omega, e⟩
theorem sm_ow {f : Nat → Int32} {T g : Nat} (h : JV f T) (hg : g < 9) : sm (owd f g) := by
  obtain ⟨s, hs, e⟩ := OR_owd (h.iv.ow g hg)
  exact ⟨s, by omega, e⟩
theorem sm_0 {x : Int32} (h : sm x) : 0 ≤ x := by
  obtain ⟨k, hk, rfl⟩ := h
  exact nI_pos' (by omega)
theorem dc_t {P : Prop} [Decidable P] {b : Bool} (h : b = decide P) (c : P) : nI 1 = bI b := by rw [h, decide_eq_true c]; rfl
theorem dc_f {P : Prop} [Decidable P] {b : Bool} (h : b = decide P) (c : ¬ P) : nI 0 = bI b := by rw [h, decide_eq_false c]; rfl
theorem ia1 {f : Nat → Int32} {T a b : Nat} (h : JV f T) (ha : a < 9) (hb : b < 9) (n : ¬ f (16 + 17 * a) - f (16 + 17 * b) = 0) : ahd f a b = decide (¬ f (16 + 17 * a) - f (16 + 17 * b) ≤ 0) := by
  unfold ahd
  rw [if_neg (fun z => n ((d_eq _ _).mpr z))]
  refine decide_eq_decide.mpr ?_
  rw [d_le (sm_si h ha) (sm_si h hb)]
  exact Int32.not_le.symm
theorem ia2 {f : Nat → Int32} {T a b : Nat} (h : JV f T) (ha : a < 9) (hb : b < 9) (e1 : f (16 + 17 * a) - f (16 + 17 * b) = 0) (n : ¬ f (17 + 17 * b) - f (17 + 17 * a) = 0) : ahd f a b = decide (¬ f (17 + 17 * b) - f (17 + 17 * a) ≤ 0) := by
  unfold ahd
  rw [if_pos ((d_eq _ _).mp e1), if_neg (fun z => n ((d_eq _ _).mpr z.symm))]
  refine decide_eq_decide.mpr ?_
  rw [d_le (sm_cu h hb) (sm_cu h ha)]
  exact Int32.not_le.symm
theorem ia3 {f : Nat → Int32} {T a b : Nat} (h : JV f T) (ha : a < 9) (hb : b < 9) (e1 : f (16 + 17 * a) - f (16 + 17 * b) = 0) (e2 : f (17 + 17 * b) - f (17 + 17 * a) = 0) (n : ¬ owd f b - owd f a = 0) : ahd f a b = decide (¬ owd f b - owd f a ≤ 0) := by
  unfold ahd
  rw [if_pos ((d_eq _ _).mp e1), if_pos ((d_eq _ _).mp e2).symm, if_neg (fun z => n ((d_eq _ _).mpr z.symm))]
  refine decide_eq_decide.mpr ?_
  rw [d_le (sm_ow h hb) (sm_ow h ha)]
  exact Int32.not_le.symm
theorem ia4 {f : Nat → Int32} {a b : Nat} (e1 : f (16 + 17 * a) - f (16 + 17 * b) = 0) (e2 : f (17 + 17 * b) - f (17 + 17 * a) = 0) (e3 : owd f b - owd f a = 0) : ahd f a b = decide (¬ f (14 + 17 * b) ≤ f (14 + 17 * a)) := by
  unfold ahd
  rw [if_pos ((d_eq _ _).mp e1), if_pos ((d_eq _ _).mp e2).symm, if_pos ((d_eq _ _).mp e3).symm]
  exact decide_eq_decide.mpr Int32.not_le.symm
/-! the property of its own: sums over the others -/
theorem rkP_eq {f : Nat → Int32} {g o : Nat} (so : gs f o = true) (n : o ≠ g) : rkP f g o = ahd f o g := by rw [rkP, so, decide_eq_true n]; rfl
theorem rkP_no {f : Nat → Int32} {g o : Nat} (so : gs f o = false) : rkP f g o = false := by rw [rkP, so, Bool.false_and]
theorem rkP_me (f : Nat → Int32) (g : Nat) : rkP f g g = false := by rw [rkP, decide_eq_false (fun z => z rfl), Bool.false_and, Bool.and_false]
theorem sumI_s (h : Nat → Int32) (n : Nat) : sumI h (n + 1) = sumI h n + h n := rfl
theorem sumI_z {h : Nat → Int32} {n : Nat} (e : h n = 0) : sumI h (n + 1) = sumI h n := by rw [sumI, e, Int32.add_zero]
theorem cnt_sI {P : Nat → Bool} {n : Nat} : nI (cnt P (n + 1)) = nI (cnt P n) + bI (P n) := by
  cases e : P n
  · rw [cnt_f e]
    exact (Int32.add_zero _).symm
  · rw [cnt_t e]
    exact (nI_add _ 1).symm
theorem owd_0 {f : Nat → Int32} (h : IV f) {g : Nat} (hg : g < 9) (sg : gs f g = false) : owd f g = 0 := (sumI_congr (h' := fun _ => nI 0) 9 (fun o ho => by
  rw [show 21 + 17 * g + o = 13 + 17 * g + (8 + o) by omega, h.zr g hg sg (8 + o) (by omega)]
  rfl)).trans rfl
theorem psP_t {f : Nat → Int32} {g : Nat} (sg : gs f g = true) (n : ¬ rsn f g = 0) : psP f g = true := by rw [psP, sg, decide_eq_true n]; rfl
theorem psP_f {f : Nat → Int32} {g : Nat} (n : rsn f g = 0) : psP f g = false := by rw [psP, decide_eq_false (fun z => z n), Bool.and_false]
theorem psP_n {f : Nat → Int32} {g : Nat} (sg : gs f g = false) : psP f g = false := by rw [psP, sg, Bool.false_and]
theorem rsn_1 {f : Nat → Int32} {g : Nat} (c : f 2 ≤ f (17 + 17 * g)) : nI 1 = rsn f g := by rw [rsn, if_pos c]
theorem rsn_2 {f : Nat → Int32} {g : Nat} (c : ¬ f 2 ≤ f (17 + 17 * g)) (d : f 1 ≤ owd f g) : nI 2 = rsn f g := by rw [rsn, if_neg c, if_pos d]
theorem rsn_3 {f : Nat → Int32} {g : Nat} (c : ¬ f 2 ≤ f (17 + 17 * g)) (d : ¬ f 1 ≤ owd f g) : nI 0 = rsn f g := by rw [rsn, if_neg c, if_neg d]
theorem rsn_le {f : Nat → Int32} {g : Nat} (c : rsn f g ≤ 0) : rsn f g = 0 := by
  unfold rsn at c ⊢
  split at c
  · exact absurd c (by decide)
  · rename_i n
    rw [if_neg n]
    split at c
    · exact absurd c (by decide)
    · rename_i n2
      rw [if_neg n2]
      rfl
theorem rsn_nl {f : Nat → Int32} {g : Nat} (c : ¬ rsn f g ≤ 0) : ¬ rsn f g = 0 := fun z => c (by rw [z]; decide)
/-! the property of its own: when one would sit there -/
theorem siX_is (f : Nat → Int32) (g : Nat) (v : Int32) : ∀ n k, (siX f g v n k = -6 ∧ ∀ i, k ≤ i → i < k + n → ¬ nI (rk (biF f i) g) ≤ v) ∨ ∃ i, k ≤ i ∧ i < k + n ∧ siX f g v n k = nI i ∧ nI (rk (biF f i) g) ≤ v ∧ ∀ j, k ≤ j → j < i → ¬ nI (rk (biF f j) g) ≤ v
  | 0, k => Or.inl ⟨rfl, fun i a b => by omega⟩
  | n + 1, k => by
    rw [siX]
    by_cases c : nI (rk (biF f k) g) ≤ v
    · rw [if_pos c]
      exact Or.inr ⟨k, Nat.le_refl _, by omega, rfl, c, fun j a b => by omega⟩
    · rw [if_neg c]
      have cl : ∀ i, i = k → ¬ nI (rk (biF f i) g) ≤ v := fun i z => by rw [z]; exact c
      rcases siX_is f g v n (k + 1) with ⟨a, b⟩ | ⟨i, a, b, d, e, m⟩
      · refine Or.inl ⟨a, fun i p q => ?_⟩
        by_cases z : i = k
        · exact cl i z
        · exact b i (by omega) (by omega)
      · refine Or.inr ⟨i, by omega, by omega, d, e, fun j p q => ?_⟩
        by_cases z : j = k
        · exact cl j z
        · exact m j (by omega) q
theorem stR_X {f : Nat → Int32} {g r : Nat} (hg : g < 9) (sg : gs f g = true) (hr : r < ng f) : stR f (nI g) (nI r) = siX f g (nI r) 301 0 := by
  have := ng_le f
  rw [stR, if_pos (stB_T (by rw [hx_n hg]; exact sg) (nI_pos (by omega)) (nI_lt hr (by omega))), nI_clamp (by omega), siR_X]
theorem st_z {f : Nat → Int32} {g : Nat} (hg : g < 9) (sg : gs f g = true) : stR f (nI g) (nI (rk f g)) = 0 := by
  rw [stR_X hg sg (rk_ng hg sg), siX, if_pos]
  · rfl
  · exact Int32.le_refl _
theorem st_nz {f : Nat → Int32} {g : Nat} (hg : g < 9) (sg : gs f g = true) (n : ¬ nI (rk f g) = 0) : ¬ stR f (nI g) (nI (rk f g) - nI 1) = 0 := by
  have h1 := rk_ng hg sg
  have h2 := ng_le f
  have h0 : rk f g ≠ 0 := fun z => n (by rw [z]; rfl)
  rw [pk_sub (show 1 ≤ rk f g by omega), stR_X hg sg (by omega)]
  intro z
  rcases siX_is f g (nI (rk f g - 1)) 301 0 with ⟨a, -⟩ | ⟨i, -, b, d, e, -⟩
  · rw [a] at z
    exact absurd z (by decide)
  · rw [d] at z
    have hi : i = 0 := by
      have := (nI_eq (a := i) (b := 0) (by omega) (by decide)).mp z
      exact this
    rw [hi] at e
    have := (nI_leI (by omega) (by omega)).mp (show nI (rk f g) ≤ nI (rk f g - 1) from e)
    omega
theorem cnt_mono {P Q : Nat → Bool} : ∀ n, (∀ i, i < n → P i = true → Q i = true) → cnt P n ≤ cnt Q n
  | 0, _ => Nat.le_refl _
  | n + 1, h => by
    have := cnt_mono n (fun i hi => h i (by omega))
    cases p : P n
    · rw [cnt_f p, cnt]
      omega
    · rw [cnt_t p, cnt_t (h n (by omega) p)]
      omega
theorem si_i {f : Nat → Int32} {T g : Nat} (h : JV f T) (hg : g < 9) : 0 ≤ (f (16 + 17 * g)).toInt := by
  obtain ⟨k, hk, e⟩ := sm_si h hg
  rw [e, nI_toInt (by omega)]
  omega
theorem wd_ge {f : Nat → Int32} {T g : Nat} (h : JV f T) (hg : g < 9) (sg : gs f g = true) : ¬ iwR f (nI g) < nI (rk f g) := by
  have e : iwR f (nI g) = nI (rk (wo1 f g) g) := by rw [iwR, hx_n hg, if_pos sg, nI_clamp (by omega)]
  have a := rk_le f g
  have b := rk_le (wo1 f g) g
  rw [e]
  refine Int32.not_lt.mpr (nI_le ?_ (by omega))
  refine cnt_mono 9 (fun o ho p => ?_)
  obtain ⟨p1, p2, p3⟩ := rkP_t.mp p
  have ne : ∀ i, i ≠ 16 + 17 * g → wo1 f g i = f i := fun i hi => upd_ne hi
  refine rkP_t.mpr ⟨?_, p2, ?_⟩
  · rw [← p1]
    exact gs_congr (ne _ (by omega))
  · have q := si_i h hg
    have ow : ∀ i, owd (wo1 f g) i = owd f i := fun i => sumI_congr 9 (fun x hx => ne _ (by omega))
    have z : (wo1 f g (16 + 17 * g)).toInt = 0 := by rw [wo1, upd_at]; rfl
    rw [ahd_iff] at p3 ⊢
    rw [ow, ow, ne (16 + 17 * o) (by omega), ne (17 + 17 * o) (by omega), ne (17 + 17 * g) (by omega), ne (14 + 17 * o) (by omega), ne (14 + 17 * g) (by omega), z]
    omega
theorem sl_gt {f : Nat → Int32} {T g : Nat} (h : JV f T) (hg : g < 9) (sg : gs f g = true) : ¬ sbR f (f (16 + 17 * g)) ≤ nI (rk f g) := by
  have a := rk_le f g
  have b := cnt_le (slP f (f (16 + 17 * g))) 9
  rw [sbR, if_neg (Int32.not_lt.mpr (sm_0 (sm_si h hg)))]
  refine nI_ge ?_ (by omega)
  refine (cnt_ss (P := rkP f g) (Q := slP f (f (16 + 17 * g))) (j := g) (rkP_me f g) ?_ 9 (fun o ho p => ?_)).2 hg
  · rw [slP, sg, decide_eq_true (Int32.le_refl _)]
    rfl
  · obtain ⟨p1, p2, p3⟩ := rkP_t.mp p
    rw [ahd_iff] at p3
    rw [slP, p1, decide_eq_true (Int32.le_iff_toInt_le.mpr (by omega))]
    rfl
theorem sb_0 {f : Nat → Int32} {T : Nat} (h : JV f T) : sbR f (nI 0) = nI (ng f) := by
  rw [sbR, if_neg (by decide)]
  refine congrArg nI (cnt_congr 9 (fun i hi => ?_))
  rw [slP, decide_eq_true (show nI 0 ≤ f (16 + 17 * i) from sm_0 (sm_si h hi)), Bool.and_true]
theorem sb_m {f : Nat → Int32} : sbR f (-1) = -2 := by rw [sbR, if_pos (by decide)]
