/-! ranks of like rooms -/
theorem rk_congr {f f' : Nat → Int32} (h : ∀ i, i < 9 → f' (13 + 17 * i) = f (13 + 17 * i) ∧ f' (14 + 17 * i) = f (14 + 17 * i) ∧ f' (16 + 17 * i) = f (16 + 17 * i) ∧ f' (17 + 17 * i) = f (17 + 17 * i) ∧ owd f' i = owd f i) {g : Nat} (hg : g < 9) : rk f' g = rk f g := by
  refine cnt_congr 9 (fun o ho => ?_)
  obtain ⟨a1, a2, a3, a4, a5⟩ := h o ho
  obtain ⟨b1, b2, b3, b4, b5⟩ := h g hg
  unfold rkP ahd
  rw [gs_congr a1, a2, a3, a4, a5, b2, b3, b4, b5]
theorem rk_wo {f : Nat → Int32} {g : Nat} (hg : g < 9) : rk (woF f g) g = rk (wo1 f g) g := by
  have ne : ∀ i, i ≠ 19 + 17 * g → i ≠ 11 → woF f g i = wo1 f g i := fun i a c => by rw [woF, upd_ne c, wo2, upd_ne a]
  exact rk_congr (fun i hi => ⟨ne _ (by omega) (by omega), ne _ (by omega) (by omega), ne _ (by omega) (by omega), ne _ (by omega) (by omega), sumI_congr 9 (fun o ho => ne _ (by omega) (by omega))⟩) hg
theorem s01_out {x : Int32} (h : s01 x = false) (h0 : 0 ≤ x) (h1 : x ≤ nI 1) : False := by
  rw [s01, inB, decide_eq_true (p := nI 0 ≤ x) h0, decide_eq_true h1] at h
  cases h
