/-! the property of its own: change by change -/
theorem lv_row {f : Nat → Int32} (h : IV f) {g k : Nat} (hg : g < 9) (hk : k < 17) : lvF f g (13 + 17 * g + k) = 0 := by
  rw [← lv_eq h.pf h.zr h.sn hg (by omega), lvM, zr_in 17 (by omega) (by omega)]
theorem lv_ne {f : Nat → Int32} (h : IV f) {g i : Nat} (hg : g < 9) (hi : i < 166) (a : i < 13 + 17 * g ∨ 13 + 17 * g + 17 ≤ i) (b : i ≠ 8) (c : i < 13 ∨ ((i - 13) % 17 ≠ 1 ∧ (i - 13) % 17 ≠ 8 + g)) : lvF f g i = f i := by
  rw [← lv_eq h.pf h.zr h.sn hg hi, lvM, zr_out 17 a, lm_ne hg 9 (by omega) c, upd_ne b]
theorem lv_col {f : Nat → Int32} (h : IV f) {g o : Nat} (hg : g < 9) (ho : o < 9) (n : o ≠ g) : lvF f g (21 + 17 * o + g) = 0 := by
  rw [← lv_eq h.pf h.zr h.sn hg (by omega), lvM, zr_out 17 (by omega), lm_owes hg 9 ho]
theorem lv_8 {f : Nat → Int32} (h : IV f) {g : Nat} (hg : g < 9) : lvF f g 8 = f 8 + (owd f g + owt f g) := by
  rw [← lv_eq h.pf h.zr h.sn hg (by omega), lvM, zr_out 17 (by omega), lm_ne hg 9 (by omega) (by omega), upd_at]
theorem lv_g0 {f : Nat → Int32} (h : IV f) {g : Nat} (hg : g < 9) : gs (lvF f g) g = false := decide_eq_false (by rw [show 13 + 17 * g = 13 + 17 * g + 0 from rfl, lv_row h hg (by decide)]; decide)
theorem lv_gn {f : Nat → Int32} (h : IV f) {g i : Nat} (hg : g < 9) (hi : i < 9) (n : i ≠ g) : gs (lvF f g) i = gs f i := gs_congr (lv_ne h hg (by omega) (by omega) (by omega) (by omega))
theorem lv_ng {f : Nat → Int32} (h : IV f) {g : Nat} (hg : g < 9) (sg : gs f g = true) : ng f = ng (lvF f g) + 1 := by
  have e : ng (lvF f g) = cnt (fun i => if i = g then false else gs f i) 9 := cnt_congr 9 (fun i hi => by
    by_cases c : i = g
    · rw [if_pos c, c]
      exact lv_g0 h hg
    · rw [if_neg c]
      exact lv_gn h hg hi c)
  rw [e]
  exact (cnt_add1 (P := fun i => if i = g then false else gs f i) (P' := gs f) (fun i hi => (if_neg hi).symm) (if_pos rfl) sg 9).2 hg
theorem lv_owa {f : Nat → Int32} (h : IV f) (hj : JO f) {g : Nat} (hg : g < 9) : owa (lvF f g) = owa f - (owt f g + owd f g) := by
  have e : ∀ i, i < 9 → owd (lvF f g) i = owd f i - (if i = g then owd f g else f (21 + 17 * i + g)) := by
    intro i hi
    by_cases c : i = g
    · subst c
      rw [if_pos rfl, Int32.sub_self]
      refine (sumI_congr (h' := fun _ => nI 0) 9 (fun o ho => ?_)).trans rfl
      rw [show 21 + 17 * i + o = 13 + 17 * i + (8 + o) by omega, lv_row h hg (by omega)]
      rfl
    · rw [if_neg c, Int32.sub_eq_add_neg]
      refine sumI_one (j := g) 9 hg ?_ (fun o ho n => lv_ne h hg (by omega) (by omega) (by omega) (by omega))
      rw [lv_col h hg hi c, Int32.add_right_neg]
  rw [← owa_eq, ← owa_eq, sumI_congr 9 e, sumI_sub]
  congr 1
  refine sumI_one (j := g) 9 hg ?_ (fun i hi n => if_neg n)
  rw [if_pos rfl, hj g g hg hg (Or.inr rfl), Int32.zero_add]
theorem JOS_lv {f : Nat → Int32} (h : IV f) (hj : JO f ∧ JS f) {g : Nat} (hg : g < 9) : JO (lvF f g) ∧ JS (lvF f g) := by
  refine ⟨fun i o hi ho c => ?_, ?_⟩
  · by_cases e1 : i = g
    · subst e1
      rw [show 21 + 17 * i + o = 13 + 17 * i + (8 + o) by omega, lv_row h hg (by omega)]
    · by_cases e2 : o = g
      · subst e2
        exact lv_col h hg hi e1
      · rw [lv_gn h hg ho e2] at c
        rw [lv_ne h hg (by omega) (by omega) (by omega) (by omega)]
        exact hj.1 i o hi ho c
  · have j := hj.2
    unfold JS at j ⊢
    rw [lv_owa h hj.1 hg, lv_8 h hg, lv_ne h hg (i := 7) (by omega) (by omega) (by omega) (by omega), lv_ne h hg (i := 9) (by omega) (by omega) (by omega) (by omega), lv_ne h hg (i := 10) (by omega) (by omega) (by omega) (by omega), j]
    grind
theorem JV_lv {f : Nat → Int32} {T : Nat} (h : JV f T) {g : Nat} (hg : g < 9) (sg : gs f g = true) : JV (lvF f g) T := by
  refine ⟨IV_lv h.iv hg sg, ?_, JOS_lv h.iv ⟨h.jo, h.js⟩ hg⟩
  obtain ⟨⟨h0, h1⟩, h2, h3, h4⟩ := h.jn
  have ne : ∀ i, i < 13 → i ≠ 8 → lvF f g i = f i := fun i hi n => lv_ne h.iv hg (by omega) (by omega) n (by omega)
  refine ⟨⟨by rw [ne 3 (by decide) (by decide)]; exact h0, fun i hi => ?_⟩, by rw [ne 2 (by decide) (by decide)]; exact h2, by rw [ne 4 (by decide) (by decide)]; exact h3, fun i hi => ?_⟩
  · by_cases e : i = g
    · subst e
      exact ⟨⟨0, by decide, by rw [show 15 + 17 * i = 13 + 17 * i + 2 by omega]; exact lv_row h.iv hg (by decide)⟩, 0, by decide, by rw [show 16 + 17 * i = 13 + 17 * i + 3 by omega]; exact lv_row h.iv hg (by decide)⟩
    · rw [lv_ne h.iv hg (i := 15 + 17 * i) (by omega) (by omega) (by omega) (by omega), lv_ne h.iv hg (i := 16 + 17 * i) (by omega) (by omega) (by omega) (by omega)]
      exact h1 i hi
  · by_cases e : i = g
    · subst e
      exact ⟨0, by decide, by rw [show 17 + 17 * i = 13 + 17 * i + 4 by omega]; exact lv_row h.iv hg (by decide)⟩
    · rw [lv_ne h.iv hg (i := 17 + 17 * i) (by omega) (by omega) (by omega) (by omega)]
      exact h4 i hi
theorem JV_le {f : Nat → Int32} {T : Nat} (h : JV f T) (x : Int32) : JV (leR f x).2 T := by
  unfold leR
  split
  · rename_i c
    obtain ⟨g, hg, rfl, sg⟩ := hx_t c
    rw [nI_clamp (by omega)]
    exact JV_lv h hg sg
  · exact h
theorem nw_ne {f : Nat → Int32} {g i : Nat} {x : Int32} (a : i ≠ 13 + 17 * g) (b : i ≠ 14 + 17 * g) (c : i ≠ 15 + 17 * g) : nwF f g x i = f i := by rw [nwF, upd_ne c, upd_ne b, upd_ne a]
theorem JV_nw {f : Nat → Int32} {T : Nat} (h : JV f T) {g p : Nat} (hg : g < 9) (sg : gs f g = false) (h1 : 1 ≤ p) (h2 : p ≤ 30) : JV (nwF f g (nI p)) T := by
  have cell : ∀ i o, i < 9 → o < 9 → nwF f g (nI p) (21 + 17 * i + o) = f (21 + 17 * i + o) := fun i o _ ho => nw_ne (by omega) (by omega) (by omega)
  have g1 : gs (nwF f g (nI p)) g = true := decide_eq_true (by rw [nwF, upd_ne (by omega), upd_ne (by omega), upd_at])
  refine ⟨IV_nw h.iv hg sg (show nI 0 < nI p from nI_lt (by omega) (by omega)), ?_, fun i o hi ho c => ?_, JS_of h.js cell (nw_ne (by omega) (by omega) (by omega)) (nw_ne (by omega) (by omega) (by omega)) (nw_ne (by omega) (by omega) (by omega)) (nw_ne (by omega) (by omega) (by omega))⟩
  · obtain ⟨⟨k0, k1⟩, k2, k3, k4⟩ := h.jn
    have ne : ∀ i, i < 13 → nwF f g (nI p) i = f i := fun i hi => nw_ne (by omega) (by omega) (by omega)
    refine ⟨⟨by rw [ne 3 (by decide)]; exact k0, fun i hi => ?_⟩, by rw [ne 2 (by decide)]; exact k2, by rw [ne 4 (by decide)]; exact k3, fun i hi => by rw [nw_ne (by omega) (by omega) (by omega)]; exact k4 i hi⟩
    rw [nw_ne (i := 16 + 17 * i) (by omega) (by omega) (by omega)]
    refine ⟨?_, (k1 i hi).2⟩
    by_cases e : i = g
    · subst e
      exact ⟨p, h2, by rw [nwF, upd_at]⟩
    · rw [nw_ne (by omega) (by omega) (by omega)]
      exact (k1 i hi).1
  · rw [cell i o hi ho]
    refine h.jo i o hi ho ?_
    by_cases e : o = g
    · rw [e, g1] at c
      rcases c with c | c
      · cases c
      · exact Or.inr (by omega)
    · rwa [show gs (nwF f g (nI p)) o = gs f o from gs_congr (nw_ne (by omega) (by omega) (by omega))] at c
theorem JV_co {f : Nat → Int32} {T : Nat} (h : JV f T) {p : Nat} (h1 : 1 ≤ p) (h2 : p ≤ 30) : JV (coR f (nI p)).2 T := by
  unfold coR
  split
  · exact h
  · split
    · exact h
    · rename_i n
      obtain ⟨a, b⟩ := fre_9 n
      exact JV_nw h a b h1 h2
theorem wo_ne {f : Nat → Int32} {g i : Nat} (a : i ≠ 16 + 17 * g) (b : i ≠ 19 + 17 * g) (c : i ≠ 11) : woF f g i = f i := by rw [woF, upd_ne c, wo2, upd_ne b, wo1, upd_ne a]
theorem wo_16 {f : Nat → Int32} {g : Nat} : woF f g (16 + 17 * g) = 0 := by rw [woF, upd_ne (by omega), wo2, upd_ne (by omega), wo1, upd_at]
theorem wo_11 {f : Nat → Int32} {g : Nat} : woF f g 11 = f 11 + nI 1 := by rw [woF, upd_at, wo2, upd_ne (by omega), wo1, upd_ne (by omega)]
theorem JV_wo {f : Nat → Int32} {T : Nat} (h : JV f T) {g : Nat} (sg : gs f g = true) : JV (woF f g) T := by
  refine ⟨IV_wo h.iv sg, ?_, JOS_of ⟨h.jo, h.js⟩ (fun o ho => wo_ne (by omega) (by omega) (by omega)) (fun i o hi ho => wo_ne (by omega) (by omega) (by omega)) (wo_ne (by omega) (by omega) (by omega)) (wo_ne (by omega) (by omega) (by omega)) (wo_ne (by omega) (by omega) (by omega)) (wo_ne (by omega) (by omega) (by omega))⟩
  obtain ⟨⟨k0, k1⟩, k2, k3, k4⟩ := h.jn
  have ne : ∀ i, i < 11 → woF f g i = f i := fun i hi => wo_ne (by omega) (by omega) (by omega)
  refine ⟨⟨by rw [ne 3 (by decide)]; exact k0, fun i hi => ?_⟩, by rw [ne 2 (by decide)]; exact k2, by rw [ne 4 (by decide)]; exact k3, fun i hi => by rw [wo_ne (by omega) (by omega) (by omega)]; exact k4 i hi⟩
  rw [wo_ne (i := 15 + 17 * i) (by omega) (by omega) (by omega)]
  refine ⟨(k1 i hi).1, ?_⟩
  by_cases e : i = g
  · subst e
    exact ⟨0, by decide, wo_16⟩
  · rw [wo_ne (by omega) (by omega) (by omega)]
    exact (k1 i hi).2
theorem JV_woR {f : Nat → Int32} {T : Nat} (h : JV f T) (x : Int32) : JV (woR f x).2 T := by
  unfold woR
  split
  · rename_i c
    obtain ⟨g, hg, rfl, sg⟩ := hx_t c
    rw [nI_clamp (by omega)]
    exact JV_wo h sg
  · exact h
theorem JV_bo {f : Nat → Int32} {T : Nat} (h : JV f T) (x z : Int32) : JV (boR f x z).2 T := by
  unfold boR
  split
  · exact h
  · rename_i c
    split
    · exact h
    · obtain ⟨g, o, hg, ho, hgo, rfl, rfl, sg, so⟩ := pairE_ok (Int32.not_lt.mp c)
      rw [nI_clamp (by omega), nI_clamp (by omega)]
      exact ⟨IV_pay h.iv hg ho sg, JN_pay h.jn ho, JOS_pay ⟨h.jo, h.js⟩ hg ho hgo sg so⟩
theorem JV_ofF {f : Nat → Int32} {T : Nat} (h : JV f T) {g o : Nat} (hg : g < 9) (ho : o < 9) (hgo : g ≠ o) (sg : gs f g = true) (so : gs f o = true) (hr : rsn f o = 0) : JV (ofF f g o (cu f)) (T + 9) := by
  have eg : ∀ i, gs (drF f o (cu f)) i = gs f i := fun i => gs_congr (drF_ne (by unfold stc; omega))
  have el : ∀ i, gs (layF (drF f o (cu f)) o g (nI 2)) i = gs f i := fun i => (gs_congr (layF_ne hg (by unfold stc; omega))).trans (eg i)
  have hj := JOS_dr ⟨h.jo, h.js⟩ o (cu f)
  have hl := JOS_lay hj ho hg (fun z => hgo z.symm) (by rw [eg]; exact so) (by rw [eg]; exact sg) (nI 2)
  refine ⟨IV_of h.iv _ hg ho hgo sg so hr, ?_, JOS_off hl hg ho hgo (by rw [el]; exact sg) (by rw [el]; exact so)⟩
  have := cu_le h.iv
  exact JN_mono (JN_off (JN_lay (JN_dr h.jn ho hr (cu f)) hg (nI 2)) hg ho) (by omega)
theorem JV_of {f : Nat → Int32} {T : Nat} (h : JV f T) (x z : Int32) : JV (ofR f x z (cu f)).2 (T + 9) := by
  unfold ofR
  split
  · exact h.mono (by omega)
  · rename_i n
    split
    · exact h.mono (by omega)
    · rename_i n2
      obtain ⟨g, o, hg, ho, hgo, rfl, rfl, sg, so⟩ := pairE_ok (Int32.not_lt.mp n)
      rw [nI_clamp (by omega)] at n2
      rw [nI_clamp (by omega), nI_clamp (by omega)]
      exact JV_ofF h hg ho hgo sg so (Decidable.of_not_not (fun z => n2 (Or.inl z)))
theorem JV_ps {f : Nat → Int32} {T : Nat} (h : JV f T) (m : Nat) : JV (psF f m) (T + m) := ⟨IV_ps h.iv m, JN_ps h.jn m, JOS_ps ⟨h.jo, h.js⟩ m⟩
theorem JV_st {f : Nat → Int32} {T : Nat} (h : JV f T) : JV (stF f 9) T := ⟨IV_st h.iv, JN_st h.jn, JOS_st ⟨h.jo, h.js⟩⟩
theorem JV_set {f : Nat → Int32} {T : Nat} (h : JV f T) {k w : Nat} (hk : k < 4) (e : seB (nI k) (nI w) = true) (hw : w ≤ mxS k) : JV (upd f k (nI w)) T := by
  have iv := IV_set h.iv e
  rw [nI_clamp (by omega)] at iv
  refine ⟨iv, ?_, JOS_of ⟨h.jo, h.js⟩ (fun o ho => upd_ne (by omega)) (fun i o hi ho => upd_ne (by omega)) (upd_ne (by omega)) (upd_ne (by omega)) (upd_ne (by omega)) (upd_ne (by omega))⟩
  obtain ⟨⟨k0, k1⟩, k2, k3, k4⟩ := h.jn
  have ne : ∀ i, i ≠ k → upd f k (nI w) i = f i := fun i hi => upd_ne hi
  refine ⟨⟨?_, fun i hi => by rw [ne (15 + 17 * i) (by omega), ne (16 + 17 * i) (by omega)]; exact k1 i hi⟩, ?_, by rw [ne 4 (by omega)]; exact k3, fun i hi => by rw [ne (17 + 17 * i) (by omega)]; exact k4 i hi⟩
  · by_cases c : k = 3
    · subst c
      exact ⟨w, hw, upd_at⟩
    · rw [ne 3 (by omega)]
      exact k0
  · by_cases c : k = 2
    · subst c
      exact ⟨w, hw, upd_at⟩
    · rw [ne 2 (by omega)]
      exact k2
theorem od_st {f : Nat → Int32} (h1 : SU f) (h2 : SJ f) {s : Nat} (hs : s < ng f) : f (14 + 17 * od f s) = nI s := by
  obtain ⟨g, hg, sg, e⟩ := h2 s hs
  have hP : stP f (nI s) g = true := by simp [stP, sg, e]
  have hl := lst_one hP 9 hg (fun i hi hp => stP_u h1 hi hg hp hP)
  have ho : od f s = g := by rw [od, hl, nI_clamp (by omega)]
  rw [ho]
  exact e
theorem cp_JN {f : Nat → Int32} {T : Nat} (h : JV f T) : ∀ s, s ≤ ng f → JN (cpH f (cu f) s).1 (T + cu f * s) ∧ (JO (cpH f (cu f) s).1 ∧ JS (cpH f (cu f) s).1)
  | 0, _ => ⟨h.jn, h.jo, h.js⟩
  | s + 1, hs => by
    have ih := cp_JN h s (by omega)
    obtain ⟨k1, k2, k3⟩ := cpH_keep h.iv.su h.iv.sj (c := cu f) s (by omega)
    obtain ⟨o1, o2, o3⟩ := od_is h.iv.su h.iv.sj (show s < ng f by omega)
    have eg : ∀ i, gs (cpH f (cu f) s).1 i = gs f i := fun i => gs_congr (k1 _ (by unfold stc; omega))
    rw [cpH]
    split
    · rename_i hr
      show JN (layO (drF (cpH f (cu f) s).1 (od f s) (cu f)) (od f s) (cpH f (cu f) s).2.1) _ ∧ (JO (layO (drF (cpH f (cu f) s).1 (od f s) (cu f)) (od f s) (cpH f (cu f) s).2.1) ∧ JS (layO (drF (cpH f (cu f) s).1 (od f s) (cu f)) (od f s) (cpH f (cu f) s).2.1))
      have hn : JN (drF (cpH f (cu f) s).1 (od f s) (cu f)) (T + cu f * (s + 1)) := JN_mono (JN_dr ih.1 o1 hr (cu f)) (by rw [Nat.mul_succ]; omega)
      have hj := JOS_dr ih.2 (od f s) (cu f)
      cases e : (cpH f (cu f) s).2.1 with
      | none => exact ⟨hn, hj⟩
      | some o =>
        obtain ⟨ho, so, t, ht, et⟩ := k2 o e
        have hne : od f s ≠ o := fun z => by
          have a := od_st h.iv.su h.iv.sj (show s < ng f by omega)
          have b := od_st h.iv.su h.iv.sj (show t < ng f by omega)
          rw [← et, ← z, a] at b
          have := ng_le f
          have := (nI_eq (by omega) (by omega)).mp b
          omega
        have ed : ∀ i, gs (drF (cpH f (cu f) s).1 (od f s) (cu f)) i = gs f i := fun i => (gs_congr (drF_ne (by unfold stc; omega))).trans (eg i)
        exact ⟨JN_lay hn ho _, JOS_lay hj o1 ho hne (by rw [ed]; exact o2) (by rw [ed]; exact so) _⟩
    · exact ⟨JN_mono ih.1 (by rw [Nat.mul_succ]; omega), ih.2⟩
theorem JV_cp {f : Nat → Int32} {T : Nat} (h : JV f T) : JV (cpH f (cu f) (ng f)).1 (T + 81) := by
  have k := cp_JN h (ng f) (Nat.le_refl _)
  have : cu f * ng f ≤ 81 := Nat.le_trans (Nat.mul_le_mul (cu_le h.iv) (ng_le f)) (by decide)
  exact ⟨IV_cp h.iv (cu f) (ng f) (Nat.le_refl _), JN_mono k.1 (by omega), k.2⟩
theorem JV_5 {f : Nat → Int32} {T : Nat} (h : JV f T) (v : Int32) : JV (upd f 5 v) T := ⟨IV_5 h.iv 5 (by decide) v, JN_of h.jn (fun i hi => upd_ne (by omega)) (fun i hi => ⟨upd_ne (by omega), upd_ne (by omega), upd_ne (by omega)⟩), JOS_of ⟨h.jo, h.js⟩ (fun o ho => upd_ne (by omega)) (fun i o hi ho => upd_ne (by omega)) (upd_ne (by omega)) (upd_ne (by omega)) (upd_ne (by omega)) (upd_ne (by omega))⟩
theorem JV_rn {f : Nat → Int32} {T : Nat} (h : JV f T) : JV (rnF f (cu f)) (T + 81) := JV_5 (JV_st (JV_cp h)) _
