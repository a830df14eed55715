/-! between two calls: the class and the reference -/
def agF (f g : Nat → Int32) : Prop := ∀ i, i < 166 → f i = g i
theorem IV_ag {f g : Nat → Int32} (h : IV f) (e : agF g f) : IV g := by
  have e1 : ∀ i, i < 9 → g (13 + 17 * i) = f (13 + 17 * i) := fun i hi => e _ (by omega)
  have e2 : ∀ i, i < 9 → g (14 + 17 * i) = f (14 + 17 * i) := fun i hi => e _ (by omega)
  refine ⟨PF_congr h.pf e1 (fun i hi => e _ (by omega)), SU_congr h.su e1 e2, fun i hi si => ?_, fun i hi si k hk => ?_, ?_, ?_, OW_congr h.ow (fun i o hi ho => e _ (by omega))⟩
  · rw [gs_congr (e1 i hi)] at si
    rw [ng_congr e1, e2 i hi]
    exact h.sb i hi si
  · rw [gs_congr (e1 i hi)] at si
    rw [e _ (by omega)]
    exact h.zr i hi si k hk
  · rw [e 0 (by omega)]
    exact h.s0
  · rw [e 1 (by omega)]
    exact h.s1
theorem ng_ag {f g : Nat → Int32} (e : agF g f) : ng g = ng f := ng_congr (fun i hi => e _ (by omega))
theorem rm_ag {y : Nat → ClassId} {a : Nat → Nat} {f g k : Nat → Int32} (e : agF f g) : rmW y a f k = rmW y a g k := rmW_eq (fun i hi _ => e i hi) (fun _ _ => rfl)
theorem agF_rf (f : Nat → Int32) : agF f f := fun _ _ => rfl
theorem agF_sy {f g : Nat → Int32} (h : agF f g) : agF g f := fun i hi => (h i hi).symm
theorem agF_tr {f g k : Nat → Int32} (h : agF f g) (h2 : agF g k) : agF f k := fun i hi => (h i hi).trans (h2 i hi)
theorem upG_ne {G : Nat → Nat → Int32} {i j : Nat} {g : Nat → Int32} (h : i ≠ j) : upG G j g i = G i := if_neg h
theorem sv_pl (B S : Nat → Int32) (k : Nat) : agF (svF (plF B S k 166) k) S := fun i hi => by
  show plF B S k 166 (166 * k + i) = S i
  rw [plF, if_pos (by omega), Nat.add_sub_cancel_left]
theorem sv_pl2 (B S : Nat → Int32) {k j : Nat} (h : j ≠ k) : agF (svF (plF B S k 166) j) (svF B j) := fun i hi => by
  show plF B S k 166 (166 * j + i) = B (166 * j + i)
  rw [plF, if_neg (by omega)]
theorem sv_sh (B S : Nat → Int32) {j : Nat} (h : j < 5) : agF (svF (plF (shF B 830) S 5 166) j) (svF B (j + 1)) := fun i hi => by
  show plF (shF B 830) S 5 166 (166 * j + i) = B (166 * (j + 1) + i)
  rw [plF, if_neg (by omega), shF, if_pos (by omega), show 166 + (166 * j + i) = 166 * (j + 1) + i by omega]
/-- the history: the class's ring, the reference's row -/
def rlH (Gr : Nat → Nat → Int32) (nx kp : Nat) (B : Nat → Int32) : Prop := ∀ j, j < kp → agF (Gr ((nx + 6 - kp + j) % 6)) (svF B j) ∧ IV (svF B j)
/-- a slot -/
def rlS (b : Bool) (f S : Nat → Int32) (k : Nat) (x : Int32) : Prop := x = bI b ∧ (b = true → agF f (svF S k) ∧ IV (svF S k))
def LK (R Gr : Nat → Nat → Int32) (b0 b1 : Bool) (nx kp : Nat) (t : Nat → Int32) (len : Nat) (s : Nat → Int32) (q : mdQ) : Prop :=
  (R 1 = s ∧ IV s) ∧ (q_pad q = t ∧ q_length q = nI len ∧ len ≤ 80) ∧ (nx < 6 ∧ kp ≤ 6 ∧ q_states q = nI kp ∧ rlH Gr nx kp (q_before q)) ∧ rlS b0 (R 5) (q_saved q) 0 (q_isSaved q 0) ∧ rlS b1 (R 7) (q_saved q) 1 (q_isSaved q 1)
theorem kpS_le {kp : Nat} (h : kp ≤ 6) : kpS kp ≤ 6 := by
  unfold kpS
  split <;> omega
theorem re_before6 (q : mdQ) : q_before (reQ q 6) = plF (shF (q_before q) 830) (q_spare q) 5 166 := by
  rw [reQ, if_pos rfl]
  rfl
theorem re_before (q : mdQ) {k : Nat} (h : k ≠ 6) : q_before (reQ q k) = plF (q_before q) (q_spare q) k 166 := by
  rw [reQ, if_neg h]
  rfl
theorem re_states (q : mdQ) {k : Nat} (h : k ≤ 6) : q_states (reQ q k) = nI (kpS k) := by
  unfold reQ kpS
  split
  · rw [if_pos (by omega)]
    rfl
  · rw [if_neg (by omega)]
    rfl
theorem re_saved (q : mdQ) (k : Nat) : q_saved (reQ q k) = q_saved q := by
  unfold reQ
  split <;> rfl
theorem re_isSaved (q : mdQ) (k : Nat) : q_isSaved (reQ q k) = q_isSaved q := by
  unfold reQ
  split <;> rfl
theorem re_pad (q : mdQ) (k : Nat) : q_pad (reQ q k) = q_pad q := by
  unfold reQ
  split <;> rfl
theorem re_length (q : mdQ) (k : Nat) : q_length (reQ q k) = q_length q := by
  unfold reQ
  split <;> rfl
theorem rlH_rec {Gr : Nat → Nat → Int32} {nx kp : Nat} {q1 : mdQ} {s : Nat → Int32} (hn : nx < 6) (hk : kp ≤ 6) (h : rlH Gr nx kp (q_before q1)) (hsp : q_spare q1 = s) (hs : IV s) : rlH (upG Gr nx s) (nxS nx) (kpS kp) (q_before (reQ q1 kp)) := by
  have hx : nxS nx = nx + 1 ∧ nx < 5 ∨ nx = 5 ∧ nxS nx = 0 := by
    unfold nxS
    split <;> omega
  by_cases c : kp = 6
  · subst c
    rw [re_before6, hsp]
    show rlH _ _ 6 _
    intro j hj
    by_cases cj : j = 5
    · subst cj
      rw [show (nxS nx + 6 - 6 + 5) % 6 = nx by omega, upG_at]
      exact ⟨agF_sy (sv_pl _ s 5), IV_ag hs (sv_pl _ s 5)⟩
    · obtain ⟨b1, b2⟩ := h (j + 1) (by omega)
      have a := sv_sh (q_before q1) s (show j < 5 by omega)
      rw [show (nxS nx + 6 - 6 + j) % 6 = (nx + 6 - 6 + (j + 1)) % 6 by omega, upG_ne (by omega)]
      exact ⟨agF_tr b1 (agF_sy a), IV_ag b2 a⟩
  · have e1 : kpS kp = kp + 1 := by
      unfold kpS
      rw [if_neg (by omega)]
    rw [re_before _ c, hsp, e1]
    intro j hj
    by_cases cj : j = kp
    · subst cj
      rw [show (nxS nx + 6 - (j + 1) + j) % 6 = nx by omega, upG_at]
      exact ⟨agF_sy (sv_pl _ s j), IV_ag hs (sv_pl _ s j)⟩
    · obtain ⟨b1, b2⟩ := h j (by omega)
      have a := sv_pl2 (q_before q1) s cj
      rw [show (nxS nx + 6 - (kp + 1) + j) % 6 = (nx + 6 - kp + j) % 6 by omega, upG_ne (by omega)]
      exact ⟨agF_tr b1 (agF_sy a), IV_ag b2 a⟩
section LKs
variable {R Gr : Nat → Nat → Int32} {b0 b1 : Bool} {nx kp : Nat} {t : Nat → Int32} {len : Nat} {s : Nat → Int32} {q : mdQ}
/-- a change that is recorded, where its answer is no error -/
theorem LK_rec (h : LK R Gr b0 b1 nx kp t len s q) {q1 : mdQ} {len2 : Nat} (hsp : q_spare q1 = s) (hb : q_before q1 = q_before q) (hv : q_saved q1 = q_saved q) (hi : q_isSaved q1 = q_isSaved q) (hp : q_pad q1 = q_pad q) (hl : q_length q1 = nI len2) (h80 : len2 ≤ 80) (hs : q_states q1 = q_states q) {f2 : Nat → Int32} (hf : IV f2) (r : Int32) : LK (upG (upG R 2 (R 1)) 1 f2) (rcG Gr nx (R 1) r) b0 b1 (rcN nx r) (rcP kp r) t len2 f2 (rcQ q1 kp r) := by
  obtain ⟨⟨h1, h2⟩, ⟨h3, h4, h5⟩, ⟨h6, h7, h8, h9⟩, h10, h11⟩ := h
  by_cases c : 0 ≤ r
  · rw [rcG, rcN, rcP, rcQ, if_pos c, if_pos c, if_pos c, if_pos c]
    refine ⟨⟨rfl, hf⟩, ⟨(re_pad _ _).trans (hp.trans h3), (re_length _ _).trans hl, h80⟩, ⟨nxS_lt h6, kpS_le h7, re_states _ h7, rlH_rec h6 h7 (by rw [hb]; exact h9) (hsp.trans h1.symm) (by rw [h1]; exact h2)⟩, ?_, ?_⟩
    · rw [re_saved, re_isSaved, hv, hi]
      exact h10
    · rw [re_saved, re_isSaved, hv, hi]
      exact h11
  · rw [rcG, rcN, rcP, rcQ, if_neg c, if_neg c, if_neg c, if_neg c]
    refine ⟨⟨rfl, hf⟩, ⟨hp.trans h3, hl, h80⟩, ⟨h6, h7, hs.trans h8, by rw [hb]; exact h9⟩, ?_, ?_⟩
    · rw [hv, hi]
      exact h10
    · rw [hv, hi]
      exact h11
/-- nothing that counts is changed -/
theorem LK_q (h : LK R Gr b0 b1 nx kp t len s q) {R2 : Nat → Nat → Int32} {q1 : mdQ} (e1 : R2 1 = R 1) (e5 : R2 5 = R 5) (e7 : R2 7 = R 7) (hb : q_before q1 = q_before q) (hv : q_saved q1 = q_saved q) (hi : q_isSaved q1 = q_isSaved q) (hp : q_pad q1 = q_pad q) (hl : q_length q1 = q_length q) (hs : q_states q1 = q_states q) : LK R2 Gr b0 b1 nx kp t len s q1 := by
  obtain ⟨⟨h1, h2⟩, ⟨h3, h4, h5⟩, ⟨h6, h7, h8, h9⟩, h10, h11⟩ := h
  exact ⟨⟨e1.trans h1, h2⟩, ⟨hp.trans h3, hl.trans h4, h5⟩, ⟨h6, h7, hs.trans h8, by rw [hb]; exact h9⟩, by rw [hv, hi, e5]; exact h10, by rw [hv, hi, e7]; exact h11⟩
/-- another text -/
theorem LK_t (h : LK R Gr b0 b1 nx kp t len s q) {t2 : Nat → Int32} {len2 : Nat} (h80 : len2 ≤ 80) : LK R Gr b0 b1 nx kp t2 len2 s (qs_length (qs_pad q t2) (nI len2)) := by
  obtain ⟨⟨h1, h2⟩, ⟨h3, h4, h5⟩, ⟨h6, h7, h8, h9⟩, h10, h11⟩ := h
  exact ⟨⟨h1, h2⟩, ⟨rfl, rfl, h80⟩, ⟨h6, h7, h8, h9⟩, h10, h11⟩
theorem LK_w (h : LK R Gr b0 b1 nx kp t len s q) : LK R Gr b0 b1 nx kp t 0 s (qs_length q (nI 0)) := by
  obtain ⟨⟨h1, h2⟩, ⟨h3, h4, h5⟩, ⟨h6, h7, h8, h9⟩, h10, h11⟩ := h
  exact ⟨⟨h1, h2⟩, ⟨h3, rfl, Nat.zero_le _⟩, ⟨h6, h7, h8, h9⟩, h10, h11⟩
theorem puN_le {n : Nat} (h80 : len ≤ 80) : puN n len ≤ 80 := by
  unfold puN
  repeat' split
  all_goals omega
theorem rl_last (h : LK R Gr b0 b1 nx (kp + 1) t len s q) : agF (Gr (nxP nx)) (svF (q_before q) kp) ∧ IV (svF (q_before q) kp) := by
  obtain ⟨-, -, ⟨h6, h7, h8, h9⟩, -, -⟩ := h
  have e : (nx + 6 - (kp + 1) + kp) % 6 = nxP nx := by
    unfold nxP
    split <;> omega
  have := h9 kp (by omega)
  rw [e] at this
  exact this
theorem LK_undo (h : LK R Gr b0 b1 nx (kp + 1) t len s q) : LK (upG R 1 (svF (q_before q) kp)) Gr b0 b1 (nxP nx) kp t len (svF (q_before q) kp) (qs_states q (nI kp)) := by
  have hl := rl_last h
  obtain ⟨⟨h1, h2⟩, ⟨h3, h4, h5⟩, ⟨h6, h7, h8, h9⟩, h10, h11⟩ := h
  refine ⟨⟨rfl, hl.2⟩, ⟨h3, h4, h5⟩, ⟨nxP_lt h6, by omega, rfl, fun j hj => ?_⟩, h10, h11⟩
  have e : (nxP nx + 6 - kp + j) % 6 = (nx + 6 - (kp + 1) + j) % 6 := by
    unfold nxP
    split <;> omega
  rw [e]
  exact h9 j (by omega)
theorem LK_save0 (h : LK R Gr b0 b1 nx kp t len s q) : LK (upG R 5 (R 1)) Gr true b1 nx kp t len s (qs_isSaved (qs_saved q (plF (q_saved q) s 0 166)) (upd (q_isSaved q) 0 (nI 1))) := by
  obtain ⟨⟨h1, h2⟩, ⟨h3, h4, h5⟩, ⟨h6, h7, h8, h9⟩, h10, h11⟩ := h
  refine ⟨⟨h1, h2⟩, ⟨h3, h4, h5⟩, ⟨h6, h7, h8, h9⟩, ⟨rfl, fun _ => ?_⟩, ⟨h11.1, fun hb => ?_⟩⟩
  · exact ⟨agF_tr (by rw [upG_at, h1]; exact agF_rf s) (agF_sy (sv_pl (q_saved q) s 0)), IV_ag h2 (sv_pl (q_saved q) s 0)⟩
  · obtain ⟨k1, k2⟩ := h11.2 hb
    have a := sv_pl2 (q_saved q) s (show 1 ≠ 0 by decide)
    exact ⟨agF_tr k1 (agF_sy a), IV_ag k2 a⟩
theorem LK_save1 (h : LK R Gr b0 b1 nx kp t len s q) : LK (upG R 7 (R 1)) Gr b0 true nx kp t len s (qs_isSaved (qs_saved q (plF (q_saved q) s 1 166)) (upd (q_isSaved q) 1 (nI 1))) := by
  obtain ⟨⟨h1, h2⟩, ⟨h3, h4, h5⟩, ⟨h6, h7, h8, h9⟩, h10, h11⟩ := h
  refine ⟨⟨h1, h2⟩, ⟨h3, h4, h5⟩, ⟨h6, h7, h8, h9⟩, ⟨h10.1, fun hb => ?_⟩, ⟨rfl, fun _ => ?_⟩⟩
  · obtain ⟨k1, k2⟩ := h10.2 hb
    have a := sv_pl2 (q_saved q) s (show 0 ≠ 1 by decide)
    exact ⟨agF_tr k1 (agF_sy a), IV_ag k2 a⟩
  · exact ⟨agF_tr (by rw [upG_at, h1]; exact agF_rf s) (agF_sy (sv_pl (q_saved q) s 1)), IV_ag h2 (sv_pl (q_saved q) s 1)⟩
end LKs
theorem IV_iF : IV iF := by
  have g0 : ∀ g, gs iF g = false := fun g => by
    rw [gs, iF_0 (by omega)]
    decide
  refine ⟨fun g hg => Or.inr ⟨iF_0 (by omega), iF_0 (by omega)⟩, fun i j hi hj a => ?_, fun i hi a => ?_, fun i hi a k hk => iF_0 (by omega), ⟨2, by decide, rfl⟩, ⟨3, by decide, rfl⟩, fun g hg => ⟨fun _ => 0, fun o ho => iF_0 (by omega), by decide⟩⟩
  · rw [g0] at a
    cases a
  · rw [g0] at a
    cases a
theorem LK_0 : LK (fun _ => iF) (fun _ => iF) false false 0 0 zF 0 iF qI :=
  ⟨⟨rfl, IV_iF⟩, ⟨rfl, rfl, by decide⟩, ⟨by decide, by decide, rfl, fun j hj => absurd hj (by omega)⟩, ⟨rfl, fun h => by cases h⟩, ⟨rfl, fun h => by cases h⟩⟩
