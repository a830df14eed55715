/-! what always holds of a room -/
theorem cnt_inj : ∀ (m : Nat) (P Q : Nat → Bool) (φ : Nat → Nat) (N : Nat), (∀ i, i < m → P i = true → φ i < N ∧ Q (φ i) = true) → (∀ i j, i < m → j < m → P i = true → P j = true → φ i = φ j → i = j) → cnt P m ≤ cnt Q N
  | 0, _, _, _, _, _, _ => Nat.zero_le _
  | m + 1, P, Q, φ, N, h1, h2 => by
    cases e : P m
    · rw [cnt_f e]
      exact cnt_inj m P Q φ N (fun i hi => h1 i (by omega)) (fun i j hi hj => h2 i j (by omega) (by omega))
    · rw [cnt_t e]
      obtain ⟨a, b⟩ := h1 m (by omega) e
      have rem : ∀ N, φ m < N → cnt Q N = cnt (fun x => Q x && decide (x ≠ φ m)) N + 1 := by
        intro N
        induction N with
        | zero =>
          intro z
          exact absurd z (by omega)
        | succ N ih =>
          intro z
          by_cases eN : φ m = N
          · subst eN
            rw [cnt_t b, cnt_f (P := fun x => Q x && decide (x ≠ φ m)) (by simp)]
            rw [cnt_congr (P := Q) (P' := fun x => Q x && decide (x ≠ φ m)) (φ m) (fun i hi => by
              have : i ≠ φ m := by omega
              simp [this])]
          · have := ih (by omega)
            have c : (Q N && decide (N ≠ φ m)) = Q N := by
              have : N ≠ φ m := fun z => eN z.symm
              simp [this]
            rw [cnt, cnt, c, this]
            omega
      rw [rem N a]
      have := cnt_inj m P (fun x => Q x && decide (x ≠ φ m)) φ N (fun i hi p => by
        obtain ⟨a1, b1⟩ := h1 i (by omega) p
        refine ⟨a1, ?_⟩
        have : φ i ≠ φ m := fun z => by
          have := h2 i m (by omega) (by omega) p e z
          omega
        simp [b1, this]) (fun i j hi hj => h2 i j (by omega) (by omega))
      omega
def SB (f : Nat → Int32) : Prop := ∀ g, g < 9 → gs f g = true → ∃ s, s < ng f ∧ f (14 + 17 * g) = nI s
theorem SJ_of {f : Nat → Int32} (hu : SU f) (hb : SB f) : SJ f := by
  intro s hs
  by_cases h : ∃ g, g < 9 ∧ gs f g = true ∧ f (14 + 17 * g) = nI s
  · exact h
  · exfalso
    have hn := ng_le f
    have k := cnt_inj 9 (gs f) (fun x => decide (x ≠ s)) (fun g => (f (14 + 17 * g)).toNatClampNeg) (ng f) (fun i hi p => by
        obtain ⟨t, ht, e⟩ := hb i hi p
        have : t ≠ s := fun z => h ⟨i, hi, p, by rw [e, z]⟩
        show (f (14 + 17 * i)).toNatClampNeg < ng f ∧ _
        rw [e, nI_clamp (by omega)]
        exact ⟨ht, by simp [this]⟩) (fun i j hi hj p p2 e => by
        obtain ⟨t, ht, e1⟩ := hb i hi p
        obtain ⟨t2, ht2, e2⟩ := hb j hj p2
        refine hu i j hi hj p p2 ?_
        replace e : (f (14 + 17 * i)).toNatClampNeg = (f (14 + 17 * j)).toNatClampNeg := e
        rw [e1, e2, nI_clamp (by omega), nI_clamp (by omega)] at e
        rw [e1, e2, e])
    have l := cnt_lt (P := fun x => decide (x ≠ s)) (j := s) (by simp) (ng f) hs
    have : cnt (gs f) 9 = ng f := rfl
    omega
def sumN (w : Nat → Nat) : Nat → Nat
  | 0 => 0
  | n + 1 => sumN w n + w n
theorem sumI_N {h : Nat → Int32} {w : Nat → Nat} : ∀ n, (∀ o, o < n → h o = nI (w o)) → sumI h n = nI (sumN w n)
  | 0, _ => rfl
  | n + 1, e => by rw [sumI, sumN, sumI_N n (fun o ho => e o (by omega)), e n (by omega), nI_add]
theorem sumN_le {w w' : Nat → Nat} : ∀ n, (∀ o, o < n → w' o ≤ w o) → sumN w' n ≤ sumN w n
  | 0, _ => Nat.le_refl _
  | n + 1, e => by
    have := sumN_le n (fun o ho => e o (by omega))
    have := e n (by omega)
    rw [sumN, sumN]
    omega
theorem sumN_at {w : Nat → Nat} {o : Nat} : ∀ n, o < n → w o ≤ sumN w n
  | 0, h => absurd h (by omega)
  | n + 1, h => by
    rw [sumN]
    by_cases e : o = n
    · subst e
      omega
    · have := sumN_at (w := w) n (show o < n by omega)
      omega
theorem sumN_add {w : Nat → Nat} {o k : Nat} : ∀ n, sumN (fun i => if i = o then w i + k else w i) n ≤ sumN w n + k ∧ (n ≤ o → sumN (fun i => if i = o then w i + k else w i) n = sumN w n)
  | 0 => ⟨by rw [sumN, sumN]; omega, fun _ => rfl⟩
  | n + 1 => by
    obtain ⟨a, b⟩ := sumN_add (w := w) (o := o) (k := k) n
    rw [sumN, sumN]
    by_cases e : n = o
    · rw [if_pos e, b (by omega)]
      exact ⟨by omega, fun z => by omega⟩
    · rw [if_neg e]
      exact ⟨by omega, fun z => by rw [b (by omega)]⟩
/-- a row of what is owed -/
def OR (f : Nat → Int32) (g m : Nat) : Prop := ∃ w : Nat → Nat, (∀ o, o < 9 → f (21 + 17 * g + o) = nI (w o)) ∧ sumN w 9 ≤ m
def OW (f : Nat → Int32) : Prop := ∀ g, g < 9 → OR f g 21
theorem OR_owd {f : Nat → Int32} {g m : Nat} (h : OR f g m) : ∃ k, k ≤ m ∧ owd f g = nI k := by
  obtain ⟨w, a, b⟩ := h
  exact ⟨_, b, sumI_N 9 a⟩
theorem OR_le {f f' : Nat → Int32} {g m : Nat} (h : OR f g m) (e : ∀ o, o < 9 → f' (21 + 17 * g + o) = f (21 + 17 * g + o)) : OR f' g m := by
  obtain ⟨w, a, b⟩ := h
  exact ⟨w, fun o ho => (e o ho).trans (a o ho), b⟩
theorem OR_mono {f : Nat → Int32} {g m m' : Nat} (h : OR f g m) (e : m ≤ m') : OR f g m' := by
  obtain ⟨w, a, b⟩ := h
  exact ⟨w, a, by omega⟩
theorem OB_of {f : Nat → Int32} (h : OW f) : OB f := fun g hg => by
  obtain ⟨k, a, b⟩ := OR_owd (h g hg)
  exact ⟨k, by omega, b⟩
theorem OR_lay {f f' : Nat → Int32} {g o m k : Nat} (h : OR f g m) (ho : o < 9) (e : f' (21 + 17 * g + o) = f (21 + 17 * g + o) + nI k) (e2 : ∀ i, i < 9 → i ≠ o → f' (21 + 17 * g + i) = f (21 + 17 * g + i)) : OR f' g (m + k) := by
  obtain ⟨w, a, b⟩ := h
  refine ⟨fun i => if i = o then w i + k else w i, fun i hi => ?_, ?_⟩
  · by_cases c : i = o
    · rw [c, e, a o ho, nI_add]
      exact congrArg nI (if_pos rfl).symm
    · exact ((e2 i hi c).trans (a i hi)).trans (congrArg nI (if_neg c).symm)
  · have := (sumN_add (w := w) (o := o) (k := k) 9).1
    omega
theorem OR_dec {f f' : Nat → Int32} {g o m : Nat} (h : OR f g m) (ho : o < 9) (e : ∀ w : Nat, w ≤ m → f (21 + 17 * g + o) = nI w → ∃ v, v ≤ w ∧ f' (21 + 17 * g + o) = nI v) (e2 : ∀ i, i < 9 → i ≠ o → f' (21 + 17 * g + i) = f (21 + 17 * g + i)) : OR f' g m := by
  obtain ⟨w, a, b⟩ := h
  have hw := sumN_at (w := w) (o := o) 9 ho
  obtain ⟨v, hv, ev⟩ := e (w o) (by omega) (a o ho)
  refine ⟨fun i => if i = o then v else w i, fun i hi => ?_, ?_⟩
  · by_cases c : i = o
    · rw [c, ev]
      exact congrArg nI (if_pos rfl).symm
    · exact ((e2 i hi c).trans (a i hi)).trans (congrArg nI (if_neg c).symm)
  · refine Nat.le_trans (sumN_le 9 (fun i hi => ?_)) b
    by_cases c : i = o
    · rw [if_pos c, c]
      exact hv
    · rw [if_neg c]
      exact Nat.le_refl _
/-- what always holds -/
abbrev IV (f : Nat → Int32) : Prop := PF f ∧ SU f ∧ SB f ∧ ZR f ∧ (∃ c, c ≤ 9 ∧ f 0 = nI c) ∧ (∃ d, d ≤ 20 ∧ f 1 = nI d) ∧ OW f
theorem IV.pf {f : Nat → Int32} (h : IV f) : PF f := h.1
theorem IV.su {f : Nat → Int32} (h : IV f) : SU f := h.2.1
theorem IV.sb {f : Nat → Int32} (h : IV f) : SB f := h.2.2.1
theorem IV.zr {f : Nat → Int32} (h : IV f) : ZR f := h.2.2.2.1
theorem IV.s0 {f : Nat → Int32} (h : IV f) : ∃ c, c ≤ 9 ∧ f 0 = nI c := h.2.2.2.2.1
theorem IV.s1 {f : Nat → Int32} (h : IV f) : ∃ d, d ≤ 20 ∧ f 1 = nI d := h.2.2.2.2.2.1
theorem IV.ow {f : Nat → Int32} (h : IV f) : OW f := h.2.2.2.2.2.2
def cu (f : Nat → Int32) : Nat := (f 0).toNatClampNeg
theorem IV.sj {f : Nat → Int32} (h : IV f) : SJ f := SJ_of h.su h.sb
theorem IV.ob {f : Nat → Int32} (h : IV f) : OB f := OB_of h.ow
theorem IV.hc {f : Nat → Int32} (h : IV f) : f 0 = nI (cu f) := by
  obtain ⟨c, a, b⟩ := h.s0
  rw [cu, b, nI_clamp (by omega)]
theorem IV.hcm {f : Nat → Int32} (h : IV f) : cu f < 2 ^ 31 := by
  obtain ⟨c, a, b⟩ := h.s0
  rw [cu, b, nI_clamp (by omega)]
  omega
theorem IV.sn {f : Nat → Int32} (h : IV f) : SN f := fun g hg => by
  cases e : gs f g
  · rw [show 14 + 17 * g = 13 + 17 * g + 1 by omega, h.zr g hg e 1 (by decide)]
    decide
  · obtain ⟨s, hs, e2⟩ := h.sb g hg e
    have := ng_le f
    rw [e2]
    exact nI_pos' (by omega)
theorem sgF_owes {f : Nat → Int32} {g i o : Nat} (ho : o < 9) : sgF f g (21 + 17 * i + o) = f (21 + 17 * i + o) := sgF_ne (by omega) (by omega)
theorem psF_owes (f : Nat → Int32) (m : Nat) {i o : Nat} (ho : o < 9) : psF f m (21 + 17 * i + o) = f (21 + 17 * i + o) := psF_ne f m (by omega) (by omega) (by omega)
theorem drF_owes (f : Nat → Int32) (g c : Nat) {i o : Nat} (ho : o < 9) : drF f g c (21 + 17 * i + o) = f (21 + 17 * i + o) := by
  rw [drF, psF_owes _ _ ho, dr2_ne (by omega) (by omega)]
/-- one who isn't passed by owes less than the most -/
theorem OR_rsn {f : Nat → Int32} {g : Nat} (h : OR f g 21) (s1 : ∃ d, d ≤ 20 ∧ f 1 = nI d) (hr : rsn f g = 0) : OR f g 19 := by
  obtain ⟨w, a, b⟩ := h
  obtain ⟨d, hd, e1⟩ := s1
  refine ⟨w, a, ?_⟩
  have e : owd f g = nI (sumN w 9) := sumI_N 9 a
  unfold rsn at hr
  split at hr
  · exact absurd hr (by decide)
  · split at hr
    · exact absurd hr (by decide)
    · rename_i n
      rw [e1, e] at n
      have : ¬ d ≤ sumN w 9 := fun z => n (nI_le z (by omega))
      omega
theorem cpH_ow {f : Nat → Int32} (h : IV f) (c : Nat) : ∀ s, s ≤ ng f → OW (cpH f c s).1
  | 0, _ => h.ow
  | s + 1, hs => by
    have ih := cpH_ow h c s (by omega)
    obtain ⟨k1, k2, k3⟩ := cpH_keep h.su h.sj (c := c) s (by omega)
    obtain ⟨o1, o2, o3⟩ := od_is h.su h.sj (show s < ng f by omega)
    rw [cpH]
    split
    · rename_i hr
      show OW (layO (drF (cpH f c s).1 (od f s) c) (od f s) (cpH f c s).2.1)
      have hd : ∀ g, g < 9 → ∀ m, OR (cpH f c s).1 g m → OR (drF (cpH f c s).1 (od f s) c) g m := fun g hg m z => OR_le z (fun o ho => drF_owes _ _ _ ho)
      cases e : (cpH f c s).2.1 with
      | none => exact fun g hg => hd g hg 21 (ih g hg)
      | some o =>
        obtain ⟨ho, -, -⟩ := k2 o e
        intro g hg
        show OR (layF (drF (cpH f c s).1 (od f s) c) (od f s) o (nI 1)) g 21
        by_cases eg : g = od f s
        · subst eg
          have s1' : ∃ d, d ≤ 20 ∧ (cpH f c s).1 1 = nI d := by rw [k1 1 (by unfold stc; omega)]; exact h.s1
          have z := OR_lay (k := 1) (f' := layF (drF (cpH f c s).1 (od f s) c) (od f s) o (nI 1)) (hd _ hg _ (OR_rsn (ih _ hg) s1' hr)) ho (by rw [layF, upd_ne (by omega), upd_at]) (fun i hi hne => by rw [layF, upd_ne (by omega), upd_ne (by omega)])
          exact OR_mono z (by decide)
        · exact OR_le (hd g hg 21 (ih g hg)) (fun i hi => by rw [layF, upd_ne (by omega), upd_ne (by omega)])
    · exact ih
theorem IV.obc {f : Nat → Int32} (h : IV f) : OB (cpH f (cu f) (ng f)).1 := OB_of (cpH_ow h _ _ (Nat.le_refl _))
