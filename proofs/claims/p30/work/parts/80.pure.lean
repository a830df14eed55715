/-! the property of its own: what further holds of a room -/
theorem i_3 (a d b : Int32) : a + d + b = a + b + d := by rw [Int32.add_assoc, Int32.add_comm d, ← Int32.add_assoc]
theorem i_4 (a b c d : Int32) : a - b + (c - d) = a + c - (b + d) := by grind
theorem i_5 (a b c d : Int32) : a + b + c + d = b + c + d + a := by grind
theorem sumI_one {h h' : Nat → Int32} {j : Nat} {d : Int32} : ∀ n, j < n → h' j = h j + d → (∀ i, i < n → i ≠ j → h' i = h i) → sumI h' n = sumI h n + d
  | 0, hj, _, _ => absurd hj (by omega)
  | n + 1, hj, e, k => by
    by_cases c : j = n
    · subst c
      rw [sumI, sumI, sumI_congr (h := h') (h' := h) j (fun i hi => k i (by omega) (by omega)), e, Int32.add_assoc]
    · rw [sumI, sumI, sumI_one n (by omega) e (fun i hi => k i (by omega)), k n (by omega) (fun z => c z.symm), i_3]
theorem sumI_sub {a b : Nat → Int32} : ∀ n, sumI (fun i => a i - b i) n = sumI a n - sumI b n
  | 0 => by
    show (0 : Int32) = 0 - 0
    decide
  | n + 1 => by rw [sumI, sumI, sumI, sumI_sub n]; exact i_4 _ _ _ _
theorem owa_one {f f' : Nat → Int32} {g o : Nat} {d : Int32} (hg : g < 9) (ho : o < 9) (e : f' (21 + 17 * g + o) = f (21 + 17 * g + o) + d) (k : ∀ i j, i < 9 → j < 9 → ¬ (i = g ∧ j = o) → f' (21 + 17 * i + j) = f (21 + 17 * i + j)) : owa f' = owa f + d := by
  rw [← owa_eq, ← owa_eq]
  refine sumI_one (j := g) 9 hg ?_ (fun i hi hne => sumI_congr 9 (fun j hj => k i j hi hj (fun z => hne z.1)))
  exact sumI_one (j := o) 9 ho e (fun i hi hne => k g i hg hi (fun z => hne z.2))
theorem owa_same {f f' : Nat → Int32} (k : ∀ i j, i < 9 → j < 9 → f' (21 + 17 * i + j) = f (21 + 17 * i + j)) : owa f' = owa f := by
  rw [← owa_eq, ← owa_eq]
  exact sumI_congr 9 (fun i hi => sumI_congr 9 (fun j hj => k i j hi hj))
/-- settings, patience and silence are little -/
def SP (f : Nat → Int32) : Prop := (∃ c, c ≤ 9 ∧ f 3 = nI c) ∧ ∀ g, g < 9 → (∃ p, p ≤ 30 ∧ f (15 + 17 * g) = nI p) ∧ (∃ s, s ≤ 270 ∧ f (16 + 17 * g) = nI s)
/-- the numbers are little -/
def JN (f : Nat → Int32) (T : Nat) : Prop := SP f ∧ (∃ c, c ≤ 30 ∧ f 2 = nI c) ∧ (∃ t, t ≤ T ∧ f 4 = nI t) ∧ ∀ g, g < 9 → ∃ c, c ≤ 30 ∧ f (17 + 17 * g) = nI c
/-- nothing is owed by or to an empty place, or to oneself -/
def JO (f : Nat → Int32) : Prop := ∀ g o, g < 9 → o < 9 → (gs f o = false ∨ g = o) → f (21 + 17 * g + o) = 0
/-- bows laid are owed, made, lost or set off -/
def JS (f : Nat → Int32) : Prop := f 10 = owa f + f 7 + f 8 + f 9
def JV (f : Nat → Int32) (T : Nat) : Prop := IV f ∧ JN f T ∧ JO f ∧ JS f
theorem SP_sg {f : Nat → Int32} (h : SP f) (j : Nat) : SP (sgF f j) := by
  obtain ⟨⟨l, hl, e3⟩, hh⟩ := h
  refine ⟨⟨l, hl, (sgF_ne (by omega) (by omega)).trans e3⟩, fun g hg => ?_⟩
  obtain ⟨⟨p, hp, ep⟩, s, hs, es⟩ := hh g hg
  refine ⟨⟨p, hp, (sgF_ne (by omega) (by omega)).trans ep⟩, ?_⟩
  by_cases c : g = j
  · subst c
    have a1 : si1 f g (16 + 17 * g) = nI (s + 1) := by rw [si1, upd_at, es]; exact nI_add s 1
    have a2 : si1 f g 3 = nI l := by rw [si1, upd_ne (by omega), e3]
    have a3 : si1 f g (15 + 17 * g) = nI p := by rw [si1, upd_ne (by omega), ep]
    have hlp : l * p ≤ 270 := Nat.le_trans (Nat.mul_le_mul hl hp) (by decide)
    cases n : sgT f g
    · have n2 : nI (s + 1) < nI (l * p) := by
        rw [sgT, a1, a2, a3, pk_mul] at n
        exact Decidable.of_not_not (of_decide_eq_false n)
      have := (nI_ltI (by omega) (by omega)).mp n2
      refine ⟨s + 1, by omega, ?_⟩
      rw [sgF, n]
      exact a1
    · refine ⟨p, by omega, ?_⟩
      rw [sgF, if_pos n, upd_ne (by omega), sg1, upd_at, a3]
  · exact ⟨s, hs, (sgF_ne (by omega) (by omega)).trans es⟩
theorem SP_brN {f : Nat → Int32} (h : SP f) : ∀ j, SP (brN f j)
  | 0 => h
  | j + 1 => by
    rw [brN]
    split
    · exact SP_sg (SP_brN h j) j
    · exact SP_brN h j
theorem SP_brM {f : Nat → Int32} (h : SP f) : ∀ m, SP (brM f m)
  | 0 => h
  | m + 1 => SP_brN (SP_brM h m) 9
theorem SP_of {f f' : Nat → Int32} (h : SP f) (e3 : f' 3 = f 3) (e : ∀ g, g < 9 → f' (15 + 17 * g) = f (15 + 17 * g) ∧ f' (16 + 17 * g) = f (16 + 17 * g)) : SP f' := by
  refine ⟨by rw [e3]; exact h.1, fun g hg => ?_⟩
  rw [(e g hg).1, (e g hg).2]
  exact h.2 g hg
theorem JN_of {f f' : Nat → Int32} {T : Nat} (h : JN f T) (e : ∀ i, i < 13 ∧ i ≠ 0 ∧ i ≠ 1 ∧ (i < 5) → f' i = f i) (k : ∀ g, g < 9 → f' (15 + 17 * g) = f (15 + 17 * g) ∧ f' (16 + 17 * g) = f (16 + 17 * g) ∧ f' (17 + 17 * g) = f (17 + 17 * g)) : JN f' T := by
  obtain ⟨h1, h2, h3, h4⟩ := h
  refine ⟨SP_of h1 (e 3 (by decide)) (fun g hg => ⟨(k g hg).1, (k g hg).2.1⟩), by rw [e 2 (by decide)]; exact h2, by rw [e 4 (by decide)]; exact h3, fun g hg => ?_⟩
  rw [(k g hg).2.2]
  exact h4 g hg
theorem JN_mono {f : Nat → Int32} {T T' : Nat} (h : JN f T) (e : T ≤ T') : JN f T' := by
  obtain ⟨h1, h2, ⟨t, ht, et⟩, h4⟩ := h
  exact ⟨h1, h2, ⟨t, by omega, et⟩, h4⟩
theorem JN_ps {f : Nat → Int32} {T : Nat} (h : JN f T) (m : Nat) : JN (psF f m) (T + m) := by
  obtain ⟨h1, h2, ⟨t, ht, et⟩, h4⟩ := h
  have hb := SP_brM h1 m
  refine ⟨SP_of hb ?_ (fun g hg => ⟨?_, ?_⟩), by rw [psF_ne f m (by omega) (by omega) (by omega)]; exact h2, ⟨t + m, by omega, ?_⟩, fun g hg => by rw [psF_ne f m (by omega) (by omega) (by omega)]; exact h4 g hg⟩
  · rw [psF, upd_ne (by omega), ps1, upd_ne (by omega)]
  · rw [psF, upd_ne (by omega), ps1, upd_ne (by omega)]
  · rw [psF, upd_ne (by omega), ps1, upd_ne (by omega)]
  · rw [psF, upd_ne (by omega), ps1, upd_at, brM_ne f (by omega), et]
    exact nI_add t m
theorem rsn_cu {f : Nat → Int32} {T g : Nat} (h : JN f T) (hg : g < 9) (hr : rsn f g = 0) : ∃ c, c < 30 ∧ f (17 + 17 * g) = nI c := by
  obtain ⟨-, ⟨c2, h2, e2⟩, -, h4⟩ := h
  obtain ⟨c, hc, ec⟩ := h4 g hg
  refine ⟨c, ?_, ec⟩
  unfold rsn at hr
  split at hr
  · exact absurd hr (by decide)
  · rename_i n
    rw [e2, ec] at n
    have : ¬ c2 ≤ c := fun z => n (nI_le z (by omega))
    omega
theorem JN_dr {f : Nat → Int32} {T g : Nat} (h : JN f T) (hg : g < 9) (hr : rsn f g = 0) (c : Nat) : JN (drF f g c) (T + c) := by
  obtain ⟨k, hk, ek⟩ := rsn_cu h hg hr
  refine JN_ps ?_ c
  obtain ⟨h1, h2, h3, h4⟩ := h
  refine ⟨SP_of h1 (dr2_ne (by omega) (by omega)) (fun i hi => ⟨dr2_ne (by omega) (by omega), dr2_ne (by omega) (by omega)⟩), by rw [dr2_ne (by omega) (by omega)]; exact h2, by rw [dr2_ne (by omega) (by omega)]; exact h3, fun i hi => ?_⟩
  by_cases e : i = g
  · subst e
    refine ⟨k + 1, by omega, ?_⟩
    rw [dr2, upd_ne (by omega), dr1, upd_at, ek]
    exact nI_add k 1
  · rw [dr2_ne (by omega) (by omega)]
    exact h4 i hi
theorem JN_lay {f : Nat → Int32} {T g o : Nat} (h : JN f T) (ho : o < 9) (k : Int32) : JN (layF f g o k) T := JN_of h (fun i hi => lay_ne (by omega) (by omega)) (fun i hi => ⟨lay_ne (by omega) (by omega), lay_ne (by omega) (by omega), lay_ne (by omega) (by omega)⟩)
theorem JN_off {f : Nat → Int32} {T g o : Nat} (h : JN f T) (hg : g < 9) (ho : o < 9) : JN (offF f g o) T := JN_of h (fun i hi => off_ne (by omega) (by omega) (by omega)) (fun i hi => ⟨off_ne (by omega) (by omega) (by omega), off_ne (by omega) (by omega) (by omega), off_ne (by omega) (by omega) (by omega)⟩)
theorem pay_ne {f : Nat → Int32} {g o i : Nat} (h1 : i ≠ 21 + 17 * g + o) (h2 : i ≠ 20 + 17 * g) (h3 : i ≠ 7) : payF f g o i = f i := by
  unfold payF
  split
  · rfl
  · rw [upd_ne h3, upd_ne h2, upd_ne h1]
theorem JN_pay {f : Nat → Int32} {T g o : Nat} (h : JN f T) (ho : o < 9) : JN (payF f g o) T := JN_of h (fun i hi => pay_ne (by omega) (by omega) (by omega)) (fun i hi => ⟨pay_ne (by omega) (by omega) (by omega), pay_ne (by omega) (by omega) (by omega), pay_ne (by omega) (by omega) (by omega)⟩)
theorem JN_st {f : Nat → Int32} {T : Nat} (h : JN f T) : JN (stF f 9) T := JN_of h (fun i hi => stF_ne f 9 (fun g hg => by omega)) (fun i hi => ⟨stF_ne f 9 (fun g hg => by omega), stF_ne f 9 (fun g hg => by omega), stF_ne f 9 (fun g hg => by omega)⟩)
theorem JO_of {f f' : Nat → Int32} (h : JO f) (eg : ∀ o, o < 9 → gs f' o = gs f o) (e : ∀ g o, g < 9 → o < 9 → f' (21 + 17 * g + o) = f (21 + 17 * g + o)) : JO f' := fun g o hg ho c => by
  rw [e g o hg ho]
  rw [eg o ho] at c
  exact h g o hg ho c
/-- some cells of two guests change -/
theorem JO_cell {f f' : Nat → Int32} (h : JO f) (eg : ∀ o, o < 9 → gs f' o = gs f o) {a b : Nat} (hab : a ≠ b) (sa : gs f a = true) (sb : gs f b = true) (e : ∀ g o, g < 9 → o < 9 → ¬ (g = a ∧ o = b) → ¬ (g = b ∧ o = a) → f' (21 + 17 * g + o) = f (21 + 17 * g + o)) : JO f' := fun g o hg ho c => by
  rw [eg o ho] at c
  rw [e g o hg ho (fun z => ?_) (fun z => ?_)]
  · exact h g o hg ho c
  · rcases c with c | c
    · rw [z.2, sb] at c
      cases c
    · exact hab (by omega)
  · rcases c with c | c
    · rw [z.2, sa] at c
      cases c
    · exact hab (by omega)
theorem JS_of {f f' : Nat → Int32} (h : JS f) (e : ∀ g o, g < 9 → o < 9 → f' (21 + 17 * g + o) = f (21 + 17 * g + o)) (e7 : f' 7 = f 7) (e8 : f' 8 = f 8) (e9 : f' 9 = f 9) (e10 : f' 10 = f 10) : JS f' := by
  rw [JS, e7, e8, e9, e10, owa_same e]
  exact h
theorem JV.iv {f : Nat → Int32} {T : Nat} (h : JV f T) : IV f := h.1
theorem JV.jn {f : Nat → Int32} {T : Nat} (h : JV f T) : JN f T := h.2.1
theorem JV.jo {f : Nat → Int32} {T : Nat} (h : JV f T) : JO f := h.2.2.1
theorem JV.js {f : Nat → Int32} {T : Nat} (h : JV f T) : JS f := h.2.2.2
theorem JV.mono {f : Nat → Int32} {T T' : Nat} (h : JV f T) (e : T ≤ T') : JV f T' := ⟨h.1, JN_mono h.2.1 e, h.2.2⟩
theorem cu_le {f : Nat → Int32} (h : IV f) : cu f ≤ 9 := by
  obtain ⟨c, a, b⟩ := h.s0
  rw [cu, b, nI_clamp (by omega)]
  exact a
/-- what neither the seats nor the bows are touched by -/
theorem JOS_of {f f' : Nat → Int32} (h : JO f ∧ JS f) (eg : ∀ o, o < 9 → f' (13 + 17 * o) = f (13 + 17 * o)) (e : ∀ g o, g < 9 → o < 9 → f' (21 + 17 * g + o) = f (21 + 17 * g + o)) (e7 : f' 7 = f 7) (e8 : f' 8 = f 8) (e9 : f' 9 = f 9) (e10 : f' 10 = f 10) : JO f' ∧ JS f' := ⟨JO_of h.1 (fun o ho => gs_congr (eg o ho)) e, JS_of h.2 e e7 e8 e9 e10⟩
theorem JOS_ps {f : Nat → Int32} (h : JO f ∧ JS f) (m : Nat) : JO (psF f m) ∧ JS (psF f m) := JOS_of h (fun o _ => psF_ne f m (by omega) (by omega) (by omega)) (fun g o _ ho => psF_owes f m ho) (psF_ne f m (by omega) (by omega) (by omega)) (psF_ne f m (by omega) (by omega) (by omega)) (psF_ne f m (by omega) (by omega) (by omega)) (psF_ne f m (by omega) (by omega) (by omega))
theorem drF_ne2 {f : Nat → Int32} {g c i : Nat} (h : i < 13 ∨ ((i - 13) % 17 ≠ 3 ∧ (i - 13) % 17 ≠ 4 ∧ (i - 13) % 17 ≠ 5)) (h4 : i ≠ 4) (h6 : i ≠ 6) (h12 : i ≠ 12) : drF f g c i = f i := by rw [drF, psF_ne _ _ (by omega) h4 h12, dr2_ne (by omega) h6]
theorem JOS_dr {f : Nat → Int32} (h : JO f ∧ JS f) (g c : Nat) : JO (drF f g c) ∧ JS (drF f g c) := JOS_of h (fun o _ => drF_ne2 (by omega) (by omega) (by omega) (by omega)) (fun i o _ ho => drF_owes f g c ho) (drF_ne2 (by omega) (by omega) (by omega) (by omega)) (drF_ne2 (by omega) (by omega) (by omega) (by omega)) (drF_ne2 (by omega) (by omega) (by omega) (by omega)) (drF_ne2 (by omega) (by omega) (by omega) (by omega))
theorem JOS_st {f : Nat → Int32} (h : JO f ∧ JS f) : JO (stF f 9) ∧ JS (stF f 9) := JOS_of h (fun o _ => stF_ne f 9 (fun g hg => by omega)) (fun g o _ ho => stF_ne f 9 (fun g hg => by omega)) (stF_ne f 9 (fun g hg => by omega)) (stF_ne f 9 (fun g hg => by omega)) (stF_ne f 9 (fun g hg => by omega)) (stF_ne f 9 (fun g hg => by omega))
theorem JOS_lay {f : Nat → Int32} (h : JO f ∧ JS f) {g o : Nat} (hg : g < 9) (ho : o < 9) (hgo : g ≠ o) (sg : gs f g = true) (so : gs f o = true) (k : Int32) : JO (layF f g o k) ∧ JS (layF f g o k) := by
  refine ⟨JO_cell h.1 (fun i hi => gs_congr (lay_ne (by omega) (by omega))) hgo sg so (fun i j hi hj n1 n2 => lay_ne (by omega) (by omega)), ?_⟩
  have e : owa (layF f g o k) = owa f + k := owa_one hg ho lay_at (fun i j hi hj n => lay_ne (by omega) (by omega))
  have j := h.2
  unfold JS at j ⊢
  rw [e, lay_ne (i := 7) (by omega) (by omega), lay_ne (i := 8) (by omega) (by omega), lay_ne (i := 9) (by omega) (by omega), layF, upd_at, j]
  grind
theorem JOS_pay {f : Nat → Int32} (h : JO f ∧ JS f) {g o : Nat} (hg : g < 9) (ho : o < 9) (hgo : g ≠ o) (sg : gs f g = true) (so : gs f o = true) : JO (payF f g o) ∧ JS (payF f g o) := by
  refine ⟨JO_cell h.1 (fun i hi => gs_congr (pay_ne (by omega) (by omega) (by omega))) hgo sg so (fun i j hi hj n1 n2 => pay_ne (by omega) (by omega) (by omega)), ?_⟩
  by_cases c : f (21 + 17 * g + o) = 0
  · rw [payF, if_pos c]
    exact h.2
  · have e1 : payF f g o (21 + 17 * g + o) = f (21 + 17 * g + o) + -1 := by
      rw [payF, if_neg c, upd_ne (by omega), upd_ne (by omega), upd_at]
      exact Int32.sub_eq_add_neg _ _
    have e7 : payF f g o 7 = f 7 + 1 := by rw [payF, if_neg c, upd_at]
    have e : owa (payF f g o) = owa f + -1 := owa_one hg ho e1 (fun i j hi hj n => pay_ne (by omega) (by omega) (by omega))
    have j := h.2
    unfold JS at j ⊢
    rw [e, e7, pay_ne (i := 8) (by omega) (by omega) (by omega), pay_ne (i := 9) (by omega) (by omega) (by omega), pay_ne (i := 10) (by omega) (by omega) (by omega), j]
    grind
theorem JOS_off {f : Nat → Int32} (h : JO f ∧ JS f) {g o : Nat} (hg : g < 9) (ho : o < 9) (hgo : g ≠ o) (sg : gs f g = true) (so : gs f o = true) : JO (offF f g o) ∧ JS (offF f g o) := by
  refine ⟨JO_cell h.1 (fun i hi => gs_congr (off_ne (by omega) (by omega) (by omega))) hgo sg so (fun i j hi hj n1 n2 => off_ne (by omega) (by omega) (by omega)), ?_⟩
  have e1 : owa (upd f (21 + 17 * g + o) (f (21 + 17 * g + o) - minF f g o)) = owa f + -minF f g o := owa_one hg ho (by rw [upd_at, Int32.sub_eq_add_neg]) (fun i j hi hj n => upd_ne (by omega))
  have e2 : owa (offF f g o) = owa (upd f (21 + 17 * g + o) (f (21 + 17 * g + o) - minF f g o)) + -minF f g o := owa_one ho hg (by rw [offF, upd_ne (by omega), upd_at, upd_ne (by omega), Int32.sub_eq_add_neg]) (fun i j hi hj n => by rw [offF, upd_ne (by omega), upd_ne (by omega)])
  have e9 : offF f g o 9 = f 9 + 2 * minF f g o := by rw [offF, upd_at]
  have j := h.2
  unfold JS at j ⊢
  rw [e2, e1, e9, off_ne (i := 7) (by omega) (by omega) (by omega), off_ne (i := 8) (by omega) (by omega) (by omega), off_ne (i := 10) (by omega) (by omega) (by omega), j]
  grind
