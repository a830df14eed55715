/-! both readers of a text come to the same -/
theorem cB_d {t : Nat → Int32} {len a c : Nat} (h : a < len) : cB t len a c = decide (t a = nI c) := by
  unfold cB sgB
  rw [decide_eq_true h, Bool.true_and]
  by_cases e : t a = nI c
  · rw [e, decide_eq_true (Int32.le_refl _), decide_eq_true (p := nI c = nI c) rfl]
    rfl
  · rw [decide_eq_false e]
    by_cases l : nI c ≤ t a
    · rw [decide_eq_false (p := t a ≤ nI c) (fun z => e (Int32.le_antisymm z l))]
      exact Bool.and_false _
    · rw [decide_eq_false l]
      rfl
theorem cB_o {t : Nat → Int32} {len a c : Nat} (h : ¬ a < len) : cB t len a c = false := sgB_1 h
theorem dB_d {t : Nat → Int32} {len a : Nat} (h : a < len) : dB t len a = dgB (t a) := by
  unfold dB sgB
  rw [decide_eq_true h, Bool.true_and]
  rfl
theorem dB_o {t : Nat → Int32} {len a : Nat} (h : ¬ a < len) : dB t len a = false := sgB_1 h
theorem dgB_is {x : Int32} (h : dgB x = true) : ∃ k : Nat, k < 10 ∧ x = nI (48 + k) := by
  unfold dgB at h
  rw [Bool.and_eq_true, decide_eq_true_eq, decide_eq_true_eq] at h
  have h0 : ¬ x < 0 := Int32.not_lt.mpr (Int32.le_trans (by decide) h.1)
  obtain ⟨j, hj, rfl⟩ := nI_of h0
  have a := (nI_leI (by decide) hj).mp h.1
  have b := (nI_leI hj (by decide)).mp h.2
  exact ⟨j - 48, by omega, by rw [show 48 + (j - 48) = j by omega]⟩
theorem dgA_T {t : Nat → Int32} {len a : Nat} (h : dB t len a = true) : dgA t len a = dgV t len a := by
  have l := sgB_lt h
  rw [dgV_T h, dgA, sgA_T l, if_pos ((dB_d l).symm.trans h)]
theorem dgA_F {t : Nat → Int32} {len a : Nat} (h : dB t len a = false) : dgA t len a = -6 := by
  unfold dgA
  by_cases l : a < len
  · rw [sgA_T l, if_neg (by rw [← dB_d l, h]; decide)]
  · rw [sgA_F l]
    rfl
theorem dgV_is {t : Nat → Int32} {len a : Nat} (h : dB t len a = true) : ∃ k : Nat, k < 10 ∧ t a = nI (48 + k) ∧ dgV t len a = nI k := by
  have l := sgB_lt h
  obtain ⟨k, hk, e⟩ := dgB_is ((dB_d l).symm.trans h)
  refine ⟨k, hk, e, ?_⟩
  rw [dgV_T h, e, pk_sub (by omega), Nat.add_sub_cancel_left]
theorem kd_c {t : Nat → Int32} {len a : Nat} (h : a < len) : (kd t len a = 1 ∧ dlN (t a) = 3 ∧ (t a = nI 103 ∨ t a = nI 116)) ∨ (kd t len a = 2 ∧ dlN (t a) = 2 ∧ (t a = nI 120 ∨ t a = nI 119)) ∨ (kd t len a = 3 ∧ dlN (t a) = 1 ∧ (t a = nI 98 ∨ t a = nI 111)) ∨ (kd t len a = 4 ∧ dlN (t a) = 5 ∧ t a = nI 114) ∨ (kd t len a = 0 ∧ dlN (t a) = 6) := by
  have o : ∀ c d, ((cB t len a c || cB t len a d) = true) ↔ (t a = nI c ∨ t a = nI d) := fun c d => by
    rw [cB_d h, cB_d h, Bool.or_eq_true, decide_eq_true_eq, decide_eq_true_eq]
  have o1 : (cB t len a 114 = true) ↔ t a = nI 114 := by rw [cB_d h, decide_eq_true_eq]
  by_cases c1 : t a = nI 103 ∨ t a = nI 116
  · exact Or.inl ⟨by rw [kd, if_pos ((o _ _).mpr c1)], by rw [dlN, if_pos c1], c1⟩
  refine Or.inr ?_
  by_cases c2 : t a = nI 120 ∨ t a = nI 119
  · exact Or.inl ⟨by rw [kd, if_neg (fun z => c1 ((o _ _).mp z)), if_pos ((o _ _).mpr c2)], by rw [dlN, if_neg c1, if_pos c2], c2⟩
  refine Or.inr ?_
  by_cases c3 : t a = nI 98 ∨ t a = nI 111
  · exact Or.inl ⟨by rw [kd, if_neg (fun z => c1 ((o _ _).mp z)), if_neg (fun z => c2 ((o _ _).mp z)), if_pos ((o _ _).mpr c3)], by rw [dlN, if_neg c1, if_neg c2, if_pos c3], c3⟩
  refine Or.inr ?_
  by_cases c4 : t a = nI 114
  · exact Or.inl ⟨by rw [kd, if_neg (fun z => c1 ((o _ _).mp z)), if_neg (fun z => c2 ((o _ _).mp z)), if_neg (fun z => c3 ((o _ _).mp z)), if_pos (o1.mpr c4)], by rw [dlN, if_neg c1, if_neg c2, if_neg c3, if_pos c4], c4⟩
  · exact Or.inr ⟨by rw [kd, if_neg (fun z => c1 ((o _ _).mp z)), if_neg (fun z => c2 ((o _ _).mp z)), if_neg (fun z => c3 ((o _ _).mp z)), if_neg (fun z => c4 (o1.mp z))], by rw [dlN, if_neg c1, if_neg c2, if_neg c3, if_neg c4]⟩
theorem kd_o {t : Nat → Int32} {len a : Nat} (h : ¬ a < len) : kd t len a = 0 := Decidable.of_not_not (fun z => h (kd_lt z))
/-! one step of the class's reader -/
theorem ff_s {t : Nat → Int32} {len i d d2 : Nat} (h : i < len) (e : duN d (t i) = d2) (e6 : d2 ≠ 6) : ffN t len (len - i) i d = ffN t len (len - (i + 1)) (i + 1) d2 := by
  rw [show len - i = (len - (i + 1)) + 1 by omega, ffN, e, if_neg e6]
theorem ff_6 {t : Nat → Int32} {len i d : Nat} (h : i < len) (e : duN d (t i) = 6) : ffN t len (len - i) i d = nI i := by
  rw [show len - i = (len - (i + 1)) + 1 by omega, ffN, if_pos e]
theorem ff_e {t : Nat → Int32} {len d : Nat} (h : ¬ (d = 5 ∨ d = 4)) : ffN t len (len - len) len d = nI len := by
  rw [Nat.sub_self, ffN, if_neg h]
theorem ff_ok {t : Nat → Int32} {len d : Nat} (h : d = 5 ∨ d = 4) : ffN t len (len - len) len d = -6 := by
  rw [Nat.sub_self, ffN, if_pos h]
/-- a state in which a digit is wanted -/
theorem ff_F {t : Nat → Int32} {len i d : Nat} (hi : i ≤ len) (h : dB t len i = false) (hd : d = 1 ∨ d = 2 ∨ d = 3) : ffN t len (len - i) i d = nI i := by
  by_cases l : i < len
  · rw [dB_d l] at h
    have n48 : ¬ t i = nI 48 := fun z => by rw [z] at h; exact absurd h (by decide)
    refine ff_6 l ?_
    rcases hd with rfl | rfl | rfl
    · show (if dgB (t i) = true then 2 else 6) = 6
      rw [if_neg (by rw [h]; decide)]
    · show (if dgB (t i) = true then 5 else 6) = 6
      rw [if_neg (by rw [h]; decide)]
    · show (if t i = nI 48 then 5 else if dgB (t i) = true then 4 else 6) = 6
      rw [if_neg n48, if_neg (by rw [h]; decide)]
  · obtain rfl : i = len := by omega
    exact ff_e (by omega)
theorem ff_1 {t : Nat → Int32} {len i : Nat} (h : dB t len i = true) : ffN t len (len - i) i 1 = ffN t len (len - (i + 1)) (i + 1) 2 := by
  have l := sgB_lt h
  exact ff_s l (show (if dgB (t i) = true then 2 else 6) = 2 by rw [if_pos ((dB_d l).symm.trans h)]) (by decide)
theorem ff_2 {t : Nat → Int32} {len i : Nat} (h : dB t len i = true) : ffN t len (len - i) i 2 = ffN t len (len - (i + 1)) (i + 1) 5 := by
  have l := sgB_lt h
  exact ff_s l (show (if dgB (t i) = true then 5 else 6) = 5 by rw [if_pos ((dB_d l).symm.trans h)]) (by decide)
theorem ff_3z {t : Nat → Int32} {len i : Nat} (l : i < len) (h : t i = nI 48) : ffN t len (len - i) i 3 = ffN t len (len - (i + 1)) (i + 1) 5 :=
  ff_s l (show (if t i = nI 48 then 5 else if dgB (t i) = true then 4 else 6) = 5 by rw [if_pos h]) (by decide)
theorem ff_3d {t : Nat → Int32} {len i : Nat} (h : dB t len i = true) (h0 : ¬ t i = nI 48) : ffN t len (len - i) i 3 = ffN t len (len - (i + 1)) (i + 1) 4 := by
  have l := sgB_lt h
  exact ff_s l (show (if t i = nI 48 then 5 else if dgB (t i) = true then 4 else 6) = 4 by rw [if_neg h0, if_pos ((dB_d l).symm.trans h)]) (by decide)
theorem ff_4d {t : Nat → Int32} {len i : Nat} (h : dB t len i = true) : ffN t len (len - i) i 4 = ffN t len (len - (i + 1)) (i + 1) 5 := by
  have l := sgB_lt h
  exact ff_s l (show (if dgB (t i) = true then 5 else if t i = nI 59 then 0 else 6) = 5 by rw [if_pos ((dB_d l).symm.trans h)]) (by decide)
/-- where an order is read: the class's reader behind it -/
def oX (t : Nat → Int32) (len a : Nat) (k : Bool) (a2 : Nat) : Prop :=
  (k = false ∧ ffN t len (len - a) a 0 = nI a2) ∨ (k = true ∧ ∃ d, (d = 5 ∨ d = 4) ∧ (d = 4 → dB t len a2 = false) ∧ ffN t len (len - a) a 0 = ffN t len (len - a2) a2 d)
theorem od_x {t : Nat → Int32} {len a : Nat} (ha : a ≤ len) : oX t len a (rdK t len a) (rdA t len a) := by
  by_cases l : a < len
  · rcases kd_c l with ⟨K, e, -⟩ | ⟨K, e, -⟩ | ⟨K, e, -⟩ | ⟨K, e, -⟩ | ⟨K, e⟩
    · have s1 : ffN t len (len - a) a 0 = ffN t len (len - (a + 1)) (a + 1) 3 := ff_s l e (by decide)
      rw [rdK, rdA, if_pos K, if_pos K]
      cases h : dB t len (a + 1)
      · refine Or.inl ⟨rfl, ?_⟩
        rw [s1, ff_F (by omega) h (by omega), nuA_F (nu2_0 h), accN_F h]
      · refine Or.inr ⟨rfl, ?_⟩
        obtain ⟨k, hk, e1, e2⟩ := dgV_is h
        by_cases z : k = 0
        · subst z
          refine ⟨5, Or.inl rfl, fun z => absurd z (by decide), ?_⟩
          rw [s1, ff_3z (sgB_lt h) e1, nuA_F (nu2_1 (by rw [e2]; exact Int32.le_refl _)), accN_T h]
        · have n48 : ¬ t (a + 1) = nI 48 := fun c => by
            rw [e1, nI_eq (by omega) (by decide)] at c
            omega
          cases h2 : dB t len (a + 1 + 1)
          · refine ⟨4, Or.inr rfl, fun _ => ?_, ?_⟩
            · rw [nuA_F (nu2_2 h2), accN_T h]
              exact h2
            · rw [s1, ff_3d h n48, nuA_F (nu2_2 h2), accN_T h]
          · refine ⟨5, Or.inl rfl, fun z => absurd z (by decide), ?_⟩
            rw [s1, ff_3d h n48, ff_4d h2, nuA_T (nu2_T h (by rw [e2]; exact (show nI 0 < nI k from nI_lt (by omega) (by omega))) h2)]
    · have s1 : ffN t len (len - a) a 0 = ffN t len (len - (a + 1)) (a + 1) 2 := ff_s l e (by decide)
      rw [rdK, rdA, K]
      show oX t len a (dB t len (a + 1)) (accN (dB t len (a + 1)) (a + 1))
      cases h : dB t len (a + 1)
      · refine Or.inl ⟨rfl, ?_⟩
        rw [s1, ff_F (by omega) h (by omega)]
        rfl
      · refine Or.inr ⟨rfl, 5, Or.inl rfl, fun z => absurd z (by decide), ?_⟩
        rw [s1, ff_2 h]
        rfl
    · have s1 : ffN t len (len - a) a 0 = ffN t len (len - (a + 1)) (a + 1) 1 := ff_s l e (by decide)
      rw [rdK, rdA, K]
      show oX t len a (dB t len (a + 1) && dB t len (a + 2)) (if dB t len (a + 1) = true then accN (dB t len (a + 2)) (a + 2) else a + 1)
      cases h : dB t len (a + 1)
      · refine Or.inl ⟨rfl, ?_⟩
        rw [s1, ff_F (by omega) h (by omega)]
        rfl
      · have l2 := sgB_lt h
        cases h2 : dB t len (a + 2)
        · refine Or.inl ⟨rfl, ?_⟩
          rw [s1, ff_1 h, ff_F (i := a + 1 + 1) (by omega) h2 (by omega)]
          rfl
        · refine Or.inr ⟨rfl, 5, Or.inl rfl, fun z => absurd z (by decide), ?_⟩
          rw [s1, ff_1 h, ff_2 (i := a + 1 + 1) h2]
          rfl
    · have s1 : ffN t len (len - a) a 0 = ffN t len (len - (a + 1)) (a + 1) 5 := ff_s l e (by decide)
      rw [rdK, rdA, K]
      exact Or.inr ⟨rfl, 5, Or.inl rfl, fun z => absurd z (by decide), s1⟩
    · rw [rdK, rdA, K]
      exact Or.inl ⟨rfl, ff_6 l e⟩
  · obtain rfl : a = len := by omega
    rw [rdK, rdA, kd_o l]
    exact Or.inl ⟨rfl, ff_e (by decide)⟩
theorem ff_end {t : Nat → Int32} {len a d : Nat} (h : d = 5 ∨ d = 4) (h4 : d = 4 → dB t len a = false) (l : a < len) : ffN t len (len - a) a d = if t a = nI 59 then ffN t len (len - (a + 1)) (a + 1) 0 else nI a := by
  have key : duN d (t a) = if t a = nI 59 then 0 else 6 := by
    rcases h with rfl | rfl
    · rfl
    · show (if dgB (t a) = true then 5 else if t a = nI 59 then 0 else 6) = _
      rw [if_neg (by rw [← dB_d l, h4 rfl]; decide)]
  by_cases c : t a = nI 59
  · rw [if_pos c] at key ⊢
    exact ff_s l key (by decide)
  · rw [if_neg c] at key ⊢
    exact ff_6 l key
theorem fl_ff {t : Nat → Int32} {len : Nat} : ∀ n (S : fS) (d : Nat), S.2.1 ≤ len → len - S.2.1 ≤ n → S.1 = true → (d = 5 ∨ d = 4) → (d = 4 → dB t len S.2.1 = false) → ffN t len (len - S.2.1) S.2.1 d = if (fl t len n S).1 = true then -6 else nI (fl t len n S).2.1
  | 0, S, d, h1, h2, h3, h4, h5 => by
    have e : S.2.1 = len := by omega
    rw [fl, if_pos h3, e, ff_ok h4]
  | n + 1, S, d, h1, h2, h3, h4, h5 => by
    by_cases l : S.2.1 < len
    · rw [ff_end h4 h5 l]
      by_cases c : t S.2.1 = nI 59
      · rw [if_pos c, fl_S h3 l ((cB_d l).trans (decide_eq_true c))]
        have b := rdA_b (t := t) (len := len) (a := S.2.1 + 1) (by omega)
        rcases od_x (t := t) (len := len) (a := S.2.1 + 1) (by omega) with ⟨k, e⟩ | ⟨k, d2, e1, e2, e3⟩
        · rw [fl_F (S := rdS t len (S.2.1 + 1) S.2.2.1 S.2.2.2) k, if_neg (show ¬ (rdS t len (S.2.1 + 1) S.2.2.1 S.2.2.2).1 = true from fun z => absurd (k.symm.trans z) (by decide))]
          exact e
        · rw [e3]
          exact fl_ff n (rdS t len (S.2.1 + 1) S.2.2.1 S.2.2.2) d2 b.1 (by show len - rdA t len (S.2.1 + 1) ≤ n; omega) k e1 e2
      · rw [if_neg c, fl_N h3 l ((cB_d l).trans (decide_eq_false c))]
        rfl
    · have e : S.2.1 = len := by omega
      rw [fl_E (by omega), if_pos h3, e, ff_ok h4]
/-- the two readers -/
theorem ff_R {t : Nat → Int32} {len : Nat} (h80 : len ≤ 80) (R : Nat → Int32) : ffR t len = if (fE t len R).1 = true then -6 else nI (fE t len R).2.1 := by
  have b := rdA_b (t := t) (len := len) (a := 0) (Nat.zero_le _)
  unfold ffR fE
  rcases od_x (t := t) (len := len) (a := 0) (Nat.zero_le _) with ⟨k, e⟩ | ⟨k, d2, e1, e2, e3⟩
  · rw [fl_F (S := rdS t len 0 0 R) k, if_neg (show ¬ (rdS t len 0 0 R).1 = true from fun z => absurd (k.symm.trans z) (by decide))]
    exact e
  · refine Eq.trans e3 ?_
    exact fl_ff 81 (rdS t len 0 0 R) d2 b.1 (by show len - rdA t len 0 ≤ 81; omega) k e1 e2
theorem nI_n6 {a : Nat} (h : a < 2 ^ 31) : ¬ nI a = -6 := fun z => nI_pos h (by rw [z]; decide)
theorem ff_T {t : Nat → Int32} {len : Nat} (h80 : len ≤ 80) (R : Nat → Int32) : ffR t len = -6 ↔ (fE t len R).1 = true := by
  rw [ff_R h80 R]
  have hb := (fE_k (t := t) R h80).1
  constructor
  · intro h
    by_cases c : (fE t len R).1 = true
    · exact c
    · rw [if_neg c] at h
      exact absurd h (nI_n6 (by omega))
  · intro h
    rw [if_pos h]
theorem fa_R (q : mdQ) {len : Nat} (h80 : len ≤ 80) : faR0 q len = ffR (q_pad q) len := by
  rw [ff_R h80 (q_read q)]
  have hb := (fE_k (t := q_pad q) (q_read q) h80).1
  unfold faR0
  by_cases c : (fE (q_pad q) len (q_read q)).1 = true
  · rw [if_pos c, faV_T c, if_pos (by decide)]
  · have c' : (fE (q_pad q) len (q_read q)).1 = false := by
      cases e : (fE (q_pad q) len (q_read q)).1
      · rfl
      · exact absurd e c
    rw [if_neg c, faV_F c', if_neg (nI_pos (by omega))]
/-! what was read -/
def gdO (t : Nat → Int32) (len : Nat) (R : Nat → Int32) (j : Nat) : Prop := ∀ f, dsR f (R (3 * j)) (R (1 + 3 * j)) (R (2 + 3 * j)) = obR f (sgA t len (soN t len 0 j)) (nuM t len (soN t len 0 j + 1)) (dgA t len (soN t len 0 j + 1)) (dgA t len (soN t len 0 j + 2))
theorem nu_M {t : Nat → Int32} {len a : Nat} (h : dB t len a = true) (E : dB t len (nuA t len a) = false) : nuV t len a = nuM t len a := by
  unfold nuM
  cases h2 : nu2 t len a
  · rw [nuA_F h2, accN_T h] at E
    rw [nuV_F h2, dgA_F E, if_pos (by decide), dgA_T h]
  · have h3 : dB t len (a + 1) = true := by
      cases e : dB t len (a + 1)
      · rw [nu2_2 e] at h2
        cases h2
      · rfl
    obtain ⟨k, hk, e1, e2⟩ := dgV_is h3
    rw [nuV_T h2, dgA_T h, dgA_T h3, if_neg (by rw [e2]; exact nI_pos (by omega)), dgV_T h3, Int32.sub_eq_add_neg, Int32.sub_eq_add_neg (t (a + 1)), Int32.add_assoc]
theorem obR_1 {f : Nat → Int32} {op nu d1 d2 : Int32} (h : op = nI 103) : obR f op nu d1 d2 = coR f nu := if_pos h
theorem obR_2 {f : Nat → Int32} {op nu d1 d2 : Int32} (h : op = nI 120) : obR f op nu d1 d2 = leR f d1 := by rw [h]; rfl
theorem obR_3 {f : Nat → Int32} {op nu d1 d2 : Int32} (h : op = nI 119) : obR f op nu d1 d2 = woR f d1 := by rw [h]; rfl
theorem obR_4 {f : Nat → Int32} {op nu d1 d2 : Int32} (h : op = nI 98) : obR f op nu d1 d2 = boR f d1 d2 := by rw [h]; rfl
theorem obR_5 {f : Nat → Int32} {op nu d1 d2 : Int32} (h : op = nI 116) : obR f op nu d1 d2 = beR f nu := by rw [h]; rfl
theorem obR_6 {f : Nat → Int32} {op nu d1 d2 : Int32} (h : op = nI 111) : obR f op nu d1 d2 = ofR f d1 d2 (cu f) := by rw [h]; rfl
theorem obR_7 {f : Nat → Int32} {op nu d1 d2 : Int32} (h : op = nI 114) : obR f op nu d1 d2 = roR f (cu f) := by rw [h]; rfl
theorem dsR_8 {f : Nat → Int32} {op x z : Int32} (h : op = nI 114) : dsR f op x z = roR f (cu f) := by rw [h]; rfl
theorem rdR_2 {t : Nat → Int32} {len a k : Nat} {R : Nat → Int32} (K : kd t len a = 2) : rdR t len a k R = upd (upd R (3 * k) (opV t len a)) (3 * k + 1) (dgV t len (a + 1)) := by rw [rdR, K]; rfl
theorem rdR_3 {t : Nat → Int32} {len a k : Nat} {R : Nat → Int32} (K : kd t len a = 3) (h : dB t len (a + 1) = true) : rdR t len a k R = upd (upd (upd R (3 * k) (opV t len a)) (3 * k + 1) (dgV t len (a + 1))) (3 * k + 2) (dgV t len (a + 2)) := by rw [rdR, K, h]; rfl
theorem rdR_4 {t : Nat → Int32} {len a k : Nat} {R : Nat → Int32} (K : kd t len a = 4) : rdR t len a k R = upd R (3 * k) (opV t len a) := by rw [rdR, K]; rfl
theorem rdK_0 {t : Nat → Int32} {len a : Nat} (K : kd t len a = 0) (h : rdK t len a = true) : False := by
  rw [rdK, K] at h
  replace h : decide (0 = 4) = true := h
  exact absurd h (by decide)
theorem gd_1 {t : Nat → Int32} {len a k : Nat} {R : Nat → Int32} (l : a < len) (hK : rdK t len a = true) (e : soN t len 0 k = a) (E : dB t len (rdA t len a) = false) : gdO t len (rdR t len a k R) k := by
  intro f
  rw [e, sgA_T l]
  rcases kd_c l with ⟨K, -, c⟩ | ⟨K, -, c⟩ | ⟨K, -, c⟩ | ⟨K, -, c⟩ | ⟨K, -⟩
  · rw [rdK, if_pos K] at hK
    rw [rdA, if_pos K] at E
    rw [rdR, if_pos K, upd_ne (by omega), upd_at, upd_is (by omega), opV_T l, nu_M hK E]
    rcases c with c | c
    · rw [dsR_1 c, obR_1 c]
    · rw [dsR_5 c, obR_5 c]
  · rw [rdK, K] at hK
    replace hK : dB t len (a + 1) = true := hK
    rw [rdR_2 K, upd_ne (show 3 * k ≠ 3 * k + 1 by omega), upd_at, upd_is (show 1 + 3 * k = 3 * k + 1 by omega), opV_T l, dgA_T hK]
    rcases c with c | c
    · rw [dsR_2 c, obR_2 c]
    · rw [dsR_3 c, obR_3 c]
  · rw [rdK, K] at hK
    replace hK : (dB t len (a + 1) && dB t len (a + 2)) = true := hK
    rw [Bool.and_eq_true] at hK
    rw [rdR_3 K hK.1, upd_ne (show 3 * k ≠ 3 * k + 2 by omega), upd_ne (show 3 * k ≠ 3 * k + 1 by omega), upd_at, upd_ne (show 1 + 3 * k ≠ 3 * k + 2 by omega), upd_is (show 1 + 3 * k = 3 * k + 1 by omega), upd_is (show 2 + 3 * k = 3 * k + 2 by omega), opV_T l, dgA_T hK.1, dgA_T hK.2]
    rcases c with c | c
    · rw [dsR_4 c, obR_4 c]
    · rw [dsR_6 c, obR_6 c]
  · rw [rdR_4 K, upd_at, opV_T l, dsR_8 c, obR_7 c]
  · exact absurd (rdK_0 K hK) id
theorem rd_R {t : Nat → Int32} {len a k i : Nat} {R : Nat → Int32} (h : i < 3 * k) : rdR t len a k R i = R i := by
  unfold rdR
  repeat' split
  all_goals first | rw [upd_ne (by omega), upd_ne (by omega), upd_ne (by omega)] | rw [upd_ne (by omega), upd_ne (by omega)] | rw [upd_ne (by omega)]
theorem dg_59 {t : Nat → Int32} {len i : Nat} (h : dB t len i = true) : semi t i = false := by
  obtain ⟨k, hk, e, -⟩ := dgV_is h
  refine decide_eq_false (fun z => ?_)
  rw [e, nI_eq (by omega) (by decide)] at z
  omega
theorem cnt_st {P : Nat → Bool} {a : Nat} : ∀ n, (∀ i, a ≤ i → i < a + n → P i = false) → cnt P (a + n) = cnt P a
  | 0, _ => rfl
  | n + 1, h => by
    rw [show a + (n + 1) = (a + n) + 1 by omega, cnt_f (h _ (by omega) (by omega))]
    exact cnt_st n (fun i h1 h2 => h i h1 (by omega))
theorem rd_semi {t : Nat → Int32} {len a : Nat} (l : a < len) (hK : rdK t len a = true) : cnt (semi t) (rdA t len a) = cnt (semi t) a := by
  have c0 : semi t a = false := by
    have o : ∀ c, c < 2 ^ 31 → c ≠ 59 → t a = nI c → semi t a = false := fun c h1 h2 e => decide_eq_false (fun z => by rw [e, nI_eq h1 (by decide)] at z; exact h2 z)
    rcases kd_c l with ⟨K, -, c⟩ | ⟨K, -, c⟩ | ⟨K, -, c⟩ | ⟨K, -, c⟩ | ⟨K, -⟩
    · rcases c with c | c <;> exact o _ (by decide) (by decide) c
    · rcases c with c | c <;> exact o _ (by decide) (by decide) c
    · rcases c with c | c <;> exact o _ (by decide) (by decide) c
    · exact o _ (by decide) (by decide) c
    · exact absurd (rdK_0 K hK) id
  rcases kd_c l with ⟨K, -, c⟩ | ⟨K, -, c⟩ | ⟨K, -, c⟩ | ⟨K, -, c⟩ | ⟨K, -⟩
  · rw [rdK, if_pos K] at hK
    rw [rdA, if_pos K]
    cases h2 : nu2 t len (a + 1)
    · rw [nuA_F h2, accN_T hK]
      exact cnt_st 2 (fun i h3 h4 => by
        rcases (by omega : i = a ∨ i = a + 1) with rfl | rfl
        · exact c0
        · exact dg_59 hK)
    · have h3 : dB t len (a + 1 + 1) = true := by
        cases e : dB t len (a + 1 + 1)
        · rw [nu2_2 e] at h2
          cases h2
        · rfl
      rw [nuA_T h2]
      exact cnt_st 3 (fun i h5 h4 => by
        rcases (by omega : i = a ∨ i = a + 1 ∨ i = a + 1 + 1) with rfl | rfl | rfl
        · exact c0
        · exact dg_59 hK
        · exact dg_59 h3)
  · rw [rdK, K] at hK
    replace hK : dB t len (a + 1) = true := hK
    rw [rdA, K, hK]
    exact cnt_st 2 (fun i h3 h4 => by
      rcases (by omega : i = a ∨ i = a + 1) with rfl | rfl
      · exact c0
      · exact dg_59 hK)
  · rw [rdK, K] at hK
    replace hK : (dB t len (a + 1) && dB t len (a + 2)) = true := hK
    rw [Bool.and_eq_true] at hK
    rw [rdA, K, hK.1, hK.2]
    exact cnt_st 3 (fun i h5 h4 => by
      rcases (by omega : i = a ∨ i = a + 1 ∨ i = a + 2) with rfl | rfl | rfl
      · exact c0
      · exact dg_59 hK.1
      · exact dg_59 hK.2)
  · rw [rdA, K]
    exact cnt_st 1 (fun i h3 h4 => by
      obtain rfl : i = a := by omega
      exact c0)
  · exact absurd (rdK_0 K hK) id
theorem so_at {t : Nat → Int32} {len k : Nat} : ∀ i, i ≤ len → (∀ j, j < i → cnt (semi t) j < k) → soN t len 0 k = soN t (len - i) i (k - cnt (semi t) i)
  | 0, _, _ => rfl
  | i + 1, h, hc => by
    have c := hc i (by omega)
    rw [so_at i (by omega) (fun j hj => hc j (by omega)), show len - i = (len - (i + 1)) + 1 by omega, soN, if_neg (by omega)]
    by_cases e : t i = nI 59
    · rw [if_pos e, cnt_t (decide_eq_true e), Nat.sub_sub]
    · rw [if_neg e, cnt_f (decide_eq_false e)]
theorem cnt_mono (P : Nat → Bool) : ∀ n m, n ≤ m → cnt P n ≤ cnt P m
  | n, 0, h => by
    obtain rfl : n = 0 := by omega
    exact Nat.le_refl _
  | n, m + 1, h => by
    by_cases e : n = m + 1
    · rw [e]
      exact Nat.le_refl _
    · have := cnt_mono P n m (by omega)
      rw [cnt]
      omega
theorem so_nx {t : Nat → Int32} {len a : Nat} (l : a < len) (e : t a = nI 59) : soN t len 0 (cnt (semi t) a + 1) = a + 1 := by
  rw [so_at (a + 1) (by omega) (fun j hj => by have := cnt_mono (semi t) j a (by omega); omega), cnt_t (decide_eq_true e), Nat.sub_self]
  cases len - (a + 1)
  · rfl
  · rw [soN, if_pos rfl]
def fI (t : Nat → Int32) (len : Nat) (S : fS) : Prop := S.2.1 ≤ len ∧ cnt (semi t) S.2.1 + 1 = S.2.2.1 ∧ ∀ j, j < S.2.2.1 → (j + 1 = S.2.2.1 → dB t len S.2.1 = false) → gdO t len S.2.2.2 j
theorem fI_rd {t : Nat → Int32} {len a k : Nat} {R : Nat → Int32} (l : a < len) (e : soN t len 0 k = a) (hc : cnt (semi t) a = k) (hg : ∀ j, j < k → gdO t len R j) (hK : rdK t len a = true) : fI t len (rdS t len a k R) := by
  have b := rdA_b (t := t) (len := len) (a := a) (by omega)
  refine ⟨b.1, ?_, ?_⟩
  · show cnt (semi t) (rdA t len a) + 1 = accN (rdK t len a) k
    rw [rd_semi l hK, hc, accN_T hK]
  · intro j hj hE
    replace hj : j < accN (rdK t len a) k := hj
    replace hE : j + 1 = accN (rdK t len a) k → dB t len (rdA t len a) = false := hE
    show gdO t len (rdR t len a k R) j
    rw [accN_T hK] at hj hE
    by_cases c : j = k
    · subst c
      exact gd_1 l hK e (hE rfl)
    · intro f
      rw [rd_R (by omega), rd_R (by omega), rd_R (by omega)]
      exact hg j (by omega) f
theorem fI_fl {t : Nat → Int32} {len : Nat} : ∀ n (S : fS), S.1 = true → fI t len S → len - S.2.1 ≤ n → (fl t len n S).1 = true → (fl t len n S).2.2.1 = cnt (semi t) len + 1 ∧ ∀ j, j < (fl t len n S).2.2.1 → gdO t len (fl t len n S).2.2.2 j
  | n, S, h1, h2, h3, h4 => by
    obtain ⟨a1, a2, a3⟩ := h2
    by_cases l : S.2.1 < len
    · cases n with
      | zero => omega
      | succ n =>
        by_cases c : t S.2.1 = nI 59
        · have hE : dB t len S.2.1 = false := by
            rw [dB_d l, c]
            rfl
          rw [fl_S h1 l ((cB_d l).trans (decide_eq_true c))] at h4 ⊢
          cases hK : rdK t len (S.2.1 + 1)
          · rw [fl_F (S := rdS t len (S.2.1 + 1) S.2.2.1 S.2.2.2) hK] at h4
            exact absurd (hK.symm.trans h4) (by decide)
          · have l2 : S.2.1 + 1 < len := by
              have b := rdA_b (t := t) (len := len) (a := S.2.1 + 1) (by omega)
              have := b.2.2 hK
              omega
            have b := rdA_b (t := t) (len := len) (a := S.2.1 + 1) (by omega)
            exact fI_fl n (rdS t len (S.2.1 + 1) S.2.2.1 S.2.2.2) hK (fI_rd l2 (by rw [← a2]; exact so_nx l c) (by rw [cnt_t (decide_eq_true c)]; exact a2) (fun j hj => a3 j hj (fun _ => hE)) hK) (by show len - rdA t len (S.2.1 + 1) ≤ n; omega) h4
        · rw [fl_N h1 l ((cB_d l).trans (decide_eq_false c))] at h4
          cases h4
    · have e : S.2.1 = len := by omega
      rw [fl_E (by omega)]
      refine ⟨by rw [← a2, e], fun j hj => a3 j hj (fun _ => dB_o l)⟩
theorem fE_gd {t : Nat → Int32} {len : Nat} (h80 : len ≤ 80) {R : Nat → Int32} (h : (fE t len R).1 = true) : (fE t len R).2.2.1 = cnt (semi t) len + 1 ∧ ∀ j, j < (fE t len R).2.2.1 → gdO t len (fE t len R).2.2.2 j := by
  unfold fE at h ⊢
  cases hK : rdK t len 0
  · rw [fl_F (S := rdS t len 0 0 R) hK] at h
    exact absurd (hK.symm.trans h) (by decide)
  · have b := rdA_b (t := t) (len := len) (a := 0) (Nat.zero_le _)
    have l : 0 < len := by
      have := b.2.2 hK
      omega
    exact fI_fl 81 (rdS t len 0 0 R) hK (fI_rd l (by cases len <;> rfl) rfl (fun j hj => absurd hj (by omega)) hK) (by show len - rdA t len 0 ≤ 81; omega) h
theorem ex_ox {t : Nat → Int32} {len : Nat} : ∀ n (S : xS), (∀ d, S.1 ≤ d → d < S.1 + n → gdO t len (q_read S.2.2) d) → ((exS n S).1, (exS n S).2.1) = oxS t len n (S.1, S.2.1)
  | 0, S, _ => rfl
  | n + 1, S, h => by
    have e : dsA S.2.2 S.2.1 S.1 = obA t len S.2.1 S.1 := h S.1 (Nat.le_refl _) (by omega) S.2.1
    rw [exS, oxS, e]
    show (_, _) = if 0 ≤ (obA t len S.2.1 S.1).1 then _ else _
    by_cases c : 0 ≤ (obA t len S.2.1 S.1).1
    · rw [if_pos c, if_pos c]
      refine ex_ox n (S.1 + 1, (obA t len S.2.1 S.1).2, dsQ S.2.1 (q_read S.2.2 (3 * S.1)) S.2.2) (fun d h1 h2 => ?_)
      show gdO t len (q_read (dsQ S.2.1 (q_read S.2.2 (3 * S.1)) S.2.2)) d
      replace h1 : S.1 + 1 ≤ d := h1
      replace h2 : d < S.1 + 1 + n := h2
      rw [(smQ_ds S.2.1 (q_read S.2.2 (3 * S.1)) S.2.2).2.2.2.2.2.1]
      exact h d (by omega) (by omega)
    · rw [if_neg c, if_neg c]
theorem ca_ox {q : mdQ} {len : Nat} (h80 : len ≤ 80) (s : Nat → Int32) (h : (caE q len).1 = true) : ((caS s q len).1, (caS s q len).2.1) = oxE (q_pad q) len s := by
  have hg := fE_gd h80 (R := q_read q) h
  have e := ex_ox (t := q_pad q) (len := len) (caE q len).2.2.1 (0, s, qs_spare (fQ q (caE q len)) s) (fun d _ h2 => hg.2 d (by replace h2 : d < 0 + (caE q len).2.2.1 := h2; show d < (caE q len).2.2.1; omega))
  refine Eq.trans e ?_
  rw [oxE]
  show oxS (q_pad q) len (fE (q_pad q) len (q_read q)).2.2.1 (0, s) = _
  rw [hg.1]
