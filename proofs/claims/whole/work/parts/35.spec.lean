/-! the reference carries out its pad -/
def dsQ (f : Nat → Int32) (op : Int32) (q : mdQ) : mdQ := if op = nI 103 then q else if op = nI 120 then q else if op = nI 119 then q else if op = nI 98 then q else if op = nI 116 then q else if op = nI 111 then q else roQ f (cu f) q
/-- the parts of the reference that a round doesn't touch -/
def smQ (q q' : mdQ) : Prop := q_spare q' = q_spare q ∧ q_trial q' = q_trial q ∧ q_before q' = q_before q ∧ q_saved q' = q_saved q ∧ q_isSaved q' = q_isSaved q ∧ q_read q' = q_read q ∧ q_pad q' = q_pad q ∧ q_length q' = q_length q ∧ q_states q' = q_states q ∧ q_orders q' = q_orders q
theorem smQ_refl (q : mdQ) : smQ q q := ⟨rfl, rfl, rfl, rfl, rfl, rfl, rfl, rfl, rfl, rfl⟩
theorem smQ_tr {q q' q2 : mdQ} (h : smQ q q') (h2 : smQ q' q2) : smQ q q2 := by
  obtain ⟨a1, a2, a3, a4, a5, a6, a7, a8, a9, a10⟩ := h
  obtain ⟨b1, b2, b3, b4, b5, b6, b7, b8, b9, b10⟩ := h2
  exact ⟨b1.trans a1, b2.trans a2, b3.trans a3, b4.trans a4, b5.trans a5, b6.trans a6, b7.trans a7, b8.trans a8, b9.trans a9, b10.trans a10⟩
theorem smQ_go (f : Nat → Int32) (c : Nat) (q : mdQ) : smQ q (goQ f c q) := ⟨rfl, rfl, rfl, rfl, rfl, rfl, rfl, rfl, rfl, rfl⟩
theorem smQ_ro (f : Nat → Int32) (c : Nat) (q : mdQ) : smQ q (roQ f c q) := by
  unfold roQ
  split
  · exact smQ_refl q
  · exact smQ_go f c q
theorem smQ_ds (f : Nat → Int32) (op : Int32) (q : mdQ) : smQ q (dsQ f op q) := by
  unfold dsQ
  repeat' split
  all_goals first | exact smQ_refl q | exact smQ_ro f _ q
theorem dsR_1 {f : Nat → Int32} {op x z : Int32} (h : op = nI 103) : dsR f op x z = coR f x := if_pos h
theorem dsR_2 {f : Nat → Int32} {op x z : Int32} (h : op = nI 120) : dsR f op x z = leR f x := by rw [h]; rfl
theorem dsR_3 {f : Nat → Int32} {op x z : Int32} (h : op = nI 119) : dsR f op x z = woR f x := by rw [h]; rfl
theorem dsR_4 {f : Nat → Int32} {op x z : Int32} (h : op = nI 98) : dsR f op x z = boR f x z := by rw [h]; rfl
theorem dsR_5 {f : Nat → Int32} {op x z : Int32} (h : op = nI 116) : dsR f op x z = beR f x := by rw [h]; rfl
theorem dsR_6 {f : Nat → Int32} {op x z : Int32} (h : op = nI 111) : dsR f op x z = ofR f x z (cu f) := by rw [h]; rfl
theorem dsR_7 {f : Nat → Int32} {op x z : Int32} (h1 : ¬ op = nI 103) (h2 : ¬ op = nI 120) (h3 : ¬ op = nI 119) (h4 : ¬ op = nI 98) (h5 : ¬ op = nI 116) (h6 : ¬ op = nI 111) : dsR f op x z = roR f (cu f) := by
  rw [dsR, if_neg h1, if_neg h2, if_neg h3, if_neg h4, if_neg h5, if_neg h6]
theorem dsQ_k {f : Nat → Int32} {op : Int32} {q : mdQ} (h : op = nI 103 ∨ op = nI 120 ∨ op = nI 119 ∨ op = nI 98 ∨ op = nI 116 ∨ op = nI 111) : dsQ f op q = q := by
  rcases h with rfl | rfl | rfl | rfl | rfl | rfl <;> rfl
theorem dsQ_7 {f : Nat → Int32} {op : Int32} {q : mdQ} (h1 : ¬ op = nI 103) (h2 : ¬ op = nI 120) (h3 : ¬ op = nI 119) (h4 : ¬ op = nI 98) (h5 : ¬ op = nI 116) (h6 : ¬ op = nI 111) : dsQ f op q = roQ f (cu f) q := by
  rw [dsQ, if_neg h1, if_neg h2, if_neg h3, if_neg h4, if_neg h5, if_neg h6]
theorem fl_k {t : Nat → Int32} {len : Nat} : ∀ n (S : fS), S.2.1 ≤ len → 2 * S.2.2.1 ≤ S.2.1 + 1 → (fl t len n S).2.1 ≤ len ∧ 2 * (fl t len n S).2.2.1 ≤ (fl t len n S).2.1 + 1
  | 0, S, h, h2 => ⟨h, h2⟩
  | n + 1, S, h, h2 => by
    rw [fl]
    split
    · rename_i c
      split
      · have hb := rdA_b (t := t) (len := len) (a := S.2.1 + 1) (by omega)
        exact fl_k n (rdS t len (S.2.1 + 1) S.2.2.1 S.2.2.2) hb.1 (accN_k (c := rdK t len (S.2.1 + 1)) (by omega) hb.2.1 hb.2.2)
      · exact ⟨h, h2⟩
    · exact ⟨h, h2⟩
theorem fE_k {t : Nat → Int32} {len : Nat} (R : Nat → Int32) (h80 : len ≤ 80) : (fE t len R).2.1 ≤ len ∧ (fE t len R).2.2.1 ≤ 40 := by
  have hb := rdA_b (t := t) (len := len) (a := 0) (Nat.zero_le _)
  obtain ⟨a, b⟩ := fl_k (t := t) (len := len) 81 (rdS t len 0 0 R) hb.1 (accN_k (c := rdK t len 0) (k := 0) (a := 0) (by omega) hb.2.1 hb.2.2)
  exact ⟨a, by show (fl t len 81 (rdS t len 0 0 R)).2.2.1 ≤ 40; omega⟩
abbrev xS : Type := Nat × (Nat → Int32) × mdQ
def dsA (q : mdQ) (f : Nat → Int32) (d : Nat) : Int32 × (Nat → Int32) := dsR f (q_read q (3 * d)) (q_read q (1 + 3 * d)) (q_read q (2 + 3 * d))
def exS : Nat → xS → xS
  | 0, S => S
  | n + 1, S => if 0 ≤ (dsA S.2.2 S.2.1 S.1).1 then exS n (S.1 + 1, (dsA S.2.2 S.2.1 S.1).2, dsQ S.2.1 (q_read S.2.2 (3 * S.1)) S.2.2) else (S.1, (dsA S.2.2 S.2.1 S.1).2, dsQ S.2.1 (q_read S.2.2 (3 * S.1)) S.2.2)
theorem exS_ok : ∀ n (S : xS), IV S.2.1 → IV (exS n S).2.1 ∧ smQ S.2.2 (exS n S).2.2 ∧ S.1 ≤ (exS n S).1 ∧ (exS n S).1 ≤ S.1 + n
  | 0, S, h => ⟨h, smQ_refl _, Nat.le_refl _, Nat.le_refl _⟩
  | n + 1, S, h => by
    have h2 : IV (dsA S.2.2 S.2.1 S.1).2 := IV_ds h _ _ _
    have m := smQ_ds S.2.1 (q_read S.2.2 (3 * S.1)) S.2.2
    rw [exS]
    split
    · obtain ⟨a, b, c, d⟩ := exS_ok n (S.1 + 1, (dsA S.2.2 S.2.1 S.1).2, dsQ S.2.1 (q_read S.2.2 (3 * S.1)) S.2.2) h2
      exact ⟨a, smQ_tr m b, by have : S.1 + 1 ≤ _ := c; omega, by have : _ ≤ S.1 + 1 + n := d; omega⟩
    · exact ⟨h2, m, Nat.le_refl _, by show S.1 ≤ S.1 + (n + 1); omega⟩
def caE (q : mdQ) (len : Nat) : fS := fE (q_pad q) len (q_read q)
def caS (s : Nat → Int32) (q : mdQ) (len : Nat) : xS := exS (caE q len).2.2.1 (0, s, qs_spare (fQ q (caE q len)) s)
def caR (s : Nat → Int32) (q : mdQ) (len : Nat) : Int32 := if (caE q len).1 = true then nI (caS s q len).1 else -3
def caF (s : Nat → Int32) (q : mdQ) (len : Nat) : Nat → Int32 := if (caE q len).1 = true then (caS s q len).2.1 else s
def caQ (s : Nat → Int32) (q : mdQ) (len st : Nat) : mdQ := if (caE q len).1 = true then rcQ (qs_length (caS s q len).2.2 (nI 0)) st (nI (caS s q len).1) else fQ q (caE q len)
theorem exS_y {n : Nat} {S : xS} (h : 0 ≤ (dsA S.2.2 S.2.1 S.1).1) : exS (n + 1) S = exS n (S.1 + 1, (dsA S.2.2 S.2.1 S.1).2, dsQ S.2.1 (q_read S.2.2 (3 * S.1)) S.2.2) := by rw [exS, if_pos h]
theorem exS_n {n : Nat} {S : xS} (h : ¬ 0 ≤ (dsA S.2.2 S.2.1 S.1).1) : exS (n + 1) S = (S.1, (dsA S.2.2 S.2.1 S.1).2, dsQ S.2.1 (q_read S.2.2 (3 * S.1)) S.2.2) := by rw [exS, if_neg h]
