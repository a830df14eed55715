/-! the reference reads its pad -/
def sgB (t : Nat → Int32) (len a : Nat) (lo hi : Int32) : Bool := decide (a < len) && (decide (lo ≤ t a) && decide (t a ≤ hi))
def dB (t : Nat → Int32) (len a : Nat) : Bool := sgB t len a (nI 48) (nI 57)
def accN (c : Bool) (a : Nat) : Nat := if c = true then a + 1 else a
def pq (q : mdQ) (a k : Nat) (R : Nat → Int32) : mdQ := (q_spare q, q_trial q, q_before q, q_saved q, q_isSaved q, q_ranks q, q_row q, R, q_pad q, q_length q, q_states q, nI k, nI a)
def dgV (t : Nat → Int32) (len a : Nat) : Int32 := if dB t len a = true then t a - nI 48 else nI 0
def nu2 (t : Nat → Int32) (len a : Nat) : Bool := dB t len a && (decide (0 < dgV t len a) && dB t len (a + 1))
def nuA (t : Nat → Int32) (len a : Nat) : Nat := if nu2 t len a = true then a + 2 else accN (dB t len a) a
def nuV (t : Nat → Int32) (len a : Nat) : Int32 := if nu2 t len a = true then nI 10 * dgV t len a + t (a + 1) - nI 48 else dgV t len a
def opV (t : Nat → Int32) (len a : Nat) : Int32 := if a < len then t a else nI 0
def cB (t : Nat → Int32) (len a c : Nat) : Bool := sgB t len a (nI c) (nI c)
def kd (t : Nat → Int32) (len a : Nat) : Nat := if (cB t len a 103 || cB t len a 116) = true then 1 else if (cB t len a 120 || cB t len a 119) = true then 2 else if (cB t len a 98 || cB t len a 111) = true then 3 else if cB t len a 114 = true then 4 else 0
def rdK (t : Nat → Int32) (len a : Nat) : Bool := if kd t len a = 1 then dB t len (a + 1) else if kd t len a = 2 then dB t len (a + 1) else if kd t len a = 3 then dB t len (a + 1) && dB t len (a + 2) else decide (kd t len a = 4)
def rdA (t : Nat → Int32) (len a : Nat) : Nat := if kd t len a = 1 then nuA t len (a + 1) else if kd t len a = 2 then accN (dB t len (a + 1)) (a + 1) else if kd t len a = 3 then (if dB t len (a + 1) = true then accN (dB t len (a + 2)) (a + 2) else a + 1) else if kd t len a = 4 then a + 1 else a
def rdR (t : Nat → Int32) (len a k : Nat) (R : Nat → Int32) : Nat → Int32 := if kd t len a = 1 then upd (upd R (3 * k) (opV t len a)) (3 * k + 1) (nuV t len (a + 1)) else if kd t len a = 2 then upd (upd R (3 * k) (opV t len a)) (3 * k + 1) (dgV t len (a + 1)) else if kd t len a = 3 then (if dB t len (a + 1) = true then upd (upd (upd R (3 * k) (opV t len a)) (3 * k + 1) (dgV t len (a + 1))) (3 * k + 2) (dgV t len (a + 2)) else upd (upd R (3 * k) (opV t len a)) (3 * k + 1) (dgV t len (a + 1))) else upd R (3 * k) (opV t len a)
theorem sgB_lt {t : Nat → Int32} {len a : Nat} {lo hi : Int32} (h : sgB t len a lo hi = true) : a < len := by
  unfold sgB at h
  by_cases c : a < len
  · exact c
  · rw [decide_eq_false c] at h
    cases h
theorem bI_nar (b : Bool) : narrow .boolean (.int (bI b)) = .int (bI b) := by cases b <;> rfl
theorem sgB_1 {t : Nat → Int32} {len a : Nat} {lo hi : Int32} (h : ¬ a < len) : sgB t len a lo hi = false := by
  rw [sgB, decide_eq_false h]
  rfl
theorem sgB_2 {t : Nat → Int32} {len a : Nat} {lo hi : Int32} (h : t a < lo) : sgB t len a lo hi = false := by
  rw [sgB, decide_eq_false (Int32.not_le.mpr h)]
  cases decide (a < len) <;> rfl
theorem sgB_3 {t : Nat → Int32} {len a : Nat} {lo hi : Int32} (h : hi < t a) : sgB t len a lo hi = false := by
  rw [sgB, decide_eq_false (Int32.not_le.mpr h)]
  cases decide (a < len) <;> cases decide (lo ≤ t a) <;> rfl
theorem sgB_T {t : Nat → Int32} {len a : Nat} {lo hi : Int32} (l : a < len) (h1 : lo ≤ t a) (h2 : t a ≤ hi) : sgB t len a lo hi = true := by
  rw [sgB, decide_eq_true l, decide_eq_true h1, decide_eq_true h2]
  rfl
theorem accN_le {c : Bool} {len a : Nat} (h : c = true → a < len) (ha : a ≤ len) : accN c a ≤ len := by
  unfold accN
  split
  · have := h ‹_›
    omega
  · exact ha
theorem accN_ge (c : Bool) (a : Nat) : a ≤ accN c a := by
  unfold accN
  split <;> omega
theorem kd_lt {t : Nat → Int32} {len a : Nat} (h : kd t len a ≠ 0) : a < len := by
  unfold kd at h
  have f : ∀ c, cB t len a c = true → a < len := fun c z => sgB_lt z
  by_cases c1 : (cB t len a 103 || cB t len a 116) = true
  · rcases Bool.or_eq_true _ _ |>.mp c1 with z | z <;> exact f _ z
  by_cases c2 : (cB t len a 120 || cB t len a 119) = true
  · rcases Bool.or_eq_true _ _ |>.mp c2 with z | z <;> exact f _ z
  by_cases c3 : (cB t len a 98 || cB t len a 111) = true
  · rcases Bool.or_eq_true _ _ |>.mp c3 with z | z <;> exact f _ z
  by_cases c4 : cB t len a 114 = true
  · exact f _ c4
  rw [if_neg c1, if_neg c2, if_neg c3, if_neg c4] at h
  exact absurd rfl h
theorem nuA_b {t : Nat → Int32} {len a : Nat} (ha : a ≤ len) : nuA t len a ≤ len ∧ a ≤ nuA t len a := by
  unfold nuA
  split
  · rename_i h
    unfold nu2 at h
    have h2 : dB t len (a + 1) = true := by
      cases e : dB t len (a + 1)
      · rw [e] at h
        simp at h
      · rfl
    have := sgB_lt h2
    omega
  · exact ⟨accN_le (fun z => sgB_lt z) ha, accN_ge _ _⟩
theorem rdA_b {t : Nat → Int32} {len a : Nat} (ha : a ≤ len) : rdA t len a ≤ len ∧ a ≤ rdA t len a ∧ (rdK t len a = true → a < rdA t len a) := by
  unfold rdA rdK
  by_cases c1 : kd t len a = 1
  · have l := kd_lt (t := t) (len := len) (a := a) (by omega)
    have := nuA_b (t := t) (len := len) (a := a + 1) (by omega)
    rw [if_pos c1, if_pos c1]
    exact ⟨this.1, by omega, fun _ => by omega⟩
  rw [if_neg c1, if_neg c1]
  by_cases c2 : kd t len a = 2
  · have l := kd_lt (t := t) (len := len) (a := a) (by omega)
    have h1 := accN_le (c := dB t len (a + 1)) (len := len) (a := a + 1) (fun z => sgB_lt z) (by omega)
    have h2 := accN_ge (dB t len (a + 1)) (a + 1)
    rw [if_pos c2, if_pos c2]
    exact ⟨h1, by omega, fun _ => by omega⟩
  rw [if_neg c2, if_neg c2]
  by_cases c3 : kd t len a = 3
  · have l := kd_lt (t := t) (len := len) (a := a) (by omega)
    rw [if_pos c3, if_pos c3]
    by_cases d : dB t len (a + 1) = true
    · have l2 := sgB_lt d
      have h1 := accN_le (c := dB t len (a + 2)) (len := len) (a := a + 2) (fun z => sgB_lt z) (by omega)
      have h2 := accN_ge (dB t len (a + 2)) (a + 2)
      rw [if_pos d]
      exact ⟨h1, by omega, fun _ => by omega⟩
    · rw [if_neg d]
      exact ⟨by omega, by omega, fun _ => by omega⟩
  rw [if_neg c3, if_neg c3]
  by_cases c4 : kd t len a = 4
  · have l := kd_lt (t := t) (len := len) (a := a) (by omega)
    rw [if_pos c4]
    exact ⟨by omega, by omega, fun _ => by omega⟩
  · rw [if_neg c4]
    exact ⟨ha, Nat.le_refl _, fun z => absurd (of_decide_eq_true z) c4⟩
theorem accN_T {c : Bool} {a : Nat} (h : c = true) : accN c a = a + 1 := by rw [accN, if_pos h]
theorem accN_F {c : Bool} {a : Nat} (h : c = false) : accN c a = a := by rw [accN, h]; rfl
theorem dgV_T {t : Nat → Int32} {len a : Nat} (h : dB t len a = true) : dgV t len a = t a - nI 48 := by rw [dgV, if_pos h]
theorem dgV_F {t : Nat → Int32} {len a : Nat} (h : dB t len a = false) : dgV t len a = nI 0 := by rw [dgV, h]; rfl
theorem nu2_0 {t : Nat → Int32} {len a : Nat} (h : dB t len a = false) : nu2 t len a = false := by rw [nu2, h]; rfl
theorem nu2_1 {t : Nat → Int32} {len a : Nat} (h : dgV t len a ≤ 0) : nu2 t len a = false := by
  rw [nu2, decide_eq_false (Int32.not_lt.mpr h)]
  cases dB t len a <;> rfl
theorem nu2_2 {t : Nat → Int32} {len a : Nat} (h : dB t len (a + 1) = false) : nu2 t len a = false := by
  rw [nu2, h]
  cases dB t len a <;> cases decide (0 < dgV t len a) <;> rfl
theorem nu2_T {t : Nat → Int32} {len a : Nat} (h : dB t len a = true) (h1 : 0 < dgV t len a) (h2 : dB t len (a + 1) = true) : nu2 t len a = true := by
  rw [nu2, h, h2, decide_eq_true h1]
  rfl
theorem nuA_F {t : Nat → Int32} {len a : Nat} (h : nu2 t len a = false) : nuA t len a = accN (dB t len a) a := by rw [nuA, h]; rfl
theorem nuV_F {t : Nat → Int32} {len a : Nat} (h : nu2 t len a = false) : nuV t len a = dgV t len a := by rw [nuV, h]; rfl
theorem nuA_T {t : Nat → Int32} {len a : Nat} (h : nu2 t len a = true) : nuA t len a = a + 2 := by rw [nuA, if_pos h]
theorem nuV_T {t : Nat → Int32} {len a : Nat} (h : nu2 t len a = true) : nuV t len a = nI 10 * dgV t len a + t (a + 1) - nI 48 := by rw [nuV, if_pos h]
theorem pq_nuF {q : mdQ} {R : Nat → Int32} {len a k : Nat} (h : nu2 (q_pad q) len a = false) : pq q (accN (dB (q_pad q) len a) a) k (upd R (3 * k + 1) (dgV (q_pad q) len a)) = pq q (nuA (q_pad q) len a) k (upd R (3 * k + 1) (nuV (q_pad q) len a)) := by
  rw [nuA_F h, nuV_F h]
theorem pq_nuF2 {q : mdQ} {R : Nat → Int32} {len a k : Nat} (h1 : dB (q_pad q) len a = true) (h : nu2 (q_pad q) len a = false) : pq q (a + 1) k (upd R (3 * k + 1) (dgV (q_pad q) len a)) = pq q (nuA (q_pad q) len a) k (upd R (3 * k + 1) (nuV (q_pad q) len a)) := by
  rw [nuA_F h, nuV_F h, accN_T h1]
theorem pq_nuT {q : mdQ} {R : Nat → Int32} {len a k : Nat} (h : nu2 (q_pad q) len a = true) : pq q (a + 2) k (upd (upd R (3 * k + 1) (dgV (q_pad q) len a)) (1 + 3 * k) (nI 10 * (upd R (3 * k + 1) (dgV (q_pad q) len a)) (1 + 3 * k) + q_pad q (a + 1) - nI 48)) = pq q (nuA (q_pad q) len a) k (upd R (3 * k + 1) (nuV (q_pad q) len a)) := by
  rw [nuA_T h, nuV_T h, Nat.add_comm 1 (3 * k), upd_upd, upd_at]
/-- the state of reading: does it go on, where, how many orders, what was read -/
abbrev fS : Type := Bool × Nat × Nat × (Nat → Int32)
def rdS (t : Nat → Int32) (len a k : Nat) (R : Nat → Int32) : fS := (rdK t len a, rdA t len a, accN (rdK t len a) k, rdR t len a k R)
def fl (t : Nat → Int32) (len : Nat) : Nat → fS → fS
  | 0, S => S
  | n + 1, S => if S.1 = true ∧ S.2.1 < len then (if cB t len S.2.1 59 = true then fl t len n (rdS t len (S.2.1 + 1) S.2.2.1 S.2.2.2) else (false, S.2)) else S
def fE (t : Nat → Int32) (len : Nat) (R : Nat → Int32) : fS := fl t len 81 (rdS t len 0 0 R)
def faV (S : fS) : Int32 := if S.1 = true then -1 else nI S.2.1
theorem fl_b {t : Nat → Int32} {len : Nat} : ∀ n (S : fS), S.2.1 ≤ len → (fl t len n S).2.1 ≤ len
  | 0, S, h => h
  | n + 1, S, h => by
    rw [fl]
    split
    · split
      · rename_i c _
        exact fl_b n _ (rdA_b (by have := c.2; omega)).1
      · exact h
    · exact h
