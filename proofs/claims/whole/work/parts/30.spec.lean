/-! the reference reads an order -/
theorem or_t1 {a b : Bool} (h : a = true) : (a || b) = true := by rw [h]; rfl
theorem or_t2 {a b : Bool} (h : b = true) : (a || b) = true := by rw [h]; exact Bool.or_true _
theorem or_f {a b : Bool} (h : a = false) (h2 : b = false) : (a || b) = false := by rw [h, h2]; rfl
theorem kd1 {t : Nat → Int32} {len a : Nat} (h : (cB t len a 103 || cB t len a 116) = true) : kd t len a = 1 := by rw [kd, if_pos h]
theorem kd2 {t : Nat → Int32} {len a : Nat} (h : (cB t len a 103 || cB t len a 116) = false) (h2 : (cB t len a 120 || cB t len a 119) = true) : kd t len a = 2 := by
  rw [kd, h, if_pos h2]
  rfl
theorem kd3 {t : Nat → Int32} {len a : Nat} (h : (cB t len a 103 || cB t len a 116) = false) (h2 : (cB t len a 120 || cB t len a 119) = false) (h3 : (cB t len a 98 || cB t len a 111) = true) : kd t len a = 3 := by
  rw [kd, h, h2, if_pos h3]
  rfl
theorem kd4 {t : Nat → Int32} {len a : Nat} (h : (cB t len a 103 || cB t len a 116) = false) (h2 : (cB t len a 120 || cB t len a 119) = false) (h3 : (cB t len a 98 || cB t len a 111) = false) : kd t len a = if cB t len a 114 = true then 4 else 0 := by
  rw [kd, h, h2, h3]
  rfl
theorem rd_1 {t : Nat → Int32} {len a : Nat} (K : kd t len a = 1) (k : Nat) (R : Nat → Int32) : dB t len (a + 1) = rdK t len a ∧ nuA t len (a + 1) = rdA t len a ∧ upd (upd R (3 * k) (opV t len a)) (3 * k + 1) (nuV t len (a + 1)) = rdR t len a k R := by
  rw [rdK, rdA, rdR, if_pos K, if_pos K, if_pos K]
  exact ⟨rfl, rfl, rfl⟩
theorem rd_2 {t : Nat → Int32} {len a : Nat} (K : kd t len a = 2) (k : Nat) (R : Nat → Int32) : dB t len (a + 1) = rdK t len a ∧ accN (dB t len (a + 1)) (a + 1) = rdA t len a ∧ upd (upd R (3 * k) (opV t len a)) (3 * k + 1) (dgV t len (a + 1)) = rdR t len a k R := by
  rw [rdK, rdA, rdR, K]
  exact ⟨rfl, rfl, rfl⟩
theorem rd_3f {t : Nat → Int32} {len a : Nat} (K : kd t len a = 3) (h : dB t len (a + 1) = false) (k : Nat) (R : Nat → Int32) : false = rdK t len a ∧ a + 1 = rdA t len a ∧ upd (upd R (3 * k) (opV t len a)) (3 * k + 1) (dgV t len (a + 1)) = rdR t len a k R := by
  rw [rdK, rdA, rdR, K, h]
  exact ⟨rfl, rfl, rfl⟩
theorem rd_3t {t : Nat → Int32} {len a : Nat} (K : kd t len a = 3) (h : dB t len (a + 1) = true) (k : Nat) (R : Nat → Int32) : dB t len (a + 2) = rdK t len a ∧ accN (dB t len (a + 2)) (a + 2) = rdA t len a ∧ upd (upd (upd R (3 * k) (opV t len a)) (3 * k + 1) (dgV t len (a + 1))) (3 * k + 2) (dgV t len (a + 2)) = rdR t len a k R := by
  rw [rdK, rdA, rdR, K, h]
  exact ⟨rfl, rfl, rfl⟩
theorem rd_4 {t : Nat → Int32} {len a : Nat} (K : kd t len a = if cB t len a 114 = true then 4 else 0) (k : Nat) (R : Nat → Int32) : cB t len a 114 = rdK t len a ∧ accN (cB t len a 114) a = rdA t len a ∧ upd R (3 * k) (opV t len a) = rdR t len a k R := by
  cases h : cB t len a 114
  · rw [h] at K
    replace K : kd t len a = 0 := K
    rw [rdK, rdA, rdR, K]
    exact ⟨rfl, rfl, rfl⟩
  · rw [h] at K
    replace K : kd t len a = 4 := K
    rw [rdK, rdA, rdR, K]
    exact ⟨rfl, rfl, rfl⟩
theorem opV_T {t : Nat → Int32} {len a : Nat} (h : a < len) : opV t len a = t a := if_pos h
theorem opV_F {t : Nat → Int32} {len a : Nat} (h : ¬ a < len) : opV t len a = nI 0 := if_neg h
theorem faV_T {S : fS} (h : S.1 = true) : faV S = -1 := if_pos h
theorem faV_F {S : fS} (h : S.1 = false) : faV S = nI S.2.1 := by rw [faV, h]; rfl
theorem fl_F {t : Nat → Int32} {len n : Nat} {S : fS} (h : S.1 = false) : fl t len n S = S := by
  cases n
  · rfl
  · rw [fl, if_neg (fun z => by rw [h] at z; exact absurd z.1 (by decide))]
theorem fl_E {t : Nat → Int32} {len n : Nat} {S : fS} (h : len ≤ S.2.1) : fl t len n S = S := by
  cases n
  · rfl
  · rw [fl, if_neg (fun z => absurd z.2 (Nat.not_lt.mpr h))]
theorem fl_N {t : Nat → Int32} {len n : Nat} {S : fS} (h : S.1 = true) (h2 : S.2.1 < len) (h3 : cB t len S.2.1 59 = false) : fl t len (n + 1) S = (false, S.2) := by
  rw [fl, if_pos ⟨h, h2⟩, h3]
  rfl
theorem fl_S {t : Nat → Int32} {len n : Nat} {S : fS} (h : S.1 = true) (h2 : S.2.1 < len) (h3 : cB t len S.2.1 59 = true) : fl t len (n + 1) S = fl t len n (rdS t len (S.2.1 + 1) S.2.2.1 S.2.2.2) := by
  rw [fl, if_pos ⟨h, h2⟩, if_pos h3]
def fQ (q : mdQ) (S : fS) : mdQ := pq q S.2.1 S.2.2.1 S.2.2.2
theorem accN_k {c : Bool} {a a2 k : Nat} (h : 2 * k ≤ a) (h2 : a ≤ a2) (h3 : c = true → a < a2) : 2 * accN c k ≤ a2 + 1 := by
  unfold accN
  split
  · have := h3 ‹_›
    omega
  · omega
def faR0 (q : mdQ) (len : Nat) : Int32 := if faV (fE (q_pad q) len (q_read q)) < 0 then -6 else faV (fE (q_pad q) len (q_read q))
