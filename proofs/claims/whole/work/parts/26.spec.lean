/-! pasted from the kit's laws (BITS) -/
theorem wb_tb (n : Nat) : (lN n).toBitVec = BitVec.ofNat 64 n := rfl
theorem wb_inj {a b : Int64} (h : a.toBitVec = b.toBitVec) : a = b := Int64.toBitVec_inj.mp h
theorem wb_tn {n : Nat} (h : n < 2 ^ 64) : (lN n).toBitVec.toNat = n := by rw [wb_tb, BitVec.toNat_ofNat, Nat.mod_eq_of_lt h]
theorem wb_of (x : Int64) : ∃ n, n < 2 ^ 64 ∧ x = lN n := ⟨x.toBitVec.toNat, x.toBitVec.isLt, wb_inj (by rw [wb_tb]; simp)⟩
theorem wb_cu : ∀ k, k < 64 → ((nI k).toInt64.toUInt64 &&& Int64.toUInt64 63) = UInt64.ofNat k := by decide +kernel
theorem wb_lt2 {a b : Nat} (h : a < b) : 2 ^ a < 2 ^ b := Nat.pow_lt_pow_right (by decide) h
theorem wb_shr {n k : Nat} (hn : n < 2 ^ 64) (hk : k < 64) : ((lN n).toUInt64 >>> ((nI k).toInt64.toUInt64 &&& Int64.toUInt64 63)).toInt64 = lN (n / 2 ^ k) := by
  rw [wb_cu k hk]
  apply wb_inj
  apply BitVec.eq_of_toNat_eq
  show ((lN n).toUInt64 >>> UInt64.ofNat k).toNat = (BitVec.ofNat 64 _).toNat
  have h1 : (UInt64.ofNat k).toNat = k := by
    show (BitVec.ofNat 64 k).toNat = k
    rw [BitVec.toNat_ofNat, Nat.mod_eq_of_lt (by omega)]
  have h2 : (lN n).toUInt64.toNat = n := wb_tn hn
  rw [UInt64.toNat_shiftRight, h1, h2, Nat.mod_eq_of_lt hk, Nat.shiftRight_eq_div_pow, BitVec.toNat_ofNat, Nat.mod_eq_of_lt (Nat.lt_of_le_of_lt (Nat.div_le_self _ _) hn)]
theorem wb_and {a b : Nat} (ha : a < 2 ^ 64) (hb : b < 2 ^ 64) : lN a &&& lN b = lN (a &&& b) := by
  apply wb_inj
  rw [Int64.toBitVec_and, wb_tb, wb_tb, wb_tb]
  apply BitVec.eq_of_toNat_eq
  rw [BitVec.toNat_and, BitVec.toNat_ofNat, BitVec.toNat_ofNat, BitVec.toNat_ofNat, Nat.mod_eq_of_lt ha, Nat.mod_eq_of_lt hb, Nat.mod_eq_of_lt (Nat.and_lt_two_pow _ hb)]
theorem wb_mask {n k : Nat} (hn : n < 2 ^ 64) (hk : k < 64) : lN n &&& lN (2 ^ k - 1) = lN (n % 2 ^ k) := by
  rw [wb_and hn (by have := wb_lt2 hk; omega), Nat.and_two_pow_sub_one_eq_mod]
/-! characters out of a number -/
theorem l255 {n : Nat} (hn : n < 2 ^ 64) : lN n &&& 255 = lN (n % 256) := wb_mask (k := 8) hn (by decide)
theorem l_eq {a b : Nat} (ha : a < 2 ^ 64) (hb : b < 2 ^ 64) : lN a = lN b ↔ a = b := by
  constructor
  · intro h
    have := congrArg (fun x => x.toBitVec.toNat) h
    simp only [wb_tn ha, wb_tn hb] at this
    exact this
  · intro h
    rw [h]
theorem p256 (k : Nat) : 2 ^ (8 * k) = 256 ^ k := by rw [Nat.pow_mul]
theorem l_sh8 {n : Nat} (hn : n < 2 ^ 64) : ((lN n).toUInt64 >>> ((nI 8).toInt64.toUInt64 &&& Int64.toUInt64 63)).toInt64 = lN (n / 256) := wb_shr (k := 8) hn (by decide)
theorem dv_lt {n d : Nat} (hn : n < 2 ^ 64) : n / d < 2 ^ 64 := Nat.lt_of_le_of_lt (Nat.div_le_self _ _) hn
/-- how many characters; 0: they may not be put -/
def ck : Nat → Nat → Nat → Nat
  | 0, _, k => k
  | m + 1, n, k => if n = 0 then k else if n % 256 < 33 ∨ 126 < n % 256 then 0 else ck m (n / 256) (k + 1)
theorem ck_le : ∀ m n k, ck m n k ≤ k + m
  | 0, _, k => Nat.le_refl _
  | m + 1, n, k => by
    rw [ck]
    split
    · omega
    · split
      · omega
      · have := ck_le m (n / 256) (k + 1)
        omega
def chC (n i : Nat) : Int32 := nI (n / 256 ^ i % 256)
/-- k characters of n, behind len others; the first j of them -/
def chF (t : Nat → Int32) (n len k j : Nat) : Nat → Int32 := fun i => if len ≤ i ∧ i < len + j then chC n (k - 1 - (i - len)) else t i
def puR (n len : Nat) : Int32 := if ck 8 n 0 = 0 then -2 else if 80 < len + ck 8 n 0 then -4 else nI (len + ck 8 n 0)
def puN (n len : Nat) : Nat := if ck 8 n 0 = 0 then len else if 80 < len + ck 8 n 0 then len else len + ck 8 n 0
def puT (t : Nat → Int32) (n len : Nat) : Nat → Int32 := if ck 8 n 0 = 0 then t else if 80 < len + ck 8 n 0 then t else chF t n len (ck 8 n 0) (ck 8 n 0)
theorem chF_0 (t : Nat → Int32) (n len k : Nat) : chF t n len k 0 = t := by
  funext i
  rw [chF, if_neg (by omega)]
theorem chF_s (t : Nat → Int32) (n len k j : Nat) : upd (chF t n len k j) (len + j) (chC n (k - 1 - j)) = chF t n len k (j + 1) := by
  funext i
  by_cases e : i = len + j
  · rw [upd_is e, chF, if_pos (by omega), e, Nat.add_sub_cancel_left]
  · rw [upd_ne e, chF, chF]
    by_cases l : len ≤ i ∧ i < len + j
    · rw [if_pos l, if_pos (by omega)]
    · rw [if_neg l, if_neg (by omega)]
theorem l_ne0 {n : Nat} (hn : n < 2 ^ 64) : lg_cmp (lN n) 0 = 0 ↔ n = 0 := by
  rw [lg_cmp_eq]
  exact l_eq hn (by decide)
theorem l_lo {n : Nat} (hn : n < 256) : lg_cmp (lN n) 33 < 0 ↔ n < 33 := by
  rw [lg_cmp_lt]
  exact lN_lt (b := 33) (by omega) (by decide)
theorem l_hi {n : Nat} (hn : n < 256) : lg_cmp (lN n) 126 ≤ 0 ↔ ¬ 126 < n := by
  rw [lg_cmp_le]
  exact (lN_le (b := 126) (by omega) (by decide)).trans Nat.not_lt.symm
theorem ck_8 {n k : Nat} (h : n < 2 ^ 64) : n / 256 ^ 8 = 0 := Nat.div_eq_of_lt (by omega)
theorem c_nar {n : Nat} (h : n < 256) : vp_nar .char (nI n) = nI n := by
  have := (pk_charN (q := n) (by omega)).1
  unfold vp_nar
  rw [this]
theorem c_i2c {n : Nat} (h : n < 256) : ((nI n).toUInt32 % 65536).toInt32 = nI n := by
  rw [pk_char, pk_tn (by omega), Nat.mod_eq_of_lt (by omega)]
theorem dv_s (n i : Nat) : n / 256 ^ (i + 1) = n / 256 ^ i / 256 := by rw [Nat.pow_succ, Nat.div_div_eq_div_mul]
/-- the pad put back: what a slot holds -/
def svF (S : Nat → Int32) (k : Nat) : Nat → Int32 := fun i => S (166 * k + i)
def unQ (q : mdQ) (st : Nat) : mdQ := if st = 0 then q else qs_states q (nI (st - 1))
def unS (s : Nat → Int32) (q : mdQ) (st : Nat) : Nat → Int32 := if st = 0 then s else svF (q_before q) (st - 1)
def unR (st : Nat) : Int32 := if st = 0 then -5 else nI (st - 1)
def s01 (x : Int32) : Bool := inB x (nI 0) (nI 1)
theorem s01_t {x : Int32} (h : s01 x = true) : ∃ k : Nat, k < 2 ∧ x = nI k := by
  obtain ⟨a, b⟩ := inB_t h
  exact x_is (by decide) (Int32.not_lt.mpr a) (fun z => absurd (Int32.le_trans z b) (by decide))
theorem s01_n {k : Nat} (h : k < 2) : s01 (nI k) = true := by
  rcases (by omega : k = 0 ∨ k = 1) with rfl | rfl <;> rfl
def saQ (s : Nat → Int32) (q : mdQ) (x : Int32) : mdQ := if s01 x = true then qs_isSaved (qs_saved q (plF (q_saved q) s x.toNatClampNeg 166)) (upd (q_isSaved q) x.toNatClampNeg (nI 1)) else q
def saR (s : Nat → Int32) (x : Int32) : Int32 := if s01 x = true then nI (ng s) else -2
def rsB (q : mdQ) (x : Int32) : Bool := s01 x && decide (¬ q_isSaved q x.toNatClampNeg = 0)
def rsR (q : mdQ) (x : Int32) : Int32 := if s01 x = true then (if q_isSaved q x.toNatClampNeg = 0 then -5 else nI (ng (svF (q_saved q) x.toNatClampNeg))) else -2
def rsS (s : Nat → Int32) (q : mdQ) (x : Int32) : Nat → Int32 := if rsB q x = true then svF (q_saved q) x.toNatClampNeg else s
def rsQ (s : Nat → Int32) (q : mdQ) (st : Nat) (x : Int32) : mdQ := if rsB q x = true then reQ (qs_spare q s) st else q
def irQ (s : Nat → Int32) (c : Nat) (q : mdQ) (x : Int32) : mdQ := if inB x (nI 0) (nI 2) = true ∧ ¬ ng s = 0 then goQ s c (qs_trial q s) else q
def puQ (q : mdQ) (n len : Nat) : mdQ := qs_length (qs_pad q (puT (q_pad q) n len)) (nI (puN n len))
/-- a counter that goes down from m - 1 -/
def dk (m j : Nat) : Int32 := if j < m then nI (m - 1 - j) else -1
theorem dk_in {m j : Nat} (h : j < m) : dk m j = nI (m - 1 - j) := if_pos h
theorem dk_0 {m : Nat} (h : 0 < m) : dk m 0 = nI (m - 1) := if_pos h
theorem dk_end (m : Nat) : dk m m < 0 := by
  rw [dk, if_neg (Nat.lt_irrefl m)]
  decide
theorem dk_s {m j : Nat} (h : j < m) : nI (m - 1 - j) + Int32.ofInt (-1) = dk m (j + 1) := by
  by_cases e : j + 1 < m
  · rw [dk_in e, show m - 1 - j = (m - 1 - (j + 1)) + 1 by omega]
    exact pk_m1 _
  · rw [dk, if_neg e, show m - 1 - j = 0 by omega]
    rfl
