/-! the text's words -/
def sgA (t : Nat → Int32) (len i : Nat) : Int32 := if i < len then t i else nI 0
def dgB (x : Int32) : Bool := decide (nI 48 ≤ x) && decide (x ≤ nI 57)
theorem dgB_1 {x : Int32} (h : x < nI 48) : dgB x = false := by
  rw [dgB, decide_eq_false (Int32.not_le.mpr h)]
  rfl
theorem dgB_2 {x : Int32} (h : nI 57 < x) : dgB x = false := by
  rw [dgB, decide_eq_false (Int32.not_le.mpr h)]
  exact Bool.and_false _
theorem dgB_T {x : Int32} (h1 : nI 48 ≤ x) (h2 : x ≤ nI 57) : dgB x = true := by
  rw [dgB, decide_eq_true h1, decide_eq_true h2]
  rfl
def dgA (t : Nat → Int32) (len i : Nat) : Int32 := if dgB (sgA t len i) = true then sgA t len i - nI 48 else -6
def nuM (t : Nat → Int32) (len i : Nat) : Int32 := if dgA t len (i + 1) < 0 then dgA t len i else nI 10 * dgA t len i + dgA t len (i + 1)
theorem sgA_T {t : Nat → Int32} {len i : Nat} (h : i < len) : sgA t len i = t i := if_pos h
theorem sgA_F {t : Nat → Int32} {len i : Nat} (h : ¬ i < len) : sgA t len i = nI 0 := if_neg h
def semi (t : Nat → Int32) : Nat → Bool := fun i => decide (t i = nI 59)
/-- where an order starts -/
def soN (t : Nat → Int32) : Nat → Nat → Nat → Nat
  | 0, i, _ => i
  | n + 1, i, k => if k = 0 then i else soN t n (i + 1) (if t i = nI 59 then k - 1 else k)
def dlN (x : Int32) : Nat := if x = nI 103 ∨ x = nI 116 then 3 else if x = nI 120 ∨ x = nI 119 then 2 else if x = nI 98 ∨ x = nI 111 then 1 else if x = nI 114 then 5 else 6
def duN (d : Nat) (x : Int32) : Nat := if d = 0 then dlN x else if d = 1 then (if dgB x = true then 2 else 6) else if d = 2 then (if dgB x = true then 5 else 6) else if d = 3 then (if x = nI 48 then 5 else if dgB x = true then 4 else 6) else if d = 4 then (if dgB x = true then 5 else if x = nI 59 then 0 else 6) else if d = 5 then (if x = nI 59 then 0 else 6) else 6
theorem dlN_le (x : Int32) : dlN x ≤ 6 := by
  unfold dlN
  repeat' split
  all_goals omega
theorem duN_le (d : Nat) (x : Int32) : duN d x ≤ 6 := by
  unfold duN
  have := dlN_le x
  repeat' split
  all_goals omega
def ffN (t : Nat → Int32) (len : Nat) : Nat → Nat → Nat → Int32
  | 0, _, d => if d = 5 ∨ d = 4 then -6 else nI len
  | n + 1, i, d => if duN d (t i) = 6 then nI i else ffN t len n (i + 1) (duN d (t i))
def ffR (t : Nat → Int32) (len : Nat) : Int32 := ffN t len len 0 0
theorem x_sw2 (m n : Nat) (hn : n < 2 ^ 31) (x : Int32) : (x.toInt < (m : Int) ∨ (n : Int) < x.toInt) ∨ ∃ k : Nat, m ≤ k ∧ k ≤ n ∧ x = nI k := by
  rcases x_sw n hn x with h | ⟨k, hk, rfl⟩
  · exact Or.inl (by omega)
  · by_cases c : m ≤ k
    · exact Or.inr ⟨k, c, hk, rfl⟩
    · exact Or.inl (Or.inl (by rw [nI_toInt (by omega)]; omega))
theorem x_out2 {m n : Nat} {x : Int32} (h : x.toInt < (m : Int) ∨ (n : Int) < x.toInt) {k : Nat} (hm : m ≤ k) (hk : k ≤ n) (hn : n < 2 ^ 31) : ¬ x = nI k := by
  intro e
  rw [e, nI_toInt (by omega)] at h
  omega
theorem dlN_out {x : Int32} (h : x.toInt < (98 : Int) ∨ (120 : Int) < x.toInt) : dlN x = 6 := by
  have f : ∀ k : Nat, 98 ≤ k → k ≤ 120 → ¬ x = nI k := fun k a b => x_out2 (m := 98) (n := 120) h a b (by decide)
  rw [dlN, if_neg (fun z => z.elim (f 103 (by decide) (by decide)) (f 116 (by decide) (by decide))), if_neg (fun z => z.elim (f 120 (by decide) (by decide)) (f 119 (by decide) (by decide))), if_neg (fun z => z.elim (f 98 (by decide) (by decide)) (f 111 (by decide) (by decide))), if_neg (f 114 (by decide) (by decide))]
/-- the characters from the back -/
def chB (t : Nat → Int32) (n len k j : Nat) : Nat → Int32 := fun i => if len + k - j ≤ i ∧ i < len + k then chC n (k - 1 - (i - len)) else t i
theorem chB_0 (t : Nat → Int32) (n len k : Nat) : chB t n len k 0 = t := by
  funext i
  rw [chB, if_neg (by omega)]
theorem chB_s (t : Nat → Int32) {n len k j : Nat} (h : j < k) : upd (chB t n len k j) (len + k - 1 - j) (chC n j) = chB t n len k (j + 1) := by
  funext i
  by_cases e : i = len + k - 1 - j
  · rw [upd_is e, chB, if_pos (by omega), e, show k - 1 - (len + k - 1 - j - len) = j by omega]
  · rw [upd_ne e, chB, chB]
    by_cases l : len + k - j ≤ i ∧ i < len + k
    · rw [if_pos l, if_pos (by omega)]
    · rw [if_neg l, if_neg (by omega)]
theorem chB_k (t : Nat → Int32) (n len k : Nat) : chB t n len k k = chF t n len k k := by
  funext i
  rw [chB, chF, Nat.add_sub_cancel]
theorem ck_z {n k : Nat} : ∀ m, n % 256 = 0 → ck m n k = if n = 0 ∨ m = 0 then k else 0
  | 0, _ => by rw [ck, if_pos (Or.inr rfl)]
  | m + 1, h => by
    rw [ck]
    by_cases c : n = 0
    · rw [if_pos c, if_pos (Or.inl c)]
    · rw [if_neg c, if_pos (Or.inl (by omega)), if_neg (fun z => z.elim c (by omega))]
theorem du1f {x : Int32} (h : dgB x = false) : nI 6 = nI (duN 1 x) := by
  show nI 6 = nI (if dgB x = true then 2 else 6)
  rw [if_neg (by rw [h]; decide)]
theorem du1t {x : Int32} (h : dgB x = true) : nI 2 = nI (duN 1 x) := by
  show nI 2 = nI (if dgB x = true then 2 else 6)
  rw [if_pos h]
theorem du2f {x : Int32} (h : dgB x = false) : nI 6 = nI (duN 2 x) := by
  show nI 6 = nI (if dgB x = true then 5 else 6)
  rw [if_neg (by rw [h]; decide)]
theorem du2t {x : Int32} (h : dgB x = true) : nI 5 = nI (duN 2 x) := by
  show nI 5 = nI (if dgB x = true then 5 else 6)
  rw [if_pos h]
theorem du3z {x : Int32} (h : x = nI 48) : nI 5 = nI (duN 3 x) := by
  show nI 5 = nI (if x = nI 48 then 5 else if dgB x = true then 4 else 6)
  rw [if_pos h]
theorem du3f {x : Int32} (h0 : ¬ x = nI 48) (h : dgB x = false) : nI 6 = nI (duN 3 x) := by
  show nI 6 = nI (if x = nI 48 then 5 else if dgB x = true then 4 else 6)
  rw [if_neg h0, if_neg (by rw [h]; decide)]
theorem du3t {x : Int32} (h0 : ¬ x = nI 48) (h : dgB x = true) : nI 4 = nI (duN 3 x) := by
  show nI 4 = nI (if x = nI 48 then 5 else if dgB x = true then 4 else 6)
  rw [if_neg h0, if_pos h]
theorem du4t {x : Int32} (h : dgB x = true) : nI 5 = nI (duN 4 x) := by
  show nI 5 = nI (if dgB x = true then 5 else if x = nI 59 then 0 else 6)
  rw [if_pos h]
theorem du4f {x : Int32} (h : dgB x = false) (h0 : ¬ x = nI 59) : nI 6 = nI (duN 4 x) := by
  show nI 6 = nI (if dgB x = true then 5 else if x = nI 59 then 0 else 6)
  rw [if_neg (by rw [h]; decide), if_neg h0]
theorem du4s {x : Int32} (h : dgB x = false) (h0 : x = nI 59) : nI 0 = nI (duN 4 x) := by
  show nI 0 = nI (if dgB x = true then 5 else if x = nI 59 then 0 else 6)
  rw [if_neg (by rw [h]; decide), if_pos h0]
theorem du5f {x : Int32} (h0 : ¬ x = nI 59) : nI 6 = nI (duN 5 x) := by
  show nI 6 = nI (if x = nI 59 then 0 else 6)
  rw [if_neg h0]
theorem du5s {x : Int32} (h0 : x = nI 59) : nI 0 = nI (duN 5 x) := by
  show nI 0 = nI (if x = nI 59 then 0 else 6)
  rw [if_pos h0]
theorem m1_sub (a : Nat) : nI a - nI 1 = nI (a - 0) + (-1) := by
  rw [Nat.sub_zero, Int32.sub_eq_add_neg]
  rfl
theorem m1_lt {a : Nat} (h : a < 2 ^ 31) : nI a + (-1) < nI a := by
  cases a with
  | zero => decide
  | succ a =>
    rw [pk_m1]
    exact nI_lt (by omega) h
theorem nI_lt_no {a b : Nat} (h : a ≤ b) (hb : b < 2 ^ 31) : ¬ nI b < nI a := Int32.not_lt.mpr (nI_le h hb)
