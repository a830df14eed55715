theorem nI_lt_no {a b : Nat} (h : a ≤ b) (hb : b < 2 ^ 31) : ¬ nI b < nI a := Int32.not_lt.mpr (nI_le h hb)
/-! what if -/
theorem upG_self (G : Nat → Nat → Int32) (j : Nat) : upG G j (G j) = G := by
  funext i
  by_cases e : i = j
  · rw [upG, if_pos e, e]
  · rw [upG, if_neg e]
def siX (f : Nat → Int32) (g : Nat) (v : Int32) : Nat → Nat → Int32
  | 0, _ => -6
  | n + 1, k => if nI (rk (biF f k) g) ≤ v then nI k else siX f g v n (k + 1)
theorem siR_X (f : Nat → Int32) (g : Nat) (v : Int32) : ∀ n k, siR f g v n k = siX f g v (n + 1) k
  | 0, k => by rw [siR, siX, siX]
  | n + 1, k => by rw [siR, siX, siR_X f g v n (k + 1)]
theorem stB_1 {f : Nat → Int32} {x z : Int32} (h : hx f x = false) : stB f x z = false := by
  rw [stB, h]
  rfl
theorem stB_2 {f : Nat → Int32} {x z : Int32} (h : z < 0) : stB f x z = false := by
  rw [stB, inB_l (show z < nI 0 from h)]
  exact Bool.and_false _
theorem stB_3 {f : Nat → Int32} {x z : Int32} (h0 : 0 ≤ z) (h : nI (ng f) ≤ z) : stB f x z = false := by
  have hn := ng_le f
  have k : nI (ng f) - nI 1 < z := by
    by_cases e : ng f = 0
    · rw [e]
      exact Int32.lt_of_lt_of_le (by decide) h0
    · rw [pk_sub (show 1 ≤ ng f by omega)]
      exact Int32.lt_of_lt_of_le (nI_lt (show ng f - 1 < ng f by omega) (by omega)) h
  rw [stB, inB_h k]
  exact Bool.and_false _
theorem stB_T {f : Nat → Int32} {x z : Int32} (hh : hx f x = true) (h0 : ¬ z < 0) (h : z < nI (ng f)) : stB f x z = true := by
  have hn := ng_le f
  obtain ⟨w, hw, rfl⟩ := x_is (n := ng f) (by omega) h0 (Int32.not_le.mpr h)
  rw [stB, hh, pk_sub (show 1 ≤ ng f by omega), inB_T (show nI 0 ≤ nI w from nI_le (Nat.zero_le _) (by omega)) (nI_le (by omega) (by omega))]
  rfl
