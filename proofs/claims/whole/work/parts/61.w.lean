/-! the class carries out its text: its end -/
theorem upG_up (G : Nat → Nat → Int32) (j : Nat) (g g' : Nat → Int32) : upG (upG G j g) j g' = upG G j g' := by
  funext i
  by_cases e : i = j
  · show (if i = j then g' else upG G j g i) = if i = j then g' else G i
    rw [if_pos e, if_pos e]
  · show (if i = j then g' else if i = j then g else G i) = if i = j then g' else G i
    rw [if_neg e, if_neg e, if_neg e]
theorem oxS_y {t : Nat → Int32} {len n : Nat} {S : Nat × (Nat → Int32)} (h : 0 ≤ (obA t len S.2 S.1).1) : oxS t len (n + 1) S = oxS t len n (S.1 + 1, (obA t len S.2 S.1).2) := by rw [oxS, if_pos h]
theorem oxS_n {t : Nat → Int32} {len n : Nat} {S : Nat × (Nat → Int32)} (h : ¬ 0 ≤ (obA t len S.2 S.1).1) : oxS t len (n + 1) S = (S.1, (obA t len S.2 S.1).2) := by rw [oxS, if_neg h]
def oxE (t : Nat → Int32) (len : Nat) (f : Nat → Int32) : Nat × (Nat → Int32) := oxS t len (cnt (semi t) len + 1) (0, f)
theorem oxS_le {t : Nat → Int32} {len : Nat} : ∀ n S, (oxS t len n S).1 ≤ S.1 + n
  | 0, S => Nat.le_refl _
  | n + 1, S => by
    rw [oxS]
    split
    · have := oxS_le (t := t) (len := len) n (S.1 + 1, (obA t len S.2 S.1).2)
      have e : (S.1 + 1, (obA t len S.2 S.1).2).1 = S.1 + 1 := rfl
      omega
    · show S.1 ≤ _
      omega
theorem oxE_le (t : Nat → Int32) (len : Nat) (f : Nat → Int32) : (oxE t len f).1 ≤ len + 1 := by
  have := oxS_le (t := t) (len := len) (cnt (semi t) len + 1) (0, f)
  have h := cnt_le (semi t) len
  have e : ((0, f) : Nat × (Nat → Int32)).1 = 0 := rfl
  rw [oxE]
  omega
