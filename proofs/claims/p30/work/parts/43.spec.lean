/-! a world in blocks -/
theorem fl_pick {Bs : List va_W} {k : Nat} {x : va_W} (h : Bs[k]? = some x) : Bs.flatten.Perm (x ++ (Bs.eraseIdx k).flatten) := by
  induction Bs generalizing k with
  | nil => cases h
  | cons b Bs ih =>
    cases k with
    | zero =>
      have e : b = x := Option.some.inj h
      subst e
      exact List.Perm.refl _
    | succ k =>
      have i := ih (k := k) h
      show (b ++ Bs.flatten).Perm (x ++ (b ++ (Bs.eraseIdx k).flatten))
      refine List.Perm.trans (List.Perm.append_left b i) ?_
      rw [← List.append_assoc, ← List.append_assoc]
      exact List.Perm.append_right _ List.perm_append_comm
theorem fl_put {Bs : List va_W} {k : Nat} {x x' : va_W} (h : Bs[k]? = some x) : (x' ++ (Bs.eraseIdx k).flatten).Perm (Bs.set k x').flatten := by
  induction Bs generalizing k with
  | nil => cases h
  | cons b Bs ih =>
    cases k with
    | zero => exact List.Perm.refl _
    | succ k =>
      have i := ih (k := k) h
      show (x' ++ (b ++ (Bs.eraseIdx k).flatten)).Perm (b ++ (Bs.set k x').flatten)
      refine List.Perm.trans ?_ (List.Perm.append_left b i)
      rw [← List.append_assoc, ← List.append_assoc]
      exact List.Perm.append_right _ List.perm_append_comm
theorem ap3 (a b c : va_W) : (a ++ (b ++ c)).Perm (b ++ (a ++ c)) := by
  rw [← List.append_assoc, ← List.append_assoc]
  exact List.Perm.append_right _ List.perm_append_comm
/-- two blocks -/
theorem fl_two {Bs : List va_W} {j k : Nat} {x z : va_W} (hj : Bs[j]? = some x) (hk : (Bs.eraseIdx j)[k]? = some z) : Bs.flatten.Perm ((x ++ z) ++ ((Bs.eraseIdx j).eraseIdx k).flatten) := by
  rw [List.append_assoc]
  exact (fl_pick hj).trans (List.Perm.append_left x (fl_pick hk))
theorem fl_two2 {Bs : List va_W} {j k : Nat} {x x' z : va_W} (hj : Bs[j]? = some x) (hk : (Bs.eraseIdx j)[k]? = some z) : ((x' ++ z) ++ ((Bs.eraseIdx j).eraseIdx k).flatten).Perm (Bs.set j x').flatten := by
  rw [List.append_assoc]
  exact (List.Perm.append_left x' (fl_pick hk).symm).trans (fl_put hj)
/-- three blocks -/
theorem fl_three {Bs : List va_W} {i j k : Nat} {w x z : va_W} (hi : Bs[i]? = some w) (hj : (Bs.eraseIdx i)[j]? = some x) (hk : ((Bs.eraseIdx i).eraseIdx j)[k]? = some z) : Bs.flatten.Perm ((w ++ (x ++ z)) ++ (((Bs.eraseIdx i).eraseIdx j).eraseIdx k).flatten) := by
  rw [List.append_assoc]
  exact (fl_pick hi).trans (List.Perm.append_left w (fl_two hj hk))
theorem fl_three2 {Bs : List va_W} {i j k : Nat} {w w' x x' z : va_W} (hi : Bs[i]? = some w) (hj : (Bs.eraseIdx i)[j]? = some x) (hk : ((Bs.eraseIdx i).eraseIdx j)[k]? = some z) : ((w' ++ (x' ++ z)) ++ (((Bs.eraseIdx i).eraseIdx j).eraseIdx k).flatten).Perm (w' ++ ((Bs.eraseIdx i).set j x').flatten) := by
  rw [List.append_assoc]
  exact List.Perm.append_left w' (fl_two2 hj hk)
/-- the ring's rooms -/
def rgW (y : Nat → ClassId) (A : Nat → Nat → Nat) (G K : Nat → Nat → Int32) : Nat → va_W
  | 0 => []
  | n + 1 => rgW y A G K n ++ rmW y (A n) (G n) (K n)
def rgR (y : Nat → ClassId) (A : Nat → Nat → Nat) (G K : Nat → Nat → Int32) (j : Nat) : Nat → va_W
  | 0 => []
  | n + 1 => if n = j then rgR y A G K j n else rgR y A G K j n ++ rmW y (A n) (G n) (K n)
def upG (G : Nat → Nat → Int32) (j : Nat) (g : Nat → Int32) : Nat → Nat → Int32 := fun i => if i = j then g else G i
theorem rgR_out {y : Nat → ClassId} {A : Nat → Nat → Nat} {G K : Nat → Nat → Int32} {j : Nat} : ∀ n, n ≤ j → rgR y A G K j n = rgW y A G K n
  | 0, _ => rfl
  | n + 1, h => by rw [rgR, rgW, if_neg (by omega), rgR_out n (by omega)]
theorem rgR_up {y : Nat → ClassId} {A : Nat → Nat → Nat} {G K : Nat → Nat → Int32} {j : Nat} {g : Nat → Int32} : ∀ n, rgR y A (upG G j g) K j n = rgR y A G K j n
  | 0 => rfl
  | n + 1 => by
    rw [rgR, rgR, rgR_up n]
    by_cases e : n = j
    · rw [if_pos e, if_pos e]
    · rw [if_neg e, if_neg e, upG, if_neg e]
theorem rg_pick {y : Nat → ClassId} {A : Nat → Nat → Nat} {G K : Nat → Nat → Int32} {j : Nat} : ∀ n, j < n → (rgW y A G K n).Perm (rmW y (A j) (G j) (K j) ++ rgR y A G K j n)
  | 0, h => absurd h (by omega)
  | n + 1, h => by
    rw [rgW, rgR]
    by_cases e : n = j
    · subst e
      rw [if_pos rfl, rgR_out n (Nat.le_refl _)]
      exact List.perm_append_comm
    · rw [if_neg e, ← List.append_assoc]
      exact List.Perm.append_right _ (rg_pick n (by omega))
theorem rg_put {y : Nat → ClassId} {A : Nat → Nat → Nat} {G K : Nat → Nat → Int32} {j n : Nat} (h : j < n) (g : Nat → Int32) : (rmW y (A j) g (K j) ++ rgR y A G K j n).Perm (rgW y A (upG G j g) K n) := by
  have e := rg_pick (y := y) (A := A) (G := upG G j g) (K := K) n h
  rw [rgR_up, upG, if_pos rfl] at e
  exact e.symm
