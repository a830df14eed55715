/-! a state is kept -/
def rcN (nx : Nat) (r : Int32) : Nat := if 0 ≤ r then nxS nx else nx
def rcP (kp : Nat) (r : Int32) : Nat := if 0 ≤ r then kpS kp else kp
def rcG (G : Nat → Nat → Int32) (nx : Nat) (g : Nat → Int32) (r : Int32) : Nat → Nat → Int32 := if 0 ≤ r then upG G nx g else G
theorem upG_at (G : Nat → Nat → Int32) (j : Nat) (g : Nat → Int32) : upG G j g j = g := if_pos rfl
theorem mv_perm (w rm rr z rest : va_W) : ((w ++ ((rm ++ rr) ++ z)) ++ rest).Perm ((w ++ (rm ++ z)) ++ (rr ++ rest)) := by
  rw [List.append_assoc, List.append_assoc, List.append_assoc, List.append_assoc, List.append_assoc]
  exact List.Perm.append_left w (List.Perm.append_left rm (ap3 rr z rest))
theorem kp_perm {y : Nat → ClassId} {A : Nat → Nat → Nat} {G K : Nat → Nat → Int32} {Bs : List va_W} {w z : va_W} {i j k nx : Nat} (hi : Bs[i]? = some w) (hj : (Bs.eraseIdx i)[j]? = some (rgW y A G K 6)) (hk : ((Bs.eraseIdx i).eraseIdx j)[k]? = some z) (hn : nx < 6) : Bs.flatten.Perm ((w ++ (rmW y (A nx) (G nx) (K nx) ++ z)) ++ (rgR y A G K nx 6 ++ (((Bs.eraseIdx i).eraseIdx j).eraseIdx k).flatten)) :=
  ((fl_three hi hj hk).trans (List.Perm.append_right _ (List.Perm.append_left w (List.Perm.append_right z (rg_pick 6 hn))))).trans (mv_perm _ _ _ _ _)
theorem kp_perm2 {y : Nat → ClassId} {A : Nat → Nat → Nat} {G K : Nat → Nat → Int32} {Bs : List va_W} {w z : va_W} {i j k nx : Nat} {g : Nat → Int32} (hi : Bs[i]? = some w) (hj : (Bs.eraseIdx i)[j]? = some (rgW y A (upG G nx g) K 6)) (hk : ((Bs.eraseIdx i).eraseIdx j)[k]? = some z) (hn : nx < 6) : ((w ++ (rmW y (A nx) g (K nx) ++ z)) ++ (rgR y A G K nx 6 ++ (((Bs.eraseIdx i).eraseIdx j).eraseIdx k).flatten)).Perm Bs.flatten := by
  have h := kp_perm (y := y) (A := A) (G := upG G nx g) (K := K) hi hj hk hn
  rw [rgR_up, upG_at] at h
  exact h.symm
