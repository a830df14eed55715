/-! a state is taken back -/
theorem kp_permB {y : Nat → ClassId} {A : Nat → Nat → Nat} {G K : Nat → Nat → Int32} {Bs : List va_W} {w z : va_W} {i j k nx : Nat} (hi : Bs[i]? = some w) (hj : (Bs.eraseIdx i)[j]? = some (rgW y A G K 6)) (hk : ((Bs.eraseIdx i).eraseIdx j)[k]? = some z) (hn : nx < 6) : Bs.flatten.Perm ((w ++ (z ++ rmW y (A nx) (G nx) (K nx))) ++ (rgR y A G K nx 6 ++ (((Bs.eraseIdx i).eraseIdx j).eraseIdx k).flatten)) :=
  (kp_perm hi hj hk hn).trans (List.Perm.append_right _ (List.Perm.append_left w List.perm_append_comm))
