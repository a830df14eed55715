def eI (o : Nat) (a1 a2 a3 : Nat → Nat) (s0 : Nat) (a5 : Nat → Nat) (s1 : Nat) (a7 h p : Nat → Nat) : Nat → Nat → Nat := fun i => if i = 0 then fun _ => o else if i = 1 then a1 else if i = 2 then a2 else if i = 3 then a3 else if i = 4 then fun _ => s0 else if i = 5 then a5 else if i = 6 then fun _ => s1 else if i = 7 then a7 else if i = 8 then h else p
theorem mk_perm (w1 T : va_W) (x : Nat × va_E) : (w1 ++ ([x] ++ T)).Perm ([x] ++ (T ++ w1)) := by
  rw [← List.append_assoc [x]]
  exact List.perm_append_comm

theorem k_X5_init : zCal yX5_init wsX5_init cX5_init 1 none 0 := ⟨⟨_, rfl⟩, by decide +kernel⟩
theorem in_X5_init_X5 : ∀ w ∈ wsX50, w ∈ wsX5_init := fun _ h => List.mem_cons_of_mem _ (List.mem_append_left _ (List.mem_append_left _ (List.mem_append_left _ (List.mem_append_left _ (List.mem_append_right _ h)))))
theorem in_X5_init_X3 : ∀ w ∈ wsX30, w ∈ wsX5_init := fun _ h => List.mem_cons_of_mem _ (List.mem_append_left _ (List.mem_append_left _ (List.mem_append_left _ (List.mem_append_left _ (List.mem_append_left _ (List.mem_append_right _ h))))))
theorem in_X5_init_X4 : ∀ w ∈ wsX40, w ∈ wsX5_init := fun _ h => List.mem_cons_of_mem _ (List.mem_append_left _ (List.mem_append_left _ (List.mem_append_left _ (List.mem_append_right _ h))))
theorem in_X5_init_X1 : ∀ w ∈ wsX10, w ∈ wsX5_init := fun _ h => List.mem_cons_of_mem _ (List.mem_append_left _ (List.mem_append_left _ (List.mem_append_right _ h)))
theorem in_X5_init_X2 : ∀ w ∈ wsX20, w ∈ wsX5_init := fun _ h => List.mem_cons_of_mem _ (List.mem_append_left _ (List.mem_append_right _ h))
set_option maxHeartbeats 4000000 in
set_option maxRecDepth 100000 in
theorem c_X5_init (l : Launch) (D : va_G) (y : Nat → ClassId) (o : Nat) : zMvI l D y yX5_init wsX5_init ({ frames := 4, cells := 138, slots := 2042, locals := 73 }) [.ref o] [(o, .inr (5, [.null, .null, .null, .null, .null, .null, .null]))] (fun w => ∃ e A : Nat → Nat → Nat, e 0 0 = o ∧ w = tsW y e A (fun _ => iF) (fun _ => zF) false false 0 0 (fun _ => iF) (fun _ => zF) zF 0) := by
  refine zMvI.mk (cc := cX5_init) (maxL := 1) (lv := [(0, .ref o)]) (by decide) rfl rfl (Nat.le_of_ble_eq_true rfl) rfl (fun X G hI hI2 hE => ?_)
  refine z_aload_n G dX5_init_0 0 rfl ?_
  refine z_objI G (List.mem_of_getElem? (i := 1) rfl) (List.mem_of_getElem? (i := 2) rfl) (List.mem_of_getElem? (i := 3) rfl) (Nat.le_of_ble_eq_true rfl) (Nat.le_of_ble_eq_true rfl) dX5_init_1 ?_
  refine z_world (ws' := [(o, .inr (5, [.null, .null, .null, .null, .null, .null, .null]))] ++ []) rfl ?_
  refine z_aload_n G dX5_init_4 0 rfl ?_
  refine z_new (k' := 1) (n' := 14) (ci := 3) G in_X5_init_X3 tyX3 tyX3_ok (List.mem_of_getElem? (i := 4) rfl) (List.mem_of_getElem? (i := 5) rfl) (List.mem_of_getElem? (i := 6) rfl) rfl [.null, .null, .null, .null, .null, .null, .null, .null, .int (nI 0), .int (nI 0), .int (nI 0), .int (nI 0), .int (nI 0), .null] nw_X3 rfl rfl (Nat.le_of_ble_eq_true rfl) (Nat.le_of_ble_eq_true rfl) dX5_init_5 (fun q0 => ?_)
  refine z_dup G dX5_init_8 rfl ?_
  refine z_perm List.perm_append_comm ?_
  refine z_callIN (k' := 12) (n' := 177) G hI (As := []) (fun l => c_X3_init l D y q0) k_X3_init gX5_init_X3_init_n9 (List.mem_of_getElem? (i := 6) rfl) (host := "TeaSeats") (fun U h => h.2.1) (List.mem_of_getElem? (i := 23) rfl) rfl dX5_init_9 ⟨by decide, by decide⟩ rfl rfl (Nat.le_of_ble_eq_true rfl) (Nat.le_of_ble_eq_true rfl) rfl (Nat.le_of_ble_eq_true rfl) _ rfl (fun w1 hw => ?_)
  obtain ⟨a1, rfl, rfl⟩ := hw
  refine z_perm (mk_perm _ _ _) ?_
  refine z_world (ws' := [(o, .inr (5, [.null, .null, .null, .null, .null, .null, .null]))] ++ rmW y a1 iF zF) (by simp only [List.append_assoc, List.nil_append]) ?_
  refine z_putF (own := RX5) G hI2 in_X5_init_X5 tyX5 tyX5_ok nmX5 0 rfl rfl 0 (by decide) (List.mem_of_getElem? (i := 7) rfl) rfl rfl (ty := .object "TeaSeats$Room") (by decide +kernel) rfl rfl (Nat.le_of_ble_eq_true rfl) dX5_init_12 _ rfl ?_
  refine z_world (ws' := [(o, .inr (5, [.ref (a1 0), .null, .null, .null, .null, .null, .null]))] ++ rmW y a1 iF zF) rfl ?_
  refine z_aload_n G dX5_init_15 0 rfl ?_
  refine z_new (k' := 13) (n' := 191) (ci := 3) G in_X5_init_X3 tyX3 tyX3_ok (List.mem_of_getElem? (i := 4) rfl) (List.mem_of_getElem? (i := 5) rfl) (List.mem_of_getElem? (i := 6) rfl) rfl [.null, .null, .null, .null, .null, .null, .null, .null, .int (nI 0), .int (nI 0), .int (nI 0), .int (nI 0), .int (nI 0), .null] nw_X3 rfl rfl (Nat.le_of_ble_eq_true rfl) (Nat.le_of_ble_eq_true rfl) dX5_init_16 (fun q1 => ?_)
  refine z_dup G dX5_init_19 rfl ?_
  refine z_perm List.perm_append_comm ?_
  refine z_callIN (k' := 24) (n' := 354) G hI (As := []) (fun l => c_X3_init l D y q1) k_X3_init gX5_init_X3_init_n9 (List.mem_of_getElem? (i := 6) rfl) (host := "TeaSeats") (fun U h => h.2.1) (List.mem_of_getElem? (i := 23) rfl) rfl dX5_init_20 ⟨by decide, by decide⟩ rfl rfl (Nat.le_of_ble_eq_true rfl) (Nat.le_of_ble_eq_true rfl) rfl (Nat.le_of_ble_eq_true rfl) _ rfl (fun w1 hw => ?_)
  obtain ⟨a2, rfl, rfl⟩ := hw
  refine z_perm (mk_perm _ _ _) ?_
  refine z_world (ws' := [(o, .inr (5, [.ref (a1 0), .null, .null, .null, .null, .null, .null]))] ++ (rmW y a1 iF zF ++ rmW y a2 iF zF)) (by simp only [List.append_assoc, List.nil_append]) ?_
  refine z_putF (own := RX5) G hI2 in_X5_init_X5 tyX5 tyX5_ok nmX5 0 rfl rfl 1 (by decide) (List.mem_of_getElem? (i := 8) rfl) rfl rfl (ty := .object "TeaSeats$Room") (by decide +kernel) rfl rfl (Nat.le_of_ble_eq_true rfl) dX5_init_23 _ rfl ?_
  refine z_world (ws' := [(o, .inr (5, [.ref (a1 0), .ref (a2 0), .null, .null, .null, .null, .null]))] ++ (rmW y a1 iF zF ++ rmW y a2 iF zF)) rfl ?_
  refine z_aload_n G dX5_init_26 0 rfl ?_
  refine z_new (k' := 25) (n' := 368) (ci := 3) G in_X5_init_X3 tyX3 tyX3_ok (List.mem_of_getElem? (i := 4) rfl) (List.mem_of_getElem? (i := 5) rfl) (List.mem_of_getElem? (i := 6) rfl) rfl [.null, .null, .null, .null, .null, .null, .null, .null, .int (nI 0), .int (nI 0), .int (nI 0), .int (nI 0), .int (nI 0), .null] nw_X3 rfl rfl (Nat.le_of_ble_eq_true rfl) (Nat.le_of_ble_eq_true rfl) dX5_init_27 (fun q2 => ?_)
  refine z_dup G dX5_init_30 rfl ?_
  refine z_perm List.perm_append_comm ?_
  refine z_callIN (k' := 36) (n' := 531) G hI (As := []) (fun l => c_X3_init l D y q2) k_X3_init gX5_init_X3_init_n9 (List.mem_of_getElem? (i := 6) rfl) (host := "TeaSeats") (fun U h => h.2.1) (List.mem_of_getElem? (i := 23) rfl) rfl dX5_init_31 ⟨by decide, by decide⟩ rfl rfl (Nat.le_of_ble_eq_true rfl) (Nat.le_of_ble_eq_true rfl) rfl (Nat.le_of_ble_eq_true rfl) _ rfl (fun w1 hw => ?_)
  obtain ⟨a3, rfl, rfl⟩ := hw
  refine z_perm (mk_perm _ _ _) ?_
  refine z_world (ws' := [(o, .inr (5, [.ref (a1 0), .ref (a2 0), .null, .null, .null, .null, .null]))] ++ (rmW y a1 iF zF ++ (rmW y a2 iF zF ++ rmW y a3 iF zF))) (by simp only [List.append_assoc, List.nil_append]) ?_
  refine z_putF (own := RX5) G hI2 in_X5_init_X5 tyX5 tyX5_ok nmX5 0 rfl rfl 2 (by decide) (List.mem_of_getElem? (i := 9) rfl) rfl rfl (ty := .object "TeaSeats$Room") (by decide +kernel) rfl rfl (Nat.le_of_ble_eq_true rfl) dX5_init_34 _ rfl ?_
  refine z_world (ws' := [(o, .inr (5, [.ref (a1 0), .ref (a2 0), .ref (a3 0), .null, .null, .null, .null]))] ++ (rmW y a1 iF zF ++ (rmW y a2 iF zF ++ rmW y a3 iF zF))) rfl ?_
  refine z_aload_n G dX5_init_37 0 rfl ?_
  refine z_new (k' := 37) (n' := 533) (ci := 4) G in_X5_init_X4 tyX4 tyX4_ok (List.mem_of_getElem? (i := 10) rfl) (List.mem_of_getElem? (i := 11) rfl) (List.mem_of_getElem? (i := 12) rfl) rfl [.null, .int (nI 0)] nw_X4 rfl rfl (Nat.le_of_ble_eq_true rfl) (Nat.le_of_ble_eq_true rfl) dX5_init_38 (fun q3 => ?_)
  refine z_dup G dX5_init_41 rfl ?_
  refine z_perm List.perm_append_comm ?_
  refine z_callIN (k' := 49) (n' := 710) G hI (As := []) (fun l => c_X4_init l D y q3) k_X4_init gX5_init_X4_init_n24 (List.mem_of_getElem? (i := 12) rfl) (host := "TeaSeats") (fun U h => h.2.2.2.1) (List.mem_of_getElem? (i := 44) rfl) rfl dX5_init_42 ⟨by decide, by decide⟩ rfl rfl (Nat.le_of_ble_eq_true rfl) (Nat.le_of_ble_eq_true rfl) rfl (Nat.le_of_ble_eq_true rfl) _ rfl (fun w1 hw => ?_)
  obtain ⟨a5, rfl⟩ := hw
  refine z_perm (mk_perm _ _ _) ?_
  refine z_world (ws' := [(o, .inr (5, [.ref (a1 0), .ref (a2 0), .ref (a3 0), .null, .null, .null, .null]))] ++ (rmW y a1 iF zF ++ (rmW y a2 iF zF ++ (rmW y a3 iF zF ++ (slW (fun _ => q3) (a5 0) (nI 0) ++ rmW y a5 iF zF))))) (by simp only [List.append_assoc, List.nil_append]) ?_
  refine z_putF (own := RX5) G hI2 in_X5_init_X5 tyX5 tyX5_ok nmX5 0 rfl rfl 3 (by decide) (List.mem_of_getElem? (i := 13) rfl) rfl rfl (ty := .object "TeaSeats$Slot") (by decide +kernel) rfl rfl (Nat.le_of_ble_eq_true rfl) dX5_init_45 _ rfl ?_
  refine z_world (ws' := [(o, .inr (5, [.ref (a1 0), .ref (a2 0), .ref (a3 0), .ref (q3), .null, .null, .null]))] ++ (rmW y a1 iF zF ++ (rmW y a2 iF zF ++ (rmW y a3 iF zF ++ (slW (fun _ => q3) (a5 0) (nI 0) ++ rmW y a5 iF zF))))) rfl ?_
  refine z_aload_n G dX5_init_48 0 rfl ?_
  refine z_new (k' := 50) (n' := 712) (ci := 4) G in_X5_init_X4 tyX4 tyX4_ok (List.mem_of_getElem? (i := 10) rfl) (List.mem_of_getElem? (i := 11) rfl) (List.mem_of_getElem? (i := 12) rfl) rfl [.null, .int (nI 0)] nw_X4 rfl rfl (Nat.le_of_ble_eq_true rfl) (Nat.le_of_ble_eq_true rfl) dX5_init_49 (fun q4 => ?_)
  refine z_dup G dX5_init_52 rfl ?_
  refine z_perm List.perm_append_comm ?_
  refine z_callIN (k' := 62) (n' := 889) G hI (As := []) (fun l => c_X4_init l D y q4) k_X4_init gX5_init_X4_init_n24 (List.mem_of_getElem? (i := 12) rfl) (host := "TeaSeats") (fun U h => h.2.2.2.1) (List.mem_of_getElem? (i := 44) rfl) rfl dX5_init_53 ⟨by decide, by decide⟩ rfl rfl (Nat.le_of_ble_eq_true rfl) (Nat.le_of_ble_eq_true rfl) rfl (Nat.le_of_ble_eq_true rfl) _ rfl (fun w1 hw => ?_)
  obtain ⟨a7, rfl⟩ := hw
  refine z_perm (mk_perm _ _ _) ?_
  refine z_world (ws' := [(o, .inr (5, [.ref (a1 0), .ref (a2 0), .ref (a3 0), .ref (q3), .null, .null, .null]))] ++ (rmW y a1 iF zF ++ (rmW y a2 iF zF ++ (rmW y a3 iF zF ++ (slW (fun _ => q3) (a5 0) (nI 0) ++ (rmW y a5 iF zF ++ (slW (fun _ => q4) (a7 0) (nI 0) ++ rmW y a7 iF zF))))))) (by simp only [List.append_assoc, List.nil_append]) ?_
  refine z_putF (own := RX5) G hI2 in_X5_init_X5 tyX5 tyX5_ok nmX5 0 rfl rfl 4 (by decide) (List.mem_of_getElem? (i := 14) rfl) rfl rfl (ty := .object "TeaSeats$Slot") (by decide +kernel) rfl rfl (Nat.le_of_ble_eq_true rfl) dX5_init_56 _ rfl ?_
  refine z_world (ws' := [(o, .inr (5, [.ref (a1 0), .ref (a2 0), .ref (a3 0), .ref (q3), .ref (q4), .null, .null]))] ++ (rmW y a1 iF zF ++ (rmW y a2 iF zF ++ (rmW y a3 iF zF ++ (slW (fun _ => q3) (a5 0) (nI 0) ++ (rmW y a5 iF zF ++ (slW (fun _ => q4) (a7 0) (nI 0) ++ rmW y a7 iF zF))))))) rfl ?_
  refine z_aload_n G dX5_init_59 0 rfl ?_
  refine z_new (k' := 63) (n' := 892) (ci := 1) G in_X5_init_X1 tyX1 tyX1_ok (List.mem_of_getElem? (i := 15) rfl) (List.mem_of_getElem? (i := 16) rfl) (List.mem_of_getElem? (i := 17) rfl) rfl [.null, .int (nI 0), .int (nI 0)] nw_X1 rfl rfl (Nat.le_of_ble_eq_true rfl) (Nat.le_of_ble_eq_true rfl) dX5_init_60 (fun q5 => ?_)
  refine z_dup G dX5_init_63 rfl ?_
  refine z_perm List.perm_append_comm ?_
  refine z_callII (k' := 136) (n' := 1960) G hI (As := []) (fun l => c_X1_init l D y q5) k_X1_init gX5_init_X1_init (List.mem_of_getElem? (i := 17) rfl) (List.mem_of_getElem? (i := 49) rfl) (List.mem_of_getElem? (i := 50) rfl) rfl dX5_init_64 ⟨by decide, by decide⟩ rfl rfl (Nat.le_of_ble_eq_true rfl) (Nat.le_of_ble_eq_true rfl) rfl (Nat.le_of_ble_eq_true rfl) _ rfl (fun w1 hw => ?_)
  obtain ⟨h, A, rfl, rfl⟩ := hw
  refine z_perm (mk_perm _ _ _) ?_
  refine z_world (ws' := [(o, .inr (5, [.ref (a1 0), .ref (a2 0), .ref (a3 0), .ref (q3), .ref (q4), .null, .null]))] ++ (rmW y a1 iF zF ++ (rmW y a2 iF zF ++ (rmW y a3 iF zF ++ (slW (fun _ => q3) (a5 0) (nI 0) ++ (rmW y a5 iF zF ++ (slW (fun _ => q4) (a7 0) (nI 0) ++ (rmW y a7 iF zF ++ (hiW y h A (nI 0) (nI 0) ++ rgW y A (fun _ => iF) (fun _ => zF) 6))))))))) (by simp only [List.append_assoc, List.nil_append]) ?_
  refine z_putF (own := RX5) G hI2 in_X5_init_X5 tyX5 tyX5_ok nmX5 0 rfl rfl 5 (by decide) (List.mem_of_getElem? (i := 18) rfl) rfl rfl (ty := .object "TeaSeats$History") (by decide +kernel) rfl rfl (Nat.le_of_ble_eq_true rfl) dX5_init_67 _ rfl ?_
  refine z_world (ws' := [(o, .inr (5, [.ref (a1 0), .ref (a2 0), .ref (a3 0), .ref (q3), .ref (q4), .ref (h 0), .null]))] ++ (rmW y a1 iF zF ++ (rmW y a2 iF zF ++ (rmW y a3 iF zF ++ (slW (fun _ => q3) (a5 0) (nI 0) ++ (rmW y a5 iF zF ++ (slW (fun _ => q4) (a7 0) (nI 0) ++ (rmW y a7 iF zF ++ (hiW y h A (nI 0) (nI 0) ++ rgW y A (fun _ => iF) (fun _ => zF) 6))))))))) rfl ?_
  refine z_aload_n G dX5_init_70 0 rfl ?_
  refine z_new (k' := 137) (n' := 1962) (ci := 2) G in_X5_init_X2 tyX2 tyX2_ok (List.mem_of_getElem? (i := 19) rfl) (List.mem_of_getElem? (i := 20) rfl) (List.mem_of_getElem? (i := 21) rfl) rfl [.null, .int (nI 0)] nw_X2 rfl rfl (Nat.le_of_ble_eq_true rfl) (Nat.le_of_ble_eq_true rfl) dX5_init_71 (fun q6 => ?_)
  refine z_dup G dX5_init_74 rfl ?_
  refine z_perm List.perm_append_comm ?_
  refine z_callIN (k' := 138) (n' := 2042) G hI (As := []) (fun l => c_X2_init l D y q6) k_X2_init gX5_init_X2_init_n41 (List.mem_of_getElem? (i := 21) rfl) (host := "TeaSeats") (fun U h => h.2.2.2.2.2.2) (List.mem_of_getElem? (i := 55) rfl) rfl dX5_init_75 ⟨by decide, by decide⟩ rfl rfl (Nat.le_of_ble_eq_true rfl) (Nat.le_of_ble_eq_true rfl) rfl (Nat.le_of_ble_eq_true rfl) _ rfl (fun w1 hw => ?_)
  obtain ⟨p, rfl, rfl⟩ := hw
  refine z_perm (mk_perm _ _ _) ?_
  refine z_world (ws' := [(o, .inr (5, [.ref (a1 0), .ref (a2 0), .ref (a3 0), .ref (q3), .ref (q4), .ref (h 0), .null]))] ++ (rmW y a1 iF zF ++ (rmW y a2 iF zF ++ (rmW y a3 iF zF ++ (slW (fun _ => q3) (a5 0) (nI 0) ++ (rmW y a5 iF zF ++ (slW (fun _ => q4) (a7 0) (nI 0) ++ (rmW y a7 iF zF ++ (hiW y h A (nI 0) (nI 0) ++ (rgW y A (fun _ => iF) (fun _ => zF) 6 ++ pdW y p zF (nI 0))))))))))) (by simp only [List.append_assoc, List.nil_append]) ?_
  refine z_putF (own := RX5) G hI2 in_X5_init_X5 tyX5 tyX5_ok nmX5 0 rfl rfl 6 (by decide) (List.mem_of_getElem? (i := 22) rfl) rfl rfl (ty := .object "TeaSeats$Pad") (by decide +kernel) rfl rfl (Nat.le_of_ble_eq_true rfl) dX5_init_78 _ rfl ?_
  refine z_world (ws' := [(o, .inr (5, [.ref (a1 0), .ref (a2 0), .ref (a3 0), .ref (q3), .ref (q4), .ref (h 0), .ref (p 0)]))] ++ (rmW y a1 iF zF ++ (rmW y a2 iF zF ++ (rmW y a3 iF zF ++ (slW (fun _ => q3) (a5 0) (nI 0) ++ (rmW y a5 iF zF ++ (slW (fun _ => q4) (a7 0) (nI 0) ++ (rmW y a7 iF zF ++ (hiW y h A (nI 0) (nI 0) ++ (rgW y A (fun _ => iF) (fun _ => zF) 6 ++ pdW y p zF (nI 0))))))))))) rfl ?_
  refine z_world (ws' := tsW y (eI o a1 a2 a3 q3 a5 q4 a7 h p) A (fun _ => iF) (fun _ => zF) false false 0 0 (fun _ => iF) (fun _ => zF) zF 0) (by rw [← List.append_nil (pdW y p zF (nI 0))]; rfl) ?_
  exact hE _ _ _ dX5_init_81 ⟨_, _, rfl, rfl⟩