theorem nw_X0 : ∀ j, j < 6 → defaultValue (tyX0 j) = vp_V [.null, .null, .int (nI 0), .int (nI 0), .int (nI 0), .int (nI 0)] j := fun j hj => match j, hj with
  | 0, _ => rfl
  | 1, _ => rfl
  | 2, _ => rfl
  | 3, _ => rfl
  | 4, _ => rfl
  | 5, _ => rfl
  | j + 6, h => absurd h (by omega)

theorem nw_X1 : ∀ j, j < 3 → defaultValue (tyX1 j) = vp_V [.null, .int (nI 0), .int (nI 0)] j := fun j hj => match j, hj with
  | 0, _ => rfl
  | 1, _ => rfl
  | 2, _ => rfl
  | j + 3, h => absurd h (by omega)

theorem nw_X2 : ∀ j, j < 2 → defaultValue (tyX2 j) = vp_V [.null, .int (nI 0)] j := fun j hj => match j, hj with
  | 0, _ => rfl
  | 1, _ => rfl
  | j + 2, h => absurd h (by omega)

theorem nw_X3 : ∀ j, j < 14 → defaultValue (tyX3 j) = vp_V [.null, .null, .null, .null, .null, .null, .null, .null, .int (nI 0), .int (nI 0), .int (nI 0), .int (nI 0), .int (nI 0), .null] j := fun j hj => match j, hj with
  | 0, _ => rfl
  | 1, _ => rfl
  | 2, _ => rfl
  | 3, _ => rfl
  | 4, _ => rfl
  | 5, _ => rfl
  | 6, _ => rfl
  | 7, _ => rfl
  | 8, _ => rfl
  | 9, _ => rfl
  | 10, _ => rfl
  | 11, _ => rfl
  | 12, _ => rfl
  | 13, _ => rfl
  | j + 14, h => absurd h (by omega)

theorem nw_X4 : ∀ j, j < 2 → defaultValue (tyX4 j) = vp_V [.null, .int (nI 0)] j := fun j hj => match j, hj with
  | 0, _ => rfl
  | 1, _ => rfl
  | j + 2, h => absurd h (by omega)

theorem nw_X5 : ∀ j, j < 7 → defaultValue (tyX5 j) = vp_V [.null, .null, .null, .null, .null, .null, .null] j := fun j hj => match j, hj with
  | 0, _ => rfl
  | 1, _ => rfl
  | 2, _ => rfl
  | 3, _ => rfl
  | 4, _ => rfl
  | 5, _ => rfl
  | 6, _ => rfl
  | j + 7, h => absurd h (by omega)

theorem k_X0_init : zCal yX0_init wsX0_init cX0_init 1 none 0 := ⟨⟨_, rfl⟩, by decide +kernel⟩
theorem in_X0_init_X0 : ∀ w ∈ wsX00, w ∈ wsX0_init := fun _ h => List.mem_cons_of_mem _ (List.mem_append_right _ h)
set_option maxHeartbeats 4000000 in
set_option maxRecDepth 100000 in
theorem c_X0_init (l : Launch) (D : va_G) (y : Nat → ClassId) (o : Nat) : zMvI l D y yX0_init wsX0_init ({ frames := 1, cells := 2, slots := 90, locals := 12 }) [.ref o] [(o, .inr (0, [.null, .null, .int (nI 0), .int (nI 0), .int (nI 0), .int (nI 0)]))] (fun w => ∃ a1 a2 : Nat, w = [(o, .inr (0, [.ref a1, .ref a2, .int (nI 0), .int (nI 0), .int (nI 0), .int (nI 0)])), (a1, .inl (y 0, 81, .inl (fun _ => nI 0))), (a2, .inl (y 0, 9, .inl (fun _ => nI 0)))]) := by
  refine zMvI.mk (cc := cX0_init) (maxL := 1) (lv := [(0, .ref o)]) (by decide) rfl rfl (Nat.le_of_ble_eq_true rfl) rfl (fun X G hI hI2 hE => ?_)
  refine z_aload_n G dX0_init_0 0 rfl ?_
  refine z_objI G (List.mem_of_getElem? (i := 1) rfl) (List.mem_of_getElem? (i := 2) rfl) (List.mem_of_getElem? (i := 3) rfl) (Nat.le_of_ble_eq_true rfl) (Nat.le_of_ble_eq_true rfl) dX0_init_1 ?_
  refine z_aload_n G dX0_init_4 0 rfl ?_
  refine z_bipush (v := nI 81) G dX0_init_5 rfl ?_
  refine z_newa (k' := 1) (n' := 81) G (atype := .int) (ty := .int) rfl (List.mem_of_getElem? (i := 4) rfl) 0 (cY := y 0) rfl (by decide) rfl (by decide) rfl rfl (Nat.le_of_ble_eq_true rfl) (Nat.le_of_ble_eq_true rfl) dX0_init_7 (fun q1 => ?_)
  refine z_putF (own := RX0) G hI2 in_X0_init_X0 tyX0 tyX0_ok nmX0 0 rfl rfl 0 (by decide) (List.mem_of_getElem? (i := 5) rfl) rfl rfl (ty := .array .int) (by decide +kernel) rfl rfl (Nat.le_of_ble_eq_true rfl) dX0_init_9 _ rfl ?_
  refine z_world (ws' := [(o, .inr (0, [.ref q1, .null, .int (nI 0), .int (nI 0), .int (nI 0), .int (nI 0)])), (q1, .inl (y 0, 81, .inl (fun _ => nI 0)))]) rfl ?_
  refine z_aload_n G dX0_init_12 0 rfl ?_
  refine z_bipush (v := nI 9) G dX0_init_13 rfl ?_
  refine z_newa (k' := 2) (n' := 90) G (atype := .int) (ty := .int) rfl (List.mem_of_getElem? (i := 4) rfl) 0 (cY := y 0) rfl (by decide) rfl (by decide) rfl rfl (Nat.le_of_ble_eq_true rfl) (Nat.le_of_ble_eq_true rfl) dX0_init_15 (fun q2 => ?_)
  refine z_putF (own := RX0) G hI2 in_X0_init_X0 tyX0 tyX0_ok nmX0 0 rfl rfl 1 (by decide) (List.mem_of_getElem? (i := 6) rfl) rfl rfl (ty := .array .int) (by decide +kernel) rfl rfl (Nat.le_of_ble_eq_true rfl) dX0_init_17 _ rfl ?_
  refine z_world (ws' := [(o, .inr (0, [.ref q1, .ref q2, .int (nI 0), .int (nI 0), .int (nI 0), .int (nI 0)])), (q1, .inl (y 0, 81, .inl (fun _ => nI 0))), (q2, .inl (y 0, 9, .inl (fun _ => nI 0)))]) rfl ?_
  exact hE _ _ _ dX0_init_20 ⟨q1, q2, rfl⟩
theorem k_X2_init : zCal yX2_init wsX2_init cX2_init 1 none 0 := ⟨⟨_, rfl⟩, by decide +kernel⟩
theorem in_X2_init_X2 : ∀ w ∈ wsX20, w ∈ wsX2_init := fun _ h => List.mem_cons_of_mem _ (List.mem_append_right _ h)
set_option maxHeartbeats 4000000 in
set_option maxRecDepth 100000 in
theorem c_X2_init (l : Launch) (D : va_G) (y : Nat → ClassId) (o : Nat) : zMvI l D y yX2_init wsX2_init ({ frames := 1, cells := 1, slots := 80, locals := 12 }) [.ref o] [(o, .inr (2, [.null, .int (nI 0)]))] (fun w => ∃ p : Nat → Nat, p 0 = o ∧ w = pdW y p zF (nI 0)) := by
  refine zMvI.mk (cc := cX2_init) (maxL := 1) (lv := [(0, .ref o)]) (by decide) rfl rfl (Nat.le_of_ble_eq_true rfl) rfl (fun X G hI hI2 hE => ?_)
  refine z_aload_n G dX2_init_0 0 rfl ?_
  refine z_objI G (List.mem_of_getElem? (i := 1) rfl) (List.mem_of_getElem? (i := 2) rfl) (List.mem_of_getElem? (i := 3) rfl) (Nat.le_of_ble_eq_true rfl) (Nat.le_of_ble_eq_true rfl) dX2_init_1 ?_
  refine z_aload_n G dX2_init_4 0 rfl ?_
  refine z_bipush (v := nI 80) G dX2_init_5 rfl ?_
  refine z_newa (k' := 1) (n' := 80) G (atype := .char) (ty := .char) rfl (List.mem_of_getElem? (i := 4) rfl) 1 (cY := y 1) rfl (by decide) rfl (by decide) rfl rfl (Nat.le_of_ble_eq_true rfl) (Nat.le_of_ble_eq_true rfl) dX2_init_7 (fun q1 => ?_)
  refine z_putF (own := RX2) G hI2 in_X2_init_X2 tyX2 tyX2_ok nmX2 0 rfl rfl 0 (by decide) (List.mem_of_getElem? (i := 5) rfl) rfl rfl (ty := .array .char) (by decide +kernel) rfl rfl (Nat.le_of_ble_eq_true rfl) dX2_init_9 _ rfl ?_
  refine z_world (ws' := pdW y (fun i => if i = 0 then o else q1) zF (nI 0)) (by unfold pdW; rw [← cut_z (N := 80) (f := zF) (fun j _ => rfl)]; rfl) ?_
  exact hE _ _ _ dX2_init_12 ⟨_, rfl, rfl⟩
theorem rm_init (y : Nat → ClassId) (a : Nat → Nat) : [(a 0, .inr (3, [.ref (a 1), .ref (a 2), .ref (a 3), .ref (a 4), .ref (a 5), .ref (a 6), .ref (a 7), .ref (a 9), .int (nI 0), .int (nI 0), .int (nI 0), .int (nI 0), .int (nI 0), .ref (a 8)])), (a 1, .inl (y 0, 4, .inl (upd (upd (upd (upd (fun _ => nI 0) 0 (nI 2)) 1 (nI 3)) 2 (nI 9)) 3 (nI 3)))), (a 2, .inl (y 0, 9, .inl (fun _ => nI 0))), (a 3, .inl (y 0, 9, .inl (fun _ => nI 0))), (a 4, .inl (y 0, 9, .inl (fun _ => nI 0))), (a 5, .inl (y 0, 9, .inl (fun _ => nI 0))), (a 6, .inl (y 0, 9, .inl (fun _ => nI 0))), (a 7, .inl (y 0, 9, .inl (fun _ => nI 0))), (a 8, .inl (y 0, 9, .inl (fun _ => nI 0))), (a 9, .inr (0, [.ref (a 10), .ref (a 11), .int (nI 0), .int (nI 0), .int (nI 0), .int (nI 0)])), (a 10, .inl (y 0, 81, .inl (fun _ => nI 0))), (a 11, .inl (y 0, 9, .inl (fun _ => nI 0)))] = rmW y a iF zF := by
  have e1 : (fun _ => nI 0) = cut 9 (fun g => iF (15 + 17 * g)) := cut_z (fun j hj => iF_0 (by omega))
  have e2 : (fun _ => nI 0) = cut 9 (fun g => iF (16 + 17 * g)) := cut_z (fun j hj => iF_0 (by omega))
  have e3 : (fun _ => nI 0) = cut 9 (fun g => iF (17 + 17 * g)) := cut_z (fun j hj => iF_0 (by omega))
  have e4 : (fun _ => nI 0) = cut 9 (fun g => iF (18 + 17 * g)) := cut_z (fun j hj => iF_0 (by omega))
  have e5 : (fun _ => nI 0) = cut 9 (fun g => iF (19 + 17 * g)) := cut_z (fun j hj => iF_0 (by omega))
  have e6 : (fun _ => nI 0) = cut 9 (fun g => iF (14 + 17 * g)) := cut_z (fun j hj => iF_0 (by omega))
  have e7 : (fun _ => nI 0) = cut 9 (fun g => iF (20 + 17 * g)) := cut_z (fun j hj => iF_0 (by omega))
  have e8 : (fun _ => nI 0) = cut 81 (fun c => iF (o_at c)) := cut_z (fun j hj => iF_0 (by unfold o_at; omega))
  have e9 : (fun _ => nI 0) = cut 9 zF := cut_z (fun j hj => rfl)
  unfold rmW rmH bwW
  rw [← e1, ← e2, ← e3, ← e4, ← e5, ← e6, ← e7, ← e8, ← e9, ← iF_se (N := 4) (by decide)]
  rfl

theorem k_X3_init : zCal yX3_init wsX3_init cX3_init 1 none 0 := ⟨⟨_, rfl⟩, by decide +kernel⟩
theorem in_X3_init_X3 : ∀ w ∈ wsX30, w ∈ wsX3_init := fun _ h => List.mem_cons_of_mem _ (List.mem_append_left _ (List.mem_append_right _ h))
theorem in_X3_init_X0 : ∀ w ∈ wsX00, w ∈ wsX3_init := fun _ h => List.mem_cons_of_mem _ (List.mem_append_right _ h)
set_option maxHeartbeats 4000000 in
set_option maxRecDepth 100000 in
theorem c_X3_init (l : Launch) (D : va_G) (y : Nat → ClassId) (o : Nat) : zMvI l D y yX3_init wsX3_init ({ frames := 2, cells := 11, slots := 163, locals := 32 }) [.ref o] [(o, .inr (3, [.null, .null, .null, .null, .null, .null, .null, .null, .int (nI 0), .int (nI 0), .int (nI 0), .int (nI 0), .int (nI 0), .null]))] (fun w => ∃ a : Nat → Nat, a 0 = o ∧ w = rmW y a iF zF) := by
  refine zMvI.mk (cc := cX3_init) (maxL := 1) (lv := [(0, .ref o)]) (by decide) rfl rfl (Nat.le_of_ble_eq_true rfl) rfl (fun X G hI hI2 hE => ?_)
  refine z_aload_n G dX3_init_0 0 rfl ?_
  refine z_objI G (List.mem_of_getElem? (i := 1) rfl) (List.mem_of_getElem? (i := 2) rfl) (List.mem_of_getElem? (i := 3) rfl) (Nat.le_of_ble_eq_true rfl) (Nat.le_of_ble_eq_true rfl) dX3_init_1 ?_
  refine z_aload_n G dX3_init_4 0 rfl ?_
  refine z_iconst (v := nI 4) G dX3_init_5 rfl ?_
  refine z_newa (k' := 1) (n' := 4) G (atype := .int) (ty := .int) rfl (List.mem_of_getElem? (i := 4) rfl) 0 (cY := y 0) rfl (by decide) rfl (by decide) rfl rfl (Nat.le_of_ble_eq_true rfl) (Nat.le_of_ble_eq_true rfl) dX3_init_6 (fun q1 => ?_)
  refine z_world (ws' := [(o, .inr (3, [.null, .null, .null, .null, .null, .null, .null, .null, .int (nI 0), .int (nI 0), .int (nI 0), .int (nI 0), .int (nI 0), .null])), (q1, .inl (y 0, 4, .inl (fun _ => nI 0)))]) rfl ?_
  refine z_dup G dX3_init_8 rfl ?_
  refine z_iconst (v := nI 0) G dX3_init_9 rfl ?_
  refine z_iconst (v := nI 2) G dX3_init_10 rfl ?_
  refine z_iast G 1 rfl (by decide) (by decide) dX3_init_11 _ rfl ?_
  refine z_world (ws' := [(o, .inr (3, [.null, .null, .null, .null, .null, .null, .null, .null, .int (nI 0), .int (nI 0), .int (nI 0), .int (nI 0), .int (nI 0), .null])), (q1, .inl (y 0, 4, .inl (upd (fun _ => nI 0) 0 (nI 2))))]) rfl ?_
  refine z_dup G dX3_init_12 rfl ?_
  refine z_iconst (v := nI 1) G dX3_init_13 rfl ?_
  refine z_iconst (v := nI 3) G dX3_init_14 rfl ?_
  refine z_iast G 1 rfl (by decide) (by decide) dX3_init_15 _ rfl ?_
  refine z_world (ws' := [(o, .inr (3, [.null, .null, .null, .null, .null, .null, .null, .null, .int (nI 0), .int (nI 0), .int (nI 0), .int (nI 0), .int (nI 0), .null])), (q1, .inl (y 0, 4, .inl (upd (upd (fun _ => nI 0) 0 (nI 2)) 1 (nI 3))))]) rfl ?_
  refine z_dup G dX3_init_16 rfl ?_
  refine z_iconst (v := nI 2) G dX3_init_17 rfl ?_
  refine z_bipush (v := nI 9) G dX3_init_18 rfl ?_
  refine z_iast G 1 rfl (by decide) (by decide) dX3_init_20 _ rfl ?_
  refine z_world (ws' := [(o, .inr (3, [.null, .null, .null, .null, .null, .null, .null, .null, .int (nI 0), .int (nI 0), .int (nI 0), .int (nI 0), .int (nI 0), .null])), (q1, .inl (y 0, 4, .inl (upd (upd (upd (fun _ => nI 0) 0 (nI 2)) 1 (nI 3)) 2 (nI 9))))]) rfl ?_
  refine z_dup G dX3_init_21 rfl ?_
  refine z_iconst (v := nI 3) G dX3_init_22 rfl ?_
  refine z_iconst (v := nI 3) G dX3_init_23 rfl ?_
  refine z_iast G 1 rfl (by decide) (by decide) dX3_init_24 _ rfl ?_
  refine z_world (ws' := [(o, .inr (3, [.null, .null, .null, .null, .null, .null, .null, .null, .int (nI 0), .int (nI 0), .int (nI 0), .int (nI 0), .int (nI 0), .null])), (q1, .inl (y 0, 4, .inl (upd (upd (upd (upd (fun _ => nI 0) 0 (nI 2)) 1 (nI 3)) 2 (nI 9)) 3 (nI 3))))]) rfl ?_
  refine z_putF (own := RX3) G hI2 in_X3_init_X3 tyX3 tyX3_ok nmX3 0 rfl rfl 0 (by decide) (List.mem_of_getElem? (i := 5) rfl) rfl rfl (ty := .array .int) (by decide +kernel) rfl rfl (Nat.le_of_ble_eq_true rfl) dX3_init_25 _ rfl ?_
  refine z_world (ws' := [(o, .inr (3, [.ref q1, .null, .null, .null, .null, .null, .null, .null, .int (nI 0), .int (nI 0), .int (nI 0), .int (nI 0), .int (nI 0), .null])), (q1, .inl (y 0, 4, .inl (upd (upd (upd (upd (fun _ => nI 0) 0 (nI 2)) 1 (nI 3)) 2 (nI 9)) 3 (nI 3))))]) rfl ?_
  refine z_aload_n G dX3_init_28 0 rfl ?_
  refine z_bipush (v := nI 9) G dX3_init_29 rfl ?_
  refine z_newa (k' := 2) (n' := 13) G (atype := .int) (ty := .int) rfl (List.mem_of_getElem? (i := 4) rfl) 0 (cY := y 0) rfl (by decide) rfl (by decide) rfl rfl (Nat.le_of_ble_eq_true rfl) (Nat.le_of_ble_eq_true rfl) dX3_init_31 (fun q2 => ?_)
  refine z_putF (own := RX3) G hI2 in_X3_init_X3 tyX3 tyX3_ok nmX3 0 rfl rfl 1 (by decide) (List.mem_of_getElem? (i := 6) rfl) rfl rfl (ty := .array .int) (by decide +kernel) rfl rfl (Nat.le_of_ble_eq_true rfl) dX3_init_33 _ rfl ?_
  refine z_world (ws' := [(o, .inr (3, [.ref q1, .ref q2, .null, .null, .null, .null, .null, .null, .int (nI 0), .int (nI 0), .int (nI 0), .int (nI 0), .int (nI 0), .null])), (q1, .inl (y 0, 4, .inl (upd (upd (upd (upd (fun _ => nI 0) 0 (nI 2)) 1 (nI 3)) 2 (nI 9)) 3 (nI 3)))), (q2, .inl (y 0, 9, .inl (fun _ => nI 0)))]) rfl ?_
  refine z_aload_n G dX3_init_36 0 rfl ?_
  refine z_bipush (v := nI 9) G dX3_init_37 rfl ?_
  refine z_newa (k' := 3) (n' := 22) G (atype := .int) (ty := .int) rfl (List.mem_of_getElem? (i := 4) rfl) 0 (cY := y 0) rfl (by decide) rfl (by decide) rfl rfl (Nat.le_of_ble_eq_true rfl) (Nat.le_of_ble_eq_true rfl) dX3_init_39 (fun q3 => ?_)
  refine z_putF (own := RX3) G hI2 in_X3_init_X3 tyX3 tyX3_ok nmX3 0 rfl rfl 2 (by decide) (List.mem_of_getElem? (i := 7) rfl) rfl rfl (ty := .array .int) (by decide +kernel) rfl rfl (Nat.le_of_ble_eq_true rfl) dX3_init_41 _ rfl ?_
  refine z_world (ws' := [(o, .inr (3, [.ref q1, .ref q2, .ref q3, .null, .null, .null, .null, .null, .int (nI 0), .int (nI 0), .int (nI 0), .int (nI 0), .int (nI 0), .null])), (q1, .inl (y 0, 4, .inl (upd (upd (upd (upd (fun _ => nI 0) 0 (nI 2)) 1 (nI 3)) 2 (nI 9)) 3 (nI 3)))), (q2, .inl (y 0, 9, .inl (fun _ => nI 0))), (q3, .inl (y 0, 9, .inl (fun _ => nI 0)))]) rfl ?_
  refine z_aload_n G dX3_init_44 0 rfl ?_
  refine z_bipush (v := nI 9) G dX3_init_45 rfl ?_
  refine z_newa (k' := 4) (n' := 31) G (atype := .int) (ty := .int) rfl (List.mem_of_getElem? (i := 4) rfl) 0 (cY := y 0) rfl (by decide) rfl (by decide) rfl rfl (Nat.le_of_ble_eq_true rfl) (Nat.le_of_ble_eq_true rfl) dX3_init_47 (fun q4 => ?_)
  refine z_putF (own := RX3) G hI2 in_X3_init_X3 tyX3 tyX3_ok nmX3 0 rfl rfl 3 (by decide) (List.mem_of_getElem? (i := 8) rfl) rfl rfl (ty := .array .int) (by decide +kernel) rfl rfl (Nat.le_of_ble_eq_true rfl) dX3_init_49 _ rfl ?_
  refine z_world (ws' := [(o, .inr (3, [.ref q1, .ref q2, .ref q3, .ref q4, .null, .null, .null, .null, .int (nI 0), .int (nI 0), .int (nI 0), .int (nI 0), .int (nI 0), .null])), (q1, .inl (y 0, 4, .inl (upd (upd (upd (upd (fun _ => nI 0) 0 (nI 2)) 1 (nI 3)) 2 (nI 9)) 3 (nI 3)))), (q2, .inl (y 0, 9, .inl (fun _ => nI 0))), (q3, .inl (y 0, 9, .inl (fun _ => nI 0))), (q4, .inl (y 0, 9, .inl (fun _ => nI 0)))]) rfl ?_
  refine z_aload_n G dX3_init_52 0 rfl ?_
  refine z_bipush (v := nI 9) G dX3_init_53 rfl ?_
  refine z_newa (k' := 5) (n' := 40) G (atype := .int) (ty := .int) rfl (List.mem_of_getElem? (i := 4) rfl) 0 (cY := y 0) rfl (by decide) rfl (by decide) rfl rfl (Nat.le_of_ble_eq_true rfl) (Nat.le_of_ble_eq_true rfl) dX3_init_55 (fun q5 => ?_)
  refine z_putF (own := RX3) G hI2 in_X3_init_X3 tyX3 tyX3_ok nmX3 0 rfl rfl 4 (by decide) (List.mem_of_getElem? (i := 9) rfl) rfl rfl (ty := .array .int) (by decide +kernel) rfl rfl (Nat.le_of_ble_eq_true rfl) dX3_init_57 _ rfl ?_
  refine z_world (ws' := [(o, .inr (3, [.ref q1, .ref q2, .ref q3, .ref q4, .ref q5, .null, .null, .null, .int (nI 0), .int (nI 0), .int (nI 0), .int (nI 0), .int (nI 0), .null])), (q1, .inl (y 0, 4, .inl (upd (upd (upd (upd (fun _ => nI 0) 0 (nI 2)) 1 (nI 3)) 2 (nI 9)) 3 (nI 3)))), (q2, .inl (y 0, 9, .inl (fun _ => nI 0))), (q3, .inl (y 0, 9, .inl (fun _ => nI 0))), (q4, .inl (y 0, 9, .inl (fun _ => nI 0))), (q5, .inl (y 0, 9, .inl (fun _ => nI 0)))]) rfl ?_
  refine z_aload_n G dX3_init_60 0 rfl ?_
  refine z_bipush (v := nI 9) G dX3_init_61 rfl ?_
  refine z_newa (k' := 6) (n' := 49) G (atype := .int) (ty := .int) rfl (List.mem_of_getElem? (i := 4) rfl) 0 (cY := y 0) rfl (by decide) rfl (by decide) rfl rfl (Nat.le_of_ble_eq_true rfl) (Nat.le_of_ble_eq_true rfl) dX3_init_63 (fun q6 => ?_)
  refine z_putF (own := RX3) G hI2 in_X3_init_X3 tyX3 tyX3_ok nmX3 0 rfl rfl 5 (by decide) (List.mem_of_getElem? (i := 10) rfl) rfl rfl (ty := .array .int) (by decide +kernel) rfl rfl (Nat.le_of_ble_eq_true rfl) dX3_init_65 _ rfl ?_
  refine z_world (ws' := [(o, .inr (3, [.ref q1, .ref q2, .ref q3, .ref q4, .ref q5, .ref q6, .null, .null, .int (nI 0), .int (nI 0), .int (nI 0), .int (nI 0), .int (nI 0), .null])), (q1, .inl (y 0, 4, .inl (upd (upd (upd (upd (fun _ => nI 0) 0 (nI 2)) 1 (nI 3)) 2 (nI 9)) 3 (nI 3)))), (q2, .inl (y 0, 9, .inl (fun _ => nI 0))), (q3, .inl (y 0, 9, .inl (fun _ => nI 0))), (q4, .inl (y 0, 9, .inl (fun _ => nI 0))), (q5, .inl (y 0, 9, .inl (fun _ => nI 0))), (q6, .inl (y 0, 9, .inl (fun _ => nI 0)))]) rfl ?_
  refine z_aload_n G dX3_init_68 0 rfl ?_
  refine z_bipush (v := nI 9) G dX3_init_69 rfl ?_
  refine z_newa (k' := 7) (n' := 58) G (atype := .int) (ty := .int) rfl (List.mem_of_getElem? (i := 4) rfl) 0 (cY := y 0) rfl (by decide) rfl (by decide) rfl rfl (Nat.le_of_ble_eq_true rfl) (Nat.le_of_ble_eq_true rfl) dX3_init_71 (fun q7 => ?_)
  refine z_putF (own := RX3) G hI2 in_X3_init_X3 tyX3 tyX3_ok nmX3 0 rfl rfl 6 (by decide) (List.mem_of_getElem? (i := 11) rfl) rfl rfl (ty := .array .int) (by decide +kernel) rfl rfl (Nat.le_of_ble_eq_true rfl) dX3_init_73 _ rfl ?_
  refine z_world (ws' := [(o, .inr (3, [.ref q1, .ref q2, .ref q3, .ref q4, .ref q5, .ref q6, .ref q7, .null, .int (nI 0), .int (nI 0), .int (nI 0), .int (nI 0), .int (nI 0), .null])), (q1, .inl (y 0, 4, .inl (upd (upd (upd (upd (fun _ => nI 0) 0 (nI 2)) 1 (nI 3)) 2 (nI 9)) 3 (nI 3)))), (q2, .inl (y 0, 9, .inl (fun _ => nI 0))), (q3, .inl (y 0, 9, .inl (fun _ => nI 0))), (q4, .inl (y 0, 9, .inl (fun _ => nI 0))), (q5, .inl (y 0, 9, .inl (fun _ => nI 0))), (q6, .inl (y 0, 9, .inl (fun _ => nI 0))), (q7, .inl (y 0, 9, .inl (fun _ => nI 0)))]) rfl ?_
  refine z_aload_n G dX3_init_76 0 rfl ?_
  refine z_new (k' := 8) (n' := 64) (ci := 0) G in_X3_init_X0 tyX0 tyX0_ok (List.mem_of_getElem? (i := 12) rfl) (List.mem_of_getElem? (i := 13) rfl) (List.mem_of_getElem? (i := 14) rfl) rfl [.null, .null, .int (nI 0), .int (nI 0), .int (nI 0), .int (nI 0)] nw_X0 rfl rfl (Nat.le_of_ble_eq_true rfl) (Nat.le_of_ble_eq_true rfl) dX3_init_77 (fun q8 => ?_)
  refine z_dup G dX3_init_80 rfl ?_
  refine z_perm List.perm_append_comm ?_
  refine z_callIN (k' := 10) (n' := 154) G hI (As := []) (fun l => c_X0_init l D y q8) k_X0_init gX3_init_X0_init_n35 (List.mem_of_getElem? (i := 14) rfl) (host := "TeaSeats") (fun U h => h.2.2.1) (List.mem_of_getElem? (i := 17) rfl) rfl dX3_init_81 ⟨by decide, by decide⟩ rfl rfl (Nat.le_of_ble_eq_true rfl) (Nat.le_of_ble_eq_true rfl) rfl (Nat.le_of_ble_eq_true rfl) _ rfl (fun w1 hw => ?_)
  obtain ⟨q9, q10, rfl⟩ := hw
  refine z_perm List.perm_append_comm ?_
  refine z_world (ws' := [(o, .inr (3, [.ref q1, .ref q2, .ref q3, .ref q4, .ref q5, .ref q6, .ref q7, .null, .int (nI 0), .int (nI 0), .int (nI 0), .int (nI 0), .int (nI 0), .null])), (q1, .inl (y 0, 4, .inl (upd (upd (upd (upd (fun _ => nI 0) 0 (nI 2)) 1 (nI 3)) 2 (nI 9)) 3 (nI 3)))), (q2, .inl (y 0, 9, .inl (fun _ => nI 0))), (q3, .inl (y 0, 9, .inl (fun _ => nI 0))), (q4, .inl (y 0, 9, .inl (fun _ => nI 0))), (q5, .inl (y 0, 9, .inl (fun _ => nI 0))), (q6, .inl (y 0, 9, .inl (fun _ => nI 0))), (q7, .inl (y 0, 9, .inl (fun _ => nI 0))), (q8, .inr (0, [.ref q9, .ref q10, .int (nI 0), .int (nI 0), .int (nI 0), .int (nI 0)])), (q9, .inl (y 0, 81, .inl (fun _ => nI 0))), (q10, .inl (y 0, 9, .inl (fun _ => nI 0)))]) rfl ?_
  refine z_putF (own := RX3) G hI2 in_X3_init_X3 tyX3 tyX3_ok nmX3 0 rfl rfl 7 (by decide) (List.mem_of_getElem? (i := 15) rfl) rfl rfl (ty := .object "TeaSeats$Bows") (by decide +kernel) rfl rfl (Nat.le_of_ble_eq_true rfl) dX3_init_84 _ rfl ?_
  refine z_world (ws' := [(o, .inr (3, [.ref q1, .ref q2, .ref q3, .ref q4, .ref q5, .ref q6, .ref q7, .ref q8, .int (nI 0), .int (nI 0), .int (nI 0), .int (nI 0), .int (nI 0), .null])), (q1, .inl (y 0, 4, .inl (upd (upd (upd (upd (fun _ => nI 0) 0 (nI 2)) 1 (nI 3)) 2 (nI 9)) 3 (nI 3)))), (q2, .inl (y 0, 9, .inl (fun _ => nI 0))), (q3, .inl (y 0, 9, .inl (fun _ => nI 0))), (q4, .inl (y 0, 9, .inl (fun _ => nI 0))), (q5, .inl (y 0, 9, .inl (fun _ => nI 0))), (q6, .inl (y 0, 9, .inl (fun _ => nI 0))), (q7, .inl (y 0, 9, .inl (fun _ => nI 0))), (q8, .inr (0, [.ref q9, .ref q10, .int (nI 0), .int (nI 0), .int (nI 0), .int (nI 0)])), (q9, .inl (y 0, 81, .inl (fun _ => nI 0))), (q10, .inl (y 0, 9, .inl (fun _ => nI 0)))]) rfl ?_
  refine z_aload_n G dX3_init_87 0 rfl ?_
  refine z_bipush (v := nI 9) G dX3_init_88 rfl ?_
  refine z_newa (k' := 11) (n' := 163) G (atype := .int) (ty := .int) rfl (List.mem_of_getElem? (i := 4) rfl) 0 (cY := y 0) rfl (by decide) rfl (by decide) rfl rfl (Nat.le_of_ble_eq_true rfl) (Nat.le_of_ble_eq_true rfl) dX3_init_90 (fun q11 => ?_)
  refine z_putF (own := RX3) G hI2 in_X3_init_X3 tyX3 tyX3_ok nmX3 0 rfl rfl 13 (by decide) (List.mem_of_getElem? (i := 16) rfl) rfl rfl (ty := .array .int) (by decide +kernel) rfl rfl (Nat.le_of_ble_eq_true rfl) dX3_init_92 _ rfl ?_
  refine z_world (ws' := [(o, .inr (3, [.ref q1, .ref q2, .ref q3, .ref q4, .ref q5, .ref q6, .ref q7, .ref q8, .int (nI 0), .int (nI 0), .int (nI 0), .int (nI 0), .int (nI 0), .ref q11])), (q1, .inl (y 0, 4, .inl (upd (upd (upd (upd (fun _ => nI 0) 0 (nI 2)) 1 (nI 3)) 2 (nI 9)) 3 (nI 3)))), (q2, .inl (y 0, 9, .inl (fun _ => nI 0))), (q3, .inl (y 0, 9, .inl (fun _ => nI 0))), (q4, .inl (y 0, 9, .inl (fun _ => nI 0))), (q5, .inl (y 0, 9, .inl (fun _ => nI 0))), (q6, .inl (y 0, 9, .inl (fun _ => nI 0))), (q7, .inl (y 0, 9, .inl (fun _ => nI 0)))] ++ ([(q8, .inr (0, [.ref q9, .ref q10, .int (nI 0), .int (nI 0), .int (nI 0), .int (nI 0)])), (q9, .inl (y 0, 81, .inl (fun _ => nI 0))), (q10, .inl (y 0, 9, .inl (fun _ => nI 0)))] ++ [(q11, .inl (y 0, 9, .inl (fun _ => nI 0)))])) rfl ?_
  refine z_perm (List.Perm.append_left _ List.perm_append_comm) ?_
  have hr := rm_init y (fun i => [o, q1, q2, q3, q4, q5, q6, q7, q11, q8, q9, q10].getD i 0)
  refine z_world (ws' := rmW y (fun i => [o, q1, q2, q3, q4, q5, q6, q7, q11, q8, q9, q10].getD i 0) iF zF) (Eq.trans rfl hr) ?_
  exact hE _ _ _ dX3_init_95 ⟨_, rfl, rfl⟩
theorem k_X4_init : zCal yX4_init wsX4_init cX4_init 1 none 0 := ⟨⟨_, rfl⟩, by decide +kernel⟩
theorem in_X4_init_X4 : ∀ w ∈ wsX40, w ∈ wsX4_init := fun _ h => List.mem_cons_of_mem _ (List.mem_append_left _ (List.mem_append_right _ h))
theorem in_X4_init_X3 : ∀ w ∈ wsX30, w ∈ wsX4_init := fun _ h => List.mem_cons_of_mem _ (List.mem_append_left _ (List.mem_append_left _ (List.mem_append_right _ h)))
set_option maxHeartbeats 4000000 in
set_option maxRecDepth 100000 in
theorem c_X4_init (l : Launch) (D : va_G) (y : Nat → ClassId) (o : Nat) : zMvI l D y yX4_init wsX4_init ({ frames := 3, cells := 12, slots := 177, locals := 52 }) [.ref o] [(o, .inr (4, [.null, .int (nI 0)]))] (fun w => ∃ a : Nat → Nat, w = slW (fun _ => o) (a 0) (nI 0) ++ rmW y a iF zF) := by
  refine zMvI.mk (cc := cX4_init) (maxL := 1) (lv := [(0, .ref o)]) (by decide) rfl rfl (Nat.le_of_ble_eq_true rfl) rfl (fun X G hI hI2 hE => ?_)
  refine z_aload_n G dX4_init_0 0 rfl ?_
  refine z_objI G (List.mem_of_getElem? (i := 1) rfl) (List.mem_of_getElem? (i := 2) rfl) (List.mem_of_getElem? (i := 3) rfl) (Nat.le_of_ble_eq_true rfl) (Nat.le_of_ble_eq_true rfl) dX4_init_1 ?_
  refine z_aload_n G dX4_init_4 0 rfl ?_
  refine z_new (k' := 1) (n' := 14) (ci := 3) G in_X4_init_X3 tyX3 tyX3_ok (List.mem_of_getElem? (i := 4) rfl) (List.mem_of_getElem? (i := 5) rfl) (List.mem_of_getElem? (i := 6) rfl) rfl [.null, .null, .null, .null, .null, .null, .null, .null, .int (nI 0), .int (nI 0), .int (nI 0), .int (nI 0), .int (nI 0), .null] nw_X3 rfl rfl (Nat.le_of_ble_eq_true rfl) (Nat.le_of_ble_eq_true rfl) dX4_init_5 (fun q1 => ?_)
  refine z_dup G dX4_init_8 rfl ?_
  refine z_perm List.perm_append_comm ?_
  refine z_callIN (k' := 12) (n' := 177) G hI (As := []) (fun l => c_X3_init l D y q1) k_X3_init gX4_init_X3_init_n9 (List.mem_of_getElem? (i := 6) rfl) (host := "TeaSeats") (fun U h => h.2.2.2.2.1) (List.mem_of_getElem? (i := 8) rfl) rfl dX4_init_9 ⟨by decide, by decide⟩ rfl rfl (Nat.le_of_ble_eq_true rfl) (Nat.le_of_ble_eq_true rfl) rfl (Nat.le_of_ble_eq_true rfl) _ rfl (fun w1 hw => ?_)
  obtain ⟨a, rfl, rfl⟩ := hw
  refine z_perm List.perm_append_comm ?_
  refine z_putF (own := RX4) G hI2 in_X4_init_X4 tyX4 tyX4_ok nmX4 0 rfl rfl 0 (by decide) (List.mem_of_getElem? (i := 7) rfl) rfl rfl (ty := .object "TeaSeats$Room") (by decide +kernel) rfl rfl (Nat.le_of_ble_eq_true rfl) dX4_init_12 _ rfl ?_
  refine z_world (ws' := slW (fun _ => o) (a 0) (nI 0) ++ rmW y a iF zF) rfl ?_
  exact hE _ _ _ dX4_init_15 ⟨_, rfl⟩
theorem rgW_cg {y : Nat → ClassId} {A A' : Nat → Nat → Nat} {G K : Nat → Nat → Int32} : ∀ n, (∀ i, i < n → A i = A' i) → rgW y A G K n = rgW y A' G K n
  | 0, _ => rfl
  | n + 1, h => by rw [rgW, rgW, rgW_cg n (fun i hi => h i (by omega)), h n (by omega)]
def hiA (A : Nat → Nat → Nat) (j : Nat) : Nat → Option Nat := fun i => if i < j then some (A i 0) else none
def upA (A : Nat → Nat → Nat) (j : Nat) (a : Nat → Nat) : Nat → Nat → Nat := fun i => if i = j then a else A i
theorem hiA_0 (A : Nat → Nat → Nat) : (fun _ => none) = hiA A 0 := by
  funext i
  rw [hiA, if_neg (by omega)]
theorem hiA_s (A : Nat → Nat → Nat) (j : Nat) (a : Nat → Nat) : va_up (hiA A j) j (some (a 0)) = hiA (upA A j a) (j + 1) := by
  funext i
  by_cases e : i = j
  · rw [hiA, if_pos (show i < j + 1 by omega), upA, if_pos e]
    exact if_pos e
  · show (if i = j then some (a 0) else hiA A j i) = _
    rw [if_neg e, hiA, hiA, upA, if_neg e]
    by_cases l : i < j
    · rw [if_pos l, if_pos (show i < j + 1 by omega)]
    · rw [if_neg l, if_neg (show ¬ i < j + 1 by omega)]
theorem rg_s (y : Nat → ClassId) (A : Nat → Nat → Nat) (G K : Nat → Nat → Int32) (j : Nat) (a : Nat → Nat) : rgW y A G K j ++ rmW y a (G j) (K j) = rgW y (upA A j a) G K (j + 1) := by
  rw [rgW, rgW_cg (A := A) (A' := upA A j a) j (fun i hi => by rw [upA, if_neg (by omega)])]
  show _ = _ ++ rmW y (if j = j then a else A j) _ _
  rw [if_pos rfl]

theorem k_X1_init : zCal yX1_init wsX1_init cX1_init 2 none 0 := ⟨⟨_, rfl⟩, by decide +kernel⟩
theorem in_X1_init_X1 : ∀ w ∈ wsX10, w ∈ wsX1_init := fun _ h => List.mem_cons_of_mem _ (List.mem_append_left _ (List.mem_append_left _ (List.mem_append_right _ h)))
theorem in_X1_init_X3 : ∀ w ∈ wsX30, w ∈ wsX1_init := fun _ h => List.mem_cons_of_mem _ (List.mem_append_left _ (List.mem_append_right _ h))
set_option maxHeartbeats 4000000 in
set_option maxRecDepth 100000 in
theorem c_X1_init (l : Launch) (D : va_G) (y : Nat → ClassId) (o : Nat) : zMvI l D y yX1_init wsX1_init ({ frames := 3, cells := 73, slots := 1068, locals := 52 }) [.ref o] [(o, .inr (1, [.null, .int (nI 0), .int (nI 0)]))] (fun w => ∃ (h : Nat → Nat) (A : Nat → Nat → Nat), h 0 = o ∧ w = hiW y h A (nI 0) (nI 0) ++ rgW y A (fun _ => iF) (fun _ => zF) 6) := by
  refine zMvI.mk (cc := cX1_init) (maxL := 2) (lv := [(0, .ref o)]) (by decide) rfl rfl (Nat.le_of_ble_eq_true rfl) rfl (fun X G hI hI2 hE => ?_)
  refine z_aload_n G dX1_init_0 0 rfl ?_
  refine z_objI G (List.mem_of_getElem? (i := 1) rfl) (List.mem_of_getElem? (i := 2) rfl) (List.mem_of_getElem? (i := 3) rfl) (Nat.le_of_ble_eq_true rfl) (Nat.le_of_ble_eq_true rfl) dX1_init_1 ?_
  refine z_aload_n G dX1_init_4 0 rfl ?_
  refine z_bipush (v := nI 6) G dX1_init_5 rfl ?_
  refine z_newq (k' := 1) (n' := 6) G hI (List.mem_of_getElem? (i := 4) rfl) (by decide) rfl rfl (Nat.le_of_ble_eq_true rfl) (Nat.le_of_ble_eq_true rfl) dX1_init_7 (fun q1 => ?_)
  refine z_putF (own := RX1) G hI2 in_X1_init_X1 tyX1 tyX1_ok nmX1 0 rfl rfl 0 (by decide) (List.mem_of_getElem? (i := 5) rfl) rfl rfl (ty := .array (.object "TeaSeats$Room")) (by decide +kernel) rfl rfl (Nat.le_of_ble_eq_true rfl) dX1_init_10 _ rfl ?_
  refine z_world (ws' := [(o, .inr (1, [.ref q1, .int (nI 0), .int (nI 0)])), (q1, .inl (y 3, 6, .inr (.inr (.inr (.inr (fun _ => none))))))]) rfl ?_
  refine z_iconst (v := nI 0) G dX1_init_13 rfl ?_
  refine z_istore_nA G dX1_init_14 rfl (by decide) rfl ?_
  have lo : ∀ (n j : Nat) (A : Nat → Nat → Nat), n + j = 6 → zV D X ([(o, .inr (1, [.ref q1, .int (nI 0), .int (nI 0)])), (q1, .inl (y 3, 6, .inr (.inr (.inr (.inr (hiA A (j)))))))] ++ rgW y A (fun _ => iF) (fun _ => zF) (j)) (1 + 12 * j) (6 + 177 * j) 15 [(0, .ref o), (1, .int (nI j))] [] := by
    intro n
    induction n with
    | zero =>
      intro j A hj
      obtain rfl : j = 6 := by omega
      refine z_iload_n G dX1_init_15 1 rfl ?_
      refine z_bipush (v := nI 6) G dX1_init_16 rfl ?_
      refine z_icmp_geT G dX1_init_18 40 (by decide) (nI_le (Nat.le_refl _) (by decide)) ?_
      refine z_world (ws' := hiW y (fun i => if i = 0 then o else q1) A (nI 0) (nI 0) ++ rgW y A (fun _ => iF) (fun _ => zF) 6) rfl ?_
      exact hE _ _ _ dX1_init_40 ⟨_, _, rfl, rfl⟩
    | succ n ih =>
      intro j A hj
      have lj : j < 6 := by omega
      refine z_iload_n G dX1_init_15 1 rfl ?_
      refine z_bipush (v := nI 6) G dX1_init_16 rfl ?_
      refine z_icmp_geF G dX1_init_18 40 (by decide) (nI_ge lj (by decide)) ?_
      refine z_aload_n G dX1_init_21 0 rfl ?_
      refine z_get G in_X1_init_X1 0 rfl rfl 0 (by decide) (List.mem_of_getElem? (i := 5) rfl) rfl dX1_init_22 ?_
      refine z_iload_n G dX1_init_25 1 rfl ?_
      refine z_new (k' := 2 + 12 * j) (n' := 20 + 177 * j) (ci := 3) G in_X1_init_X3 tyX3 tyX3_ok (List.mem_of_getElem? (i := 4) rfl) (List.mem_of_getElem? (i := 6) rfl) (List.mem_of_getElem? (i := 7) rfl) rfl [.null, .null, .null, .null, .null, .null, .null, .null, .int (nI 0), .int (nI 0), .int (nI 0), .int (nI 0), .int (nI 0), .null] nw_X3 (by omega) (by omega) (by show _ ≤ 73; omega) (by show _ ≤ 1068; omega) dX1_init_26 (fun q2 => ?_)
      refine z_dup G dX1_init_29 rfl ?_
      refine z_perm List.perm_append_comm ?_
      refine z_callIN (k' := 1 + 12 * (j + 1)) (n' := 6 + 177 * (j + 1)) G hI (As := []) (fun l => c_X3_init l D y q2) k_X3_init gX1_init_X3_init_n17 (List.mem_of_getElem? (i := 7) rfl) (host := "TeaSeats") (fun U h => h.2.2.2.2.2.1) (List.mem_of_getElem? (i := 8) rfl) rfl dX1_init_30 ⟨by decide, by decide⟩ (by show _ + 11 = _; omega) (by show _ + 163 = _; omega) (by show _ ≤ 73; omega) (by show _ ≤ 1068; omega) rfl (Nat.le_of_ble_eq_true rfl) _ rfl (fun w1 hw => ?_)
      obtain ⟨a, rfl, rfl⟩ := hw
      refine z_astq G 13 0 rfl rfl lj (by decide) dX1_init_33 (rmW y a iF zF ++ ([(o, .inr (1, [.ref q1, .int (nI 0), .int (nI 0)])), (q1, .inl (y 3, 6, .inr (.inr (.inr (.inr (va_up (hiA A j) j (some (a 0))))))))] ++ rgW y A (fun _ => iF) (fun _ => zF) j)) rfl ?_
      rw [hiA_s]
      refine z_perm List.perm_append_comm ?_
      refine z_world (ws' := [(o, .inr (1, [.ref q1, .int (nI 0), .int (nI 0)])), (q1, .inl (y 3, 6, .inr (.inr (.inr (.inr (hiA (upA A j a) (j + 1)))))))] ++ rgW y (upA A j a) (fun _ => iF) (fun _ => zF) (j + 1)) (by rw [← rg_s, List.append_assoc]) ?_
      refine z_iinc G dX1_init_34 1 rfl (nI (j + 1)) (nI_inc _) (by decide) rfl ?_
      refine z_goto (tgt := 15) G dX1_init_37 (by decide) ?_
      exact ih (j + 1) (upA A j a) (by omega)
  refine z_world (ws' := [(o, .inr (1, [.ref q1, .int (nI 0), .int (nI 0)])), (q1, .inl (y 3, 6, .inr (.inr (.inr (.inr (hiA (fun _ _ => 0) (0)))))))] ++ rgW y (fun _ _ => 0) (fun _ => iF) (fun _ => zF) (0)) (by rw [← hiA_0]; rfl) ?_
  exact lo 6 0 (fun _ _ => 0) rfl