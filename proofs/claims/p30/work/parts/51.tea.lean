theorem k_X5_set : zCal yX5_set wsX5_set cX5_set 3 (some .int) 2 := ⟨⟨_, rfl⟩, by decide +kernel⟩
theorem in_X5_set_X5 : ∀ w ∈ wsX50, w ∈ wsX5_set := fun _ h => List.mem_cons_of_mem _ (List.mem_append_left _ (List.mem_append_left _ (List.mem_append_left _ (List.mem_append_right _ h))))
set_option maxHeartbeats 4000000 in
set_option maxRecDepth 100000 in
theorem c_X5_set (l : Launch) (D : va_G) (y : Nat → ClassId) (ms : Nat) (e A : Nat → Nat → Nat) (R Q : Nat → Nat → Int32) (b0 b1 : Bool) (nx kp : Nat) (Gr K : Nat → Nat → Int32) (t : Nat → Int32) (len : Nat) (hn : nx < 6) (hk : kp ≤ 6) (x v : Int32) : zDiS l D y ms yX5_set wsX5_set ({ frames := 6, cells := 0, slots := 0, locals := 145 }) [.ref (e 0 0), .int (x), .int (v)] (tsW y e A R Q b0 b1 nx kp Gr K t len) ((seR (R 1) x v).1) (tsW y e A (upG (upG R 2 (R 1)) 1 ((seR (R 1) x v).2)) Q b0 b1 (rcN nx ((seR (R 1) x v).1)) (rcP kp ((seR (R 1) x v).1)) (rcG Gr nx (R 1) ((seR (R 1) x v).1)) K t len) := by
  refine zMiS.mk (cc := cX5_set) (maxL := 3) (lv := [(0, .ref (e 0 0)), (1, .int (x)), (2, .int (v))]) (by decide) rfl (Nat.le_of_ble_eq_true rfl) rfl (fun X G hZ hE => ?_)
  have hin := in_X5_set_X5
  unfold tsW at hE ⊢
  refine z_aload_n G dX5_set_0 0 rfl ?_
  refine z_get G (hin) 0 rfl rfl 1 (by decide) (List.mem_of_getElem? (i := 1) rfl) rfl dX5_set_1 ?_
  refine z_aload_n G dX5_set_4 0 rfl ?_
  refine z_get G (hin) 0 rfl rfl 0 (by decide) (List.mem_of_getElem? (i := 2) rfl) rfl dX5_set_5 ?_
  refine z_pVv (As := [_]) G _ _ (fun l => c_X3_copyFrom l D y (e 2) (e 1) (R 2) (Q 2) (R 1) (Q 1)) k_X3_copyFrom gX5_set_X3_copyFrom 0 3 rfl rfl rfl dX5_set_8 ⟨by decide, by decide⟩ ⟨rfl, rfl⟩ ⟨Nat.zero_le _, Nat.zero_le _⟩ rfl (Nat.le_of_ble_eq_true rfl) rfl (fl_two (j := 2) (k := 1) rfl rfl) (fl_two2 (j := 2) (k := 1) rfl rfl) ?_
  refine z_aload_n G dX5_set_11 0 rfl ?_
  refine z_aload_n G dX5_set_12 0 rfl ?_
  refine z_get G (hin) 0 rfl rfl 0 (by decide) (List.mem_of_getElem? (i := 2) rfl) rfl dX5_set_13 ?_
  refine z_iload_n G dX5_set_16 1 rfl ?_
  refine z_iload_n G dX5_set_17 2 rfl ?_
  refine z_pViS hZ (As := [_, _]) G _ _ _ (fun l => c_X3_changeSetting l D y ms (e 1) (R 1) (Q 1) x v) k_X3_changeSetting gX5_set_X3_changeSetting 0 3 rfl rfl rfl dX5_set_18 ⟨by decide, by decide⟩ ⟨rfl, rfl⟩ ⟨Nat.zero_le _, Nat.zero_le _⟩ rfl (Nat.le_of_ble_eq_true rfl) rfl (fl_pick (k := 1) rfl) (fl_put (k := 1) rfl) ?_
  refine z_world (ws' := tsW y e A (upG (upG R 2 (R 1)) 1 ((seR (R 1) x v).2)) Q b0 b1 nx kp Gr K t len) rfl ?_
  refine z_dVi (As := [_]) G _ _ (fun l => c_X5_recorded l D y e A (upG (upG R 2 (R 1)) 1 ((seR (R 1) x v).2)) Q b0 b1 nx kp Gr K t len hn hk ((seR (R 1) x v).1)) k_X5_recorded gX5_set_X5_recorded 0 5 rfl rfl rfl dX5_set_21 ⟨by decide, by decide⟩ ⟨rfl, rfl⟩ ⟨Nat.zero_le _, Nat.zero_le _⟩ rfl (Nat.le_of_ble_eq_true rfl) rfl ?_
  exact hE _ _ _ _ dX5_set_24 rfl ⟨rfl, rfl⟩

theorem k_X5_undo : zCal yX5_undo wsX5_undo cX5_undo 1 (some .int) 0 := ⟨⟨_, rfl⟩, by decide +kernel⟩
theorem in_X5_undo_X5 : ∀ w ∈ wsX50, w ∈ wsX5_undo := fun _ h => List.mem_cons_of_mem _ (List.mem_append_left _ (List.mem_append_left _ (List.mem_append_left _ (List.mem_append_right _ h))))
set_option maxHeartbeats 4000000 in
set_option maxRecDepth 100000 in
theorem c_X5_undo_0 (l : Launch) (D : va_G) (y : Nat → ClassId) (e A : Nat → Nat → Nat) (R Q : Nat → Nat → Int32) (b0 b1 : Bool) (nx kp : Nat) (Gr K : Nat → Nat → Int32) (t : Nat → Int32) (len : Nat) : zDi l D y yX5_undo wsX5_undo ({ frames := 5, cells := 0, slots := 0, locals := 124 }) [.ref (e 0 0)] (tsW y e A R Q b0 b1 nx 0 Gr K t len) (-5) (tsW y e A R Q b0 b1 nx 0 Gr K t len) := by
  refine zMi.mk (cc := cX5_undo) (maxL := 1) (lv := [(0, .ref (e 0 0))]) (by decide) rfl (Nat.le_of_ble_eq_true rfl) rfl (fun X G hE => ?_)
  have hin := in_X5_undo_X5
  unfold tsW at hE ⊢
  refine z_aload_n G dX5_undo_0 0 rfl ?_
  refine z_get G (hin) 0 rfl rfl 5 (by decide) (List.mem_of_getElem? (i := 1) rfl) rfl dX5_undo_1 ?_
  refine z_aload_n G dX5_undo_4 0 rfl ?_
  refine z_get G (hin) 0 rfl rfl 0 (by decide) (List.mem_of_getElem? (i := 2) rfl) rfl dX5_undo_5 ?_
  refine z_pVi (As := [_]) G _ _ _ (fun l => c_X1_takeBack_0 l D y (e 8) A (nI nx) (e 1)) k_X1_takeBack gX5_undo_X1_takeBack 0 1 rfl rfl rfl dX5_undo_8 ⟨by decide, by decide⟩ ⟨rfl, rfl⟩ ⟨Nat.zero_le _, Nat.zero_le _⟩ rfl (Nat.le_of_ble_eq_true rfl) rfl (fl_pick (k := 8) rfl) (fl_put (k := 8) rfl) ?_
  exact hE _ _ _ _ dX5_undo_11 rfl ⟨rfl, rfl⟩

set_option maxHeartbeats 4000000 in
set_option maxRecDepth 100000 in
theorem c_X5_undo (l : Launch) (D : va_G) (y : Nat → ClassId) (e A : Nat → Nat → Nat) (R Q : Nat → Nat → Int32) (b0 b1 : Bool) (nx kp : Nat) (Gr K : Nat → Nat → Int32) (t : Nat → Int32) (len : Nat) (hn : nx < 6) (hk : kp < 6) : zDi l D y yX5_undo wsX5_undo ({ frames := 5, cells := 0, slots := 0, locals := 124 }) [.ref (e 0 0)] (tsW y e A R Q b0 b1 nx (kp + 1) Gr K t len) (nI kp) (tsW y e A (upG R 1 (Gr (nxP nx))) Q b0 b1 (nxP nx) kp Gr K t len) := by
  refine zMi.mk (cc := cX5_undo) (maxL := 1) (lv := [(0, .ref (e 0 0))]) (by decide) rfl (Nat.le_of_ble_eq_true rfl) rfl (fun X G hE => ?_)
  have hin := in_X5_undo_X5
  unfold tsW at hE ⊢
  refine z_aload_n G dX5_undo_0 0 rfl ?_
  refine z_get G (hin) 0 rfl rfl 5 (by decide) (List.mem_of_getElem? (i := 1) rfl) rfl dX5_undo_1 ?_
  refine z_aload_n G dX5_undo_4 0 rfl ?_
  refine z_get G (hin) 0 rfl rfl 0 (by decide) (List.mem_of_getElem? (i := 2) rfl) rfl dX5_undo_5 ?_
  refine z_pVi (As := [_]) G _ _ _ (fun l => c_X1_takeBack l D y (e 8) A (e 1) (Gr (nxP nx)) (K (nxP nx)) (R 1) (Q 1) hn hk) k_X1_takeBack gX5_undo_X1_takeBack 0 1 rfl rfl rfl dX5_undo_8 ⟨by decide, by decide⟩ ⟨rfl, rfl⟩ ⟨Nat.zero_le _, Nat.zero_le _⟩ rfl (Nat.le_of_ble_eq_true rfl) rfl (kp_permB (i := 8) (j := 8) (k := 1) rfl rfl rfl (nxP_lt hn)) (kp_permB (Bs := tsB y e A (upG R 1 (Gr (nxP nx))) Q b0 b1 (nxP nx) kp Gr K t len) (i := 8) (j := 8) (k := 1) rfl rfl rfl (nxP_lt hn)).symm ?_
  exact hE _ _ _ _ dX5_undo_11 rfl ⟨rfl, rfl⟩
