theorem k_X5_slotNumbered : zCal yX5_slotNumbered wsX5_slotNumbered cX5_slotNumbered 2 (some (.object "TeaSeats$Slot")) 1 := ⟨⟨_, rfl⟩, by decide +kernel⟩
theorem in_X5_slotNumbered_X5 : ∀ w ∈ wsX50, w ∈ wsX5_slotNumbered := fun _ h => List.mem_cons_of_mem _ (List.mem_append_right _ h)
set_option maxHeartbeats 4000000 in
set_option maxRecDepth 100000 in
theorem c_X5_slotNumbered_0 (l : Launch) (D : va_G) (y : Nat → ClassId) (e A : Nat → Nat → Nat) (R Q : Nat → Nat → Int32) (b0 b1 : Bool) (nx kp : Nat) (Gr K : Nat → Nat → Int32) (t : Nat → Int32) (len : Nat) : zDr l D y yX5_slotNumbered wsX5_slotNumbered ({ frames := 0, cells := 0, slots := 0, locals := 0 }) [.ref (e 0 0), .int (nI (0))] (tsW y e A R Q b0 b1 nx kp Gr K t len) (e 4 0) (tsW y e A R Q b0 b1 nx kp Gr K t len) := by
  refine zMr.mk (cc := cX5_slotNumbered) (maxL := 2) (lv := [(0, .ref (e 0 0)), (1, .int (nI (0)))]) (by decide) rfl (Nat.le_of_ble_eq_true rfl) rfl (fun X G hE => ?_)
  have hin := in_X5_slotNumbered_X5
  unfold tsW at hE ⊢
  refine z_iload_n G dX5_slotNumbered_0 1 rfl ?_
  refine z_if_neF G dX5_slotNumbered_1 11 (by decide) (by decide) ?_
  refine z_aload_n G dX5_slotNumbered_4 0 rfl ?_
  refine z_get G (hin) 0 rfl rfl 3 (by decide) (List.mem_of_getElem? (i := 1) rfl) rfl dX5_slotNumbered_5 ?_
  refine z_goto (tgt := 15) G dX5_slotNumbered_8 (by decide) ?_
  exact hE _ _ _ _ dX5_slotNumbered_15 ⟨rfl, rfl⟩

set_option maxHeartbeats 4000000 in
set_option maxRecDepth 100000 in
theorem c_X5_slotNumbered_1 (l : Launch) (D : va_G) (y : Nat → ClassId) (e A : Nat → Nat → Nat) (R Q : Nat → Nat → Int32) (b0 b1 : Bool) (nx kp : Nat) (Gr K : Nat → Nat → Int32) (t : Nat → Int32) (len : Nat) : zDr l D y yX5_slotNumbered wsX5_slotNumbered ({ frames := 0, cells := 0, slots := 0, locals := 0 }) [.ref (e 0 0), .int (nI (1))] (tsW y e A R Q b0 b1 nx kp Gr K t len) (e 6 0) (tsW y e A R Q b0 b1 nx kp Gr K t len) := by
  refine zMr.mk (cc := cX5_slotNumbered) (maxL := 2) (lv := [(0, .ref (e 0 0)), (1, .int (nI (1)))]) (by decide) rfl (Nat.le_of_ble_eq_true rfl) rfl (fun X G hE => ?_)
  have hin := in_X5_slotNumbered_X5
  unfold tsW at hE ⊢
  refine z_iload_n G dX5_slotNumbered_0 1 rfl ?_
  refine z_if_neT G dX5_slotNumbered_1 11 (by decide) (by decide) ?_
  refine z_aload_n G dX5_slotNumbered_11 0 rfl ?_
  refine z_get G (hin) 0 rfl rfl 4 (by decide) (List.mem_of_getElem? (i := 2) rfl) rfl dX5_slotNumbered_12 ?_
  exact hE _ _ _ _ dX5_slotNumbered_15 ⟨rfl, rfl⟩

theorem k_X5_save : zCal yX5_save wsX5_save cX5_save 2 (some .int) 1 := ⟨⟨_, rfl⟩, by decide +kernel⟩
theorem in_X5_save_X5 : ∀ w ∈ wsX50, w ∈ wsX5_save := fun _ h => List.mem_cons_of_mem _ (List.mem_append_left _ (List.mem_append_left _ (List.mem_append_left _ (List.mem_append_right _ h))))
set_option maxHeartbeats 4000000 in
set_option maxRecDepth 100000 in
theorem c_X5_save_out (l : Launch) (D : va_G) (y : Nat → ClassId) (e A : Nat → Nat → Nat) (R Q : Nat → Nat → Int32) (b0 b1 : Bool) (nx kp : Nat) (Gr K : Nat → Nat → Int32) (t : Nat → Int32) (len : Nat) (x : Int32) (hx : s01 x = false) : zDi l D y yX5_save wsX5_save ({ frames := 4, cells := 0, slots := 0, locals := 103 }) [.ref (e 0 0), .int (x)] (tsW y e A R Q b0 b1 nx kp Gr K t len) (-2) (tsW y e A R Q b0 b1 nx kp Gr K t len) := by
  refine zMi.mk (cc := cX5_save) (maxL := 2) (lv := [(0, .ref (e 0 0)), (1, .int (x))]) (by decide) rfl (Nat.le_of_ble_eq_true rfl) rfl (fun X G hE => ?_)
  have hin := in_X5_save_X5
  unfold tsW at hE ⊢
  refine z_iload_n G dX5_save_0 1 rfl ?_
  refine z_if_lt G dX5_save_1 9 (by decide) (fun c1 => ?_) (fun c1 => ?_)
  · refine z_bipush (v := (-2)) G dX5_save_9 rfl ?_
    exact hE _ _ _ _ dX5_save_11 rfl ⟨rfl, rfl⟩
  · refine z_iload_n G dX5_save_4 1 rfl ?_
    refine z_iconst (v := nI 1) G dX5_save_5 rfl ?_
    refine z_icmp_leF G dX5_save_6 12 (by decide) (fun z => s01_out hx (Int32.not_lt.mp c1) z) ?_
    refine z_bipush (v := (-2)) G dX5_save_9 rfl ?_
    exact hE _ _ _ _ dX5_save_11 rfl ⟨rfl, rfl⟩

theorem k_X5_restore : zCal yX5_restore wsX5_restore cX5_restore 2 (some .int) 1 := ⟨⟨_, rfl⟩, by decide +kernel⟩
theorem in_X5_restore_X5 : ∀ w ∈ wsX50, w ∈ wsX5_restore := fun _ h => List.mem_cons_of_mem _ (List.mem_append_left _ (List.mem_append_left _ (List.mem_append_left _ (List.mem_append_left _ (List.mem_append_right _ h)))))
set_option maxHeartbeats 4000000 in
set_option maxRecDepth 100000 in
theorem c_X5_restore_out (l : Launch) (D : va_G) (y : Nat → ClassId) (e A : Nat → Nat → Nat) (R Q : Nat → Nat → Int32) (b0 b1 : Bool) (nx kp : Nat) (Gr K : Nat → Nat → Int32) (t : Nat → Int32) (len : Nat) (x : Int32) (hx : s01 x = false) : zDi l D y yX5_restore wsX5_restore ({ frames := 6, cells := 0, slots := 0, locals := 145 }) [.ref (e 0 0), .int (x)] (tsW y e A R Q b0 b1 nx kp Gr K t len) (-2) (tsW y e A R Q b0 b1 nx kp Gr K t len) := by
  refine zMi.mk (cc := cX5_restore) (maxL := 2) (lv := [(0, .ref (e 0 0)), (1, .int (x))]) (by decide) rfl (Nat.le_of_ble_eq_true rfl) rfl (fun X G hE => ?_)
  have hin := in_X5_restore_X5
  unfold tsW at hE ⊢
  refine z_iload_n G dX5_restore_0 1 rfl ?_
  refine z_if_lt G dX5_restore_1 9 (by decide) (fun c1 => ?_) (fun c1 => ?_)
  · refine z_bipush (v := (-2)) G dX5_restore_9 rfl ?_
    exact hE _ _ _ _ dX5_restore_11 rfl ⟨rfl, rfl⟩
  · refine z_iload_n G dX5_restore_4 1 rfl ?_
    refine z_iconst (v := nI 1) G dX5_restore_5 rfl ?_
    refine z_icmp_leF G dX5_restore_6 12 (by decide) (fun z => s01_out hx (Int32.not_lt.mp c1) z) ?_
    refine z_bipush (v := (-2)) G dX5_restore_9 rfl ?_
    exact hE _ _ _ _ dX5_restore_11 rfl ⟨rfl, rfl⟩

set_option maxHeartbeats 4000000 in
set_option maxRecDepth 100000 in
theorem c_X5_save_0 (l : Launch) (D : va_G) (y : Nat → ClassId) (e A : Nat → Nat → Nat) (R Q : Nat → Nat → Int32) (b0 b1 : Bool) (nx kp : Nat) (Gr K : Nat → Nat → Int32) (t : Nat → Int32) (len : Nat) (h : IV (R 1)) : zDi l D y yX5_save wsX5_save ({ frames := 4, cells := 0, slots := 0, locals := 103 }) [.ref (e 0 0), .int (nI (0))] (tsW y e A R Q b0 b1 nx kp Gr K t len) (nI (ng (R 1))) (tsW y e A (upG R 5 (R 1)) Q true b1 nx kp Gr K t len) := by
  refine zMi.mk (cc := cX5_save) (maxL := 2) (lv := [(0, .ref (e 0 0)), (1, .int (nI (0)))]) (by decide) rfl (Nat.le_of_ble_eq_true rfl) rfl (fun X G hE => ?_)
  have hin := in_X5_save_X5
  unfold tsW at hE ⊢
  refine z_iload_n G dX5_save_0 1 rfl ?_
  refine z_if_ltF G dX5_save_1 9 (by decide) (by decide) ?_
  refine z_iload_n G dX5_save_4 1 rfl ?_
  refine z_iconst (v := nI 1) G dX5_save_5 rfl ?_
  refine z_icmp_leT G dX5_save_6 12 (by decide) (by decide) ?_
  refine z_aload_n G dX5_save_12 0 rfl ?_
  refine z_iload_n G dX5_save_13 1 rfl ?_
  refine z_dVr (As := [_]) G _ _ (fun l => c_X5_slotNumbered_0 l D y e A R Q b0 b1 nx kp Gr K t len) k_X5_slotNumbered gX5_save_X5_slotNumbered 0 5 rfl rfl rfl dX5_save_14 ⟨by decide, by decide⟩ ⟨rfl, rfl⟩ ⟨Nat.zero_le _, Nat.zero_le _⟩ rfl (Nat.le_of_ble_eq_true rfl) rfl ?_
  refine z_aload_n G dX5_save_17 0 rfl ?_
  refine z_get G (hin) 0 rfl rfl 0 (by decide) (List.mem_of_getElem? (i := 1) rfl) rfl dX5_save_18 ?_
  refine z_pVv (As := [_]) G _ _ (fun l => c_X4_fill l D y (e 4) (e 1) (e 5) (bI b0) (R 1) (Q 1) (R 5) (Q 5)) k_X4_fill gX5_save_X4_fill 0 4 rfl rfl rfl dX5_save_21 ⟨by decide, by decide⟩ ⟨rfl, rfl⟩ ⟨Nat.zero_le _, Nat.zero_le _⟩ rfl (Nat.le_of_ble_eq_true rfl) rfl (fl_three (i := 4) (j := 4) (k := 1) rfl rfl rfl) (fl_three (Bs := tsB y e A (upG R 5 (R 1)) Q true b1 nx kp Gr K t len) (i := 4) (j := 4) (k := 1) rfl rfl rfl).symm ?_
  refine z_aload_n G dX5_save_24 0 rfl ?_
  refine z_get G (hin) 0 rfl rfl 0 (by decide) (List.mem_of_getElem? (i := 1) rfl) rfl dX5_save_25 ?_
  refine z_pVi (As := []) G _ _ _ (fun l => c_X3_guests l D y (e 1) (R 1) (Q 1) h.pf) k_X3_guests gX5_save_X3_guests 0 3 rfl rfl rfl dX5_save_28 ⟨by decide, by decide⟩ ⟨rfl, rfl⟩ ⟨Nat.zero_le _, Nat.zero_le _⟩ rfl (Nat.le_of_ble_eq_true rfl) rfl (fl_pick (k := 1) rfl) (fl_put (k := 1) rfl) ?_
  exact hE _ _ _ _ dX5_save_31 rfl ⟨rfl, rfl⟩

set_option maxHeartbeats 4000000 in
set_option maxRecDepth 100000 in
theorem c_X5_restore_0f (l : Launch) (D : va_G) (y : Nat → ClassId) (e A : Nat → Nat → Nat) (R Q : Nat → Nat → Int32) (b0 b1 : Bool) (nx kp : Nat) (Gr K : Nat → Nat → Int32) (t : Nat → Int32) (len : Nat) : zDi l D y yX5_restore wsX5_restore ({ frames := 6, cells := 0, slots := 0, locals := 145 }) [.ref (e 0 0), .int (nI (0))] (tsW y e A R Q false b1 nx kp Gr K t len) (-5) (tsW y e A R Q false b1 nx kp Gr K t len) := by
  refine zMi.mk (cc := cX5_restore) (maxL := 2) (lv := [(0, .ref (e 0 0)), (1, .int (nI (0)))]) (by decide) rfl (Nat.le_of_ble_eq_true rfl) rfl (fun X G hE => ?_)
  have hin := in_X5_restore_X5
  unfold tsW at hE ⊢
  refine z_iload_n G dX5_restore_0 1 rfl ?_
  refine z_if_ltF G dX5_restore_1 9 (by decide) (by decide) ?_
  refine z_iload_n G dX5_restore_4 1 rfl ?_
  refine z_iconst (v := nI 1) G dX5_restore_5 rfl ?_
  refine z_icmp_leT G dX5_restore_6 12 (by decide) (by decide) ?_
  refine z_aload_n G dX5_restore_12 0 rfl ?_
  refine z_iload_n G dX5_restore_13 1 rfl ?_
  refine z_dVr (As := [_]) G _ _ (fun l => c_X5_slotNumbered_0 l D y e A R Q false b1 nx kp Gr K t len) k_X5_slotNumbered gX5_restore_X5_slotNumbered 0 5 rfl rfl rfl dX5_restore_14 ⟨by decide, by decide⟩ ⟨rfl, rfl⟩ ⟨Nat.zero_le _, Nat.zero_le _⟩ rfl (Nat.le_of_ble_eq_true rfl) rfl ?_
  refine z_pVi (As := []) G _ _ _ (fun l => c_X4_isFilled l D y (e 4) (e 5 0) false) k_X4_isFilled gX5_restore_X4_isFilled 0 4 rfl rfl rfl dX5_restore_17 ⟨by decide, by decide⟩ ⟨rfl, rfl⟩ ⟨Nat.zero_le _, Nat.zero_le _⟩ rfl (Nat.le_of_ble_eq_true rfl) rfl (fl_pick (k := 4) rfl) (fl_put (k := 4) rfl) ?_
  refine z_if_neF G dX5_restore_20 26 (by decide) (by decide) ?_
  refine z_bipush (v := (-5)) G dX5_restore_23 rfl ?_
  exact hE _ _ _ _ dX5_restore_25 rfl ⟨rfl, rfl⟩

set_option maxHeartbeats 4000000 in
set_option maxRecDepth 100000 in
theorem c_X5_restore_0t (l : Launch) (D : va_G) (y : Nat → ClassId) (e A : Nat → Nat → Nat) (R Q : Nat → Nat → Int32) (b0 b1 : Bool) (nx kp : Nat) (Gr K : Nat → Nat → Int32) (t : Nat → Int32) (len : Nat) (h5 : PF (R 5)) (hn : nx < 6) (hk : kp ≤ 6) : zDi l D y yX5_restore wsX5_restore ({ frames := 6, cells := 0, slots := 0, locals := 145 }) [.ref (e 0 0), .int (nI (0))] (tsW y e A R Q true b1 nx kp Gr K t len) (nI (ng (R 5))) (tsW y e A (upG (upG R 2 (R 1)) 1 (R 5)) Q true b1 (rcN nx (nI (ng (R 5)))) (rcP kp (nI (ng (R 5)))) (rcG Gr nx (R 1) (nI (ng (R 5)))) K t len) := by
  refine zMi.mk (cc := cX5_restore) (maxL := 2) (lv := [(0, .ref (e 0 0)), (1, .int (nI (0)))]) (by decide) rfl (Nat.le_of_ble_eq_true rfl) rfl (fun X G hE => ?_)
  have hin := in_X5_restore_X5
  unfold tsW at hE ⊢
  refine z_iload_n G dX5_restore_0 1 rfl ?_
  refine z_if_ltF G dX5_restore_1 9 (by decide) (by decide) ?_
  refine z_iload_n G dX5_restore_4 1 rfl ?_
  refine z_iconst (v := nI 1) G dX5_restore_5 rfl ?_
  refine z_icmp_leT G dX5_restore_6 12 (by decide) (by decide) ?_
  refine z_aload_n G dX5_restore_12 0 rfl ?_
  refine z_iload_n G dX5_restore_13 1 rfl ?_
  refine z_dVr (As := [_]) G _ _ (fun l => c_X5_slotNumbered_0 l D y e A R Q true b1 nx kp Gr K t len) k_X5_slotNumbered gX5_restore_X5_slotNumbered 0 5 rfl rfl rfl dX5_restore_14 ⟨by decide, by decide⟩ ⟨rfl, rfl⟩ ⟨Nat.zero_le _, Nat.zero_le _⟩ rfl (Nat.le_of_ble_eq_true rfl) rfl ?_
  refine z_pVi (As := []) G _ _ _ (fun l => c_X4_isFilled l D y (e 4) (e 5 0) true) k_X4_isFilled gX5_restore_X4_isFilled 0 4 rfl rfl rfl dX5_restore_17 ⟨by decide, by decide⟩ ⟨rfl, rfl⟩ ⟨Nat.zero_le _, Nat.zero_le _⟩ rfl (Nat.le_of_ble_eq_true rfl) rfl (fl_pick (k := 4) rfl) (fl_put (k := 4) rfl) ?_
  refine z_if_neT G dX5_restore_20 26 (by decide) (by decide) ?_
  refine z_aload_n G dX5_restore_26 0 rfl ?_
  refine z_get G (hin) 0 rfl rfl 1 (by decide) (List.mem_of_getElem? (i := 1) rfl) rfl dX5_restore_27 ?_
  refine z_aload_n G dX5_restore_30 0 rfl ?_
  refine z_get G (hin) 0 rfl rfl 0 (by decide) (List.mem_of_getElem? (i := 2) rfl) rfl dX5_restore_31 ?_
  refine z_pVv (As := [_]) G _ _ (fun l => c_X3_copyFrom l D y (e 2) (e 1) (R 2) (Q 2) (R 1) (Q 1)) k_X3_copyFrom gX5_restore_X3_copyFrom 0 3 rfl rfl rfl dX5_restore_34 ⟨by decide, by decide⟩ ⟨rfl, rfl⟩ ⟨Nat.zero_le _, Nat.zero_le _⟩ rfl (Nat.le_of_ble_eq_true rfl) rfl (fl_two (j := 2) (k := 1) rfl rfl) (fl_two2 (j := 2) (k := 1) rfl rfl) ?_
  refine z_aload_n G dX5_restore_37 0 rfl ?_
  refine z_iload_n G dX5_restore_38 1 rfl ?_
  refine z_world (ws' := tsW y e A (upG R 2 (R 1)) Q true b1 nx kp Gr K t len) rfl ?_
  refine z_dVr (As := [_]) G _ _ (fun l => c_X5_slotNumbered_0 l D y e A (upG R 2 (R 1)) Q true b1 nx kp Gr K t len) k_X5_slotNumbered gX5_restore_X5_slotNumbered 0 5 rfl rfl rfl dX5_restore_39 ⟨by decide, by decide⟩ ⟨rfl, rfl⟩ ⟨Nat.zero_le _, Nat.zero_le _⟩ rfl (Nat.le_of_ble_eq_true rfl) rfl ?_
  refine z_aload_n G dX5_restore_42 0 rfl ?_
  refine z_get G (hin) 0 rfl rfl 0 (by decide) (List.mem_of_getElem? (i := 2) rfl) rfl dX5_restore_43 ?_
  refine z_pVv (As := [_]) G _ _ (fun l => c_X4_copyTo l D y (e 4) (e 1) (e 5) (bI true) (R 1) (Q 1) (R 5) (Q 5)) k_X4_copyTo gX5_restore_X4_copyTo 0 4 rfl rfl rfl dX5_restore_46 ⟨by decide, by decide⟩ ⟨rfl, rfl⟩ ⟨Nat.zero_le _, Nat.zero_le _⟩ rfl (Nat.le_of_ble_eq_true rfl) rfl (fl_three (Bs := tsB y e A (upG R 2 (R 1)) Q true b1 nx kp Gr K t len) (i := 4) (j := 1) (k := 3) rfl rfl rfl) (fl_three (Bs := tsB y e A (upG (upG R 2 (R 1)) 1 (R 5)) Q true b1 nx kp Gr K t len) (i := 4) (j := 1) (k := 3) rfl rfl rfl).symm ?_
  refine z_aload_n G dX5_restore_49 0 rfl ?_
  refine z_aload_n G dX5_restore_50 0 rfl ?_
  refine z_get G (hin) 0 rfl rfl 0 (by decide) (List.mem_of_getElem? (i := 2) rfl) rfl dX5_restore_51 ?_
  refine z_pVi (As := []) G _ _ _ (fun l => c_X3_guests l D y (e 1) (R 5) (Q 1) h5) k_X3_guests gX5_restore_X3_guests 0 3 rfl rfl rfl dX5_restore_54 ⟨by decide, by decide⟩ ⟨rfl, rfl⟩ ⟨Nat.zero_le _, Nat.zero_le _⟩ rfl (Nat.le_of_ble_eq_true rfl) rfl (fl_pick (k := 1) rfl) (fl_put (k := 1) rfl) ?_
  refine z_world (ws' := tsW y e A (upG (upG R 2 (R 1)) 1 (R 5)) Q true b1 nx kp Gr K t len) rfl ?_
  refine z_dVi (As := [_]) G _ _ (fun l => c_X5_recorded l D y e A (upG (upG R 2 (R 1)) 1 (R 5)) Q true b1 nx kp Gr K t len hn hk (nI (ng (R 5)))) k_X5_recorded gX5_restore_X5_recorded 0 5 rfl rfl rfl dX5_restore_57 ⟨by decide, by decide⟩ ⟨rfl, rfl⟩ ⟨Nat.zero_le _, Nat.zero_le _⟩ rfl (Nat.le_of_ble_eq_true rfl) rfl ?_
  exact hE _ _ _ _ dX5_restore_60 rfl ⟨rfl, rfl⟩

set_option maxHeartbeats 4000000 in
set_option maxRecDepth 100000 in
theorem c_X5_save_1 (l : Launch) (D : va_G) (y : Nat → ClassId) (e A : Nat → Nat → Nat) (R Q : Nat → Nat → Int32) (b0 b1 : Bool) (nx kp : Nat) (Gr K : Nat → Nat → Int32) (t : Nat → Int32) (len : Nat) (h : IV (R 1)) : zDi l D y yX5_save wsX5_save ({ frames := 4, cells := 0, slots := 0, locals := 103 }) [.ref (e 0 0), .int (nI (1))] (tsW y e A R Q b0 b1 nx kp Gr K t len) (nI (ng (R 1))) (tsW y e A (upG R 7 (R 1)) Q b0 true nx kp Gr K t len) := by
  refine zMi.mk (cc := cX5_save) (maxL := 2) (lv := [(0, .ref (e 0 0)), (1, .int (nI (1)))]) (by decide) rfl (Nat.le_of_ble_eq_true rfl) rfl (fun X G hE => ?_)
  have hin := in_X5_save_X5
  unfold tsW at hE ⊢
  refine z_iload_n G dX5_save_0 1 rfl ?_
  refine z_if_ltF G dX5_save_1 9 (by decide) (by decide) ?_
  refine z_iload_n G dX5_save_4 1 rfl ?_
  refine z_iconst (v := nI 1) G dX5_save_5 rfl ?_
  refine z_icmp_leT G dX5_save_6 12 (by decide) (by decide) ?_
  refine z_aload_n G dX5_save_12 0 rfl ?_
  refine z_iload_n G dX5_save_13 1 rfl ?_
  refine z_dVr (As := [_]) G _ _ (fun l => c_X5_slotNumbered_1 l D y e A R Q b0 b1 nx kp Gr K t len) k_X5_slotNumbered gX5_save_X5_slotNumbered 0 5 rfl rfl rfl dX5_save_14 ⟨by decide, by decide⟩ ⟨rfl, rfl⟩ ⟨Nat.zero_le _, Nat.zero_le _⟩ rfl (Nat.le_of_ble_eq_true rfl) rfl ?_
  refine z_aload_n G dX5_save_17 0 rfl ?_
  refine z_get G (hin) 0 rfl rfl 0 (by decide) (List.mem_of_getElem? (i := 1) rfl) rfl dX5_save_18 ?_
  refine z_pVv (As := [_]) G _ _ (fun l => c_X4_fill l D y (e 6) (e 1) (e 7) (bI b1) (R 1) (Q 1) (R 7) (Q 7)) k_X4_fill gX5_save_X4_fill 0 4 rfl rfl rfl dX5_save_21 ⟨by decide, by decide⟩ ⟨rfl, rfl⟩ ⟨Nat.zero_le _, Nat.zero_le _⟩ rfl (Nat.le_of_ble_eq_true rfl) rfl (fl_three (i := 6) (j := 6) (k := 1) rfl rfl rfl) (fl_three (Bs := tsB y e A (upG R 7 (R 1)) Q b0 true nx kp Gr K t len) (i := 6) (j := 6) (k := 1) rfl rfl rfl).symm ?_
  refine z_aload_n G dX5_save_24 0 rfl ?_
  refine z_get G (hin) 0 rfl rfl 0 (by decide) (List.mem_of_getElem? (i := 1) rfl) rfl dX5_save_25 ?_
  refine z_pVi (As := []) G _ _ _ (fun l => c_X3_guests l D y (e 1) (R 1) (Q 1) h.pf) k_X3_guests gX5_save_X3_guests 0 3 rfl rfl rfl dX5_save_28 ⟨by decide, by decide⟩ ⟨rfl, rfl⟩ ⟨Nat.zero_le _, Nat.zero_le _⟩ rfl (Nat.le_of_ble_eq_true rfl) rfl (fl_pick (k := 1) rfl) (fl_put (k := 1) rfl) ?_
  exact hE _ _ _ _ dX5_save_31 rfl ⟨rfl, rfl⟩

set_option maxHeartbeats 4000000 in
set_option maxRecDepth 100000 in
theorem c_X5_restore_1f (l : Launch) (D : va_G) (y : Nat → ClassId) (e A : Nat → Nat → Nat) (R Q : Nat → Nat → Int32) (b0 b1 : Bool) (nx kp : Nat) (Gr K : Nat → Nat → Int32) (t : Nat → Int32) (len : Nat) : zDi l D y yX5_restore wsX5_restore ({ frames := 6, cells := 0, slots := 0, locals := 145 }) [.ref (e 0 0), .int (nI (1))] (tsW y e A R Q b0 false nx kp Gr K t len) (-5) (tsW y e A R Q b0 false nx kp Gr K t len) := by
  refine zMi.mk (cc := cX5_restore) (maxL := 2) (lv := [(0, .ref (e 0 0)), (1, .int (nI (1)))]) (by decide) rfl (Nat.le_of_ble_eq_true rfl) rfl (fun X G hE => ?_)
  have hin := in_X5_restore_X5
  unfold tsW at hE ⊢
  refine z_iload_n G dX5_restore_0 1 rfl ?_
  refine z_if_ltF G dX5_restore_1 9 (by decide) (by decide) ?_
  refine z_iload_n G dX5_restore_4 1 rfl ?_
  refine z_iconst (v := nI 1) G dX5_restore_5 rfl ?_
  refine z_icmp_leT G dX5_restore_6 12 (by decide) (by decide) ?_
  refine z_aload_n G dX5_restore_12 0 rfl ?_
  refine z_iload_n G dX5_restore_13 1 rfl ?_
  refine z_dVr (As := [_]) G _ _ (fun l => c_X5_slotNumbered_1 l D y e A R Q b0 false nx kp Gr K t len) k_X5_slotNumbered gX5_restore_X5_slotNumbered 0 5 rfl rfl rfl dX5_restore_14 ⟨by decide, by decide⟩ ⟨rfl, rfl⟩ ⟨Nat.zero_le _, Nat.zero_le _⟩ rfl (Nat.le_of_ble_eq_true rfl) rfl ?_
  refine z_pVi (As := []) G _ _ _ (fun l => c_X4_isFilled l D y (e 6) (e 7 0) false) k_X4_isFilled gX5_restore_X4_isFilled 0 4 rfl rfl rfl dX5_restore_17 ⟨by decide, by decide⟩ ⟨rfl, rfl⟩ ⟨Nat.zero_le _, Nat.zero_le _⟩ rfl (Nat.le_of_ble_eq_true rfl) rfl (fl_pick (k := 6) rfl) (fl_put (k := 6) rfl) ?_
  refine z_if_neF G dX5_restore_20 26 (by decide) (by decide) ?_
  refine z_bipush (v := (-5)) G dX5_restore_23 rfl ?_
  exact hE _ _ _ _ dX5_restore_25 rfl ⟨rfl, rfl⟩

set_option maxHeartbeats 4000000 in
set_option maxRecDepth 100000 in
theorem c_X5_restore_1t (l : Launch) (D : va_G) (y : Nat → ClassId) (e A : Nat → Nat → Nat) (R Q : Nat → Nat → Int32) (b0 b1 : Bool) (nx kp : Nat) (Gr K : Nat → Nat → Int32) (t : Nat → Int32) (len : Nat) (h5 : PF (R 7)) (hn : nx < 6) (hk : kp ≤ 6) : zDi l D y yX5_restore wsX5_restore ({ frames := 6, cells := 0, slots := 0, locals := 145 }) [.ref (e 0 0), .int (nI (1))] (tsW y e A R Q b0 true nx kp Gr K t len) (nI (ng (R 7))) (tsW y e A (upG (upG R 2 (R 1)) 1 (R 7)) Q b0 true (rcN nx (nI (ng (R 7)))) (rcP kp (nI (ng (R 7)))) (rcG Gr nx (R 1) (nI (ng (R 7)))) K t len) := by
  refine zMi.mk (cc := cX5_restore) (maxL := 2) (lv := [(0, .ref (e 0 0)), (1, .int (nI (1)))]) (by decide) rfl (Nat.le_of_ble_eq_true rfl) rfl (fun X G hE => ?_)
  have hin := in_X5_restore_X5
  unfold tsW at hE ⊢
  refine z_iload_n G dX5_restore_0 1 rfl ?_
  refine z_if_ltF G dX5_restore_1 9 (by decide) (by decide) ?_
  refine z_iload_n G dX5_restore_4 1 rfl ?_
  refine z_iconst (v := nI 1) G dX5_restore_5 rfl ?_
  refine z_icmp_leT G dX5_restore_6 12 (by decide) (by decide) ?_
  refine z_aload_n G dX5_restore_12 0 rfl ?_
  refine z_iload_n G dX5_restore_13 1 rfl ?_
  refine z_dVr (As := [_]) G _ _ (fun l => c_X5_slotNumbered_1 l D y e A R Q b0 true nx kp Gr K t len) k_X5_slotNumbered gX5_restore_X5_slotNumbered 0 5 rfl rfl rfl dX5_restore_14 ⟨by decide, by decide⟩ ⟨rfl, rfl⟩ ⟨Nat.zero_le _, Nat.zero_le _⟩ rfl (Nat.le_of_ble_eq_true rfl) rfl ?_
  refine z_pVi (As := []) G _ _ _ (fun l => c_X4_isFilled l D y (e 6) (e 7 0) true) k_X4_isFilled gX5_restore_X4_isFilled 0 4 rfl rfl rfl dX5_restore_17 ⟨by decide, by decide⟩ ⟨rfl, rfl⟩ ⟨Nat.zero_le _, Nat.zero_le _⟩ rfl (Nat.le_of_ble_eq_true rfl) rfl (fl_pick (k := 6) rfl) (fl_put (k := 6) rfl) ?_
  refine z_if_neT G dX5_restore_20 26 (by decide) (by decide) ?_
  refine z_aload_n G dX5_restore_26 0 rfl ?_
  refine z_get G (hin) 0 rfl rfl 1 (by decide) (List.mem_of_getElem? (i := 1) rfl) rfl dX5_restore_27 ?_
  refine z_aload_n G dX5_restore_30 0 rfl ?_
  refine z_get G (hin) 0 rfl rfl 0 (by decide) (List.mem_of_getElem? (i := 2) rfl) rfl dX5_restore_31 ?_
  refine z_pVv (As := [_]) G _ _ (fun l => c_X3_copyFrom l D y (e 2) (e 1) (R 2) (Q 2) (R 1) (Q 1)) k_X3_copyFrom gX5_restore_X3_copyFrom 0 3 rfl rfl rfl dX5_restore_34 ⟨by decide, by decide⟩ ⟨rfl, rfl⟩ ⟨Nat.zero_le _, Nat.zero_le _⟩ rfl (Nat.le_of_ble_eq_true rfl) rfl (fl_two (j := 2) (k := 1) rfl rfl) (fl_two2 (j := 2) (k := 1) rfl rfl) ?_
  refine z_aload_n G dX5_restore_37 0 rfl ?_
  refine z_iload_n G dX5_restore_38 1 rfl ?_
  refine z_world (ws' := tsW y e A (upG R 2 (R 1)) Q b0 true nx kp Gr K t len) rfl ?_
  refine z_dVr (As := [_]) G _ _ (fun l => c_X5_slotNumbered_1 l D y e A (upG R 2 (R 1)) Q b0 true nx kp Gr K t len) k_X5_slotNumbered gX5_restore_X5_slotNumbered 0 5 rfl rfl rfl dX5_restore_39 ⟨by decide, by decide⟩ ⟨rfl, rfl⟩ ⟨Nat.zero_le _, Nat.zero_le _⟩ rfl (Nat.le_of_ble_eq_true rfl) rfl ?_
  refine z_aload_n G dX5_restore_42 0 rfl ?_
  refine z_get G (hin) 0 rfl rfl 0 (by decide) (List.mem_of_getElem? (i := 2) rfl) rfl dX5_restore_43 ?_
  refine z_pVv (As := [_]) G _ _ (fun l => c_X4_copyTo l D y (e 6) (e 1) (e 7) (bI true) (R 1) (Q 1) (R 7) (Q 7)) k_X4_copyTo gX5_restore_X4_copyTo 0 4 rfl rfl rfl dX5_restore_46 ⟨by decide, by decide⟩ ⟨rfl, rfl⟩ ⟨Nat.zero_le _, Nat.zero_le _⟩ rfl (Nat.le_of_ble_eq_true rfl) rfl (fl_three (Bs := tsB y e A (upG R 2 (R 1)) Q b0 true nx kp Gr K t len) (i := 6) (j := 1) (k := 5) rfl rfl rfl) (fl_three (Bs := tsB y e A (upG (upG R 2 (R 1)) 1 (R 7)) Q b0 true nx kp Gr K t len) (i := 6) (j := 1) (k := 5) rfl rfl rfl).symm ?_
  refine z_aload_n G dX5_restore_49 0 rfl ?_
  refine z_aload_n G dX5_restore_50 0 rfl ?_
  refine z_get G (hin) 0 rfl rfl 0 (by decide) (List.mem_of_getElem? (i := 2) rfl) rfl dX5_restore_51 ?_
  refine z_pVi (As := []) G _ _ _ (fun l => c_X3_guests l D y (e 1) (R 7) (Q 1) h5) k_X3_guests gX5_restore_X3_guests 0 3 rfl rfl rfl dX5_restore_54 ⟨by decide, by decide⟩ ⟨rfl, rfl⟩ ⟨Nat.zero_le _, Nat.zero_le _⟩ rfl (Nat.le_of_ble_eq_true rfl) rfl (fl_pick (k := 1) rfl) (fl_put (k := 1) rfl) ?_
  refine z_world (ws' := tsW y e A (upG (upG R 2 (R 1)) 1 (R 7)) Q b0 true nx kp Gr K t len) rfl ?_
  refine z_dVi (As := [_]) G _ _ (fun l => c_X5_recorded l D y e A (upG (upG R 2 (R 1)) 1 (R 7)) Q b0 true nx kp Gr K t len hn hk (nI (ng (R 7)))) k_X5_recorded gX5_restore_X5_recorded 0 5 rfl rfl rfl dX5_restore_57 ⟨by decide, by decide⟩ ⟨rfl, rfl⟩ ⟨Nat.zero_le _, Nat.zero_le _⟩ rfl (Nat.le_of_ble_eq_true rfl) rfl ?_
  exact hE _ _ _ _ dX5_restore_60 rfl ⟨rfl, rfl⟩
