theorem k_X4_isFilled : zCal yX4_isFilled wsX4_isFilled cX4_isFilled 1 (some .boolean) 0 := ⟨⟨_, rfl⟩, by decide +kernel⟩
theorem in_X4_isFilled_X4 : ∀ w ∈ wsX40, w ∈ wsX4_isFilled := fun _ h => List.mem_cons_of_mem _ (List.mem_append_right _ h)
set_option maxHeartbeats 4000000 in
set_option maxRecDepth 100000 in
theorem c_X4_isFilled (l : Launch) (D : va_G) (y : Nat → ClassId) (s : Nat → Nat) (r : Nat) (b : Bool) : zDi l D y yX4_isFilled wsX4_isFilled ({ frames := 0, cells := 0, slots := 0, locals := 0 }) [.ref (s 0)] (slW s r (bI b)) (bI b) (slW s r (bI b)) := by
  refine zMi.mk (cc := cX4_isFilled) (maxL := 1) (lv := [(0, .ref (s 0))]) (by decide) rfl (Nat.le_of_ble_eq_true rfl) rfl (fun X G hE => ?_)
  have hin := in_X4_isFilled_X4
  refine z_aload_n G dX4_isFilled_0 0 rfl ?_
  refine z_get G (hin) 0 rfl rfl 1 (by decide) (List.mem_of_getElem? (i := 1) rfl) rfl dX4_isFilled_1 ?_
  exact hE _ _ _ _ dX4_isFilled_4 (bI_nar _) ⟨rfl, rfl⟩

theorem k_X4_fill : zCal yX4_fill wsX4_fill cX4_fill 2 none 1 := ⟨⟨_, rfl⟩, by decide +kernel⟩
theorem in_X4_fill_X4 : ∀ w ∈ wsX40, w ∈ wsX4_fill := fun _ h => List.mem_cons_of_mem _ (List.mem_append_left _ (List.mem_append_left _ (List.mem_append_right _ h)))
set_option maxHeartbeats 4000000 in
set_option maxRecDepth 100000 in
theorem c_X4_fill (l : Launch) (D : va_G) (y : Nat → ClassId) (s a c : Nat → Nat) (fl : Int32) (f rk g rk2 : Nat → Int32) : zDv l D y yX4_fill wsX4_fill ({ frames := 3, cells := 0, slots := 0, locals := 82 }) [.ref (s 0), .ref (a 0)] (slW s (c 0) fl ++ (rmW y c g rk2 ++ rmW y a f rk)) (slW s (c 0) (nI 1) ++ (rmW y c f rk2 ++ rmW y a f rk)) := by
  refine zMv.mk (cc := cX4_fill) (maxL := 2) (lv := [(0, .ref (s 0)), (1, .ref (a 0))]) (by decide) rfl (Nat.le_of_ble_eq_true rfl) rfl (fun X G hE => ?_)
  have hin := in_X4_fill_X4
  refine z_aload_n G dX4_fill_0 0 rfl ?_
  refine z_get G (hin) 0 rfl rfl 0 (by decide) (List.mem_of_getElem? (i := 1) rfl) rfl dX4_fill_1 ?_
  refine z_aload_n G dX4_fill_4 1 rfl ?_
  refine z_pVv (As := [_]) G _ _ (fun l => c_X3_copyFrom l D y c a g rk2 f rk) k_X3_copyFrom gX4_fill_X3_copyFrom 0 3 rfl rfl rfl dX4_fill_5 ⟨by decide, by decide⟩ ⟨rfl, rfl⟩ ⟨Nat.zero_le _, Nat.zero_le _⟩ rfl (Nat.le_of_ble_eq_true rfl) rfl List.perm_append_comm List.perm_append_comm ?_
  refine z_aload_n G dX4_fill_8 0 rfl ?_
  refine z_iconst (v := nI 1) G dX4_fill_9 rfl ?_
  refine z_put (own := RX4) G hin tyX4 tyX4_ok nmX4 0 rfl rfl 1 (by decide) (List.mem_of_getElem? (i := 2) rfl) rfl (ty := .boolean) (by decide +kernel) rfl rfl (Nat.le_of_ble_eq_true rfl) dX4_fill_10 (slW s (c 0) (nI 1) ++ (rmW y c f rk2 ++ rmW y a f rk)) rfl ?_
  exact hE _ _ _ dX4_fill_13 rfl

theorem k_X4_copyTo : zCal yX4_copyTo wsX4_copyTo cX4_copyTo 2 none 1 := ⟨⟨_, rfl⟩, by decide +kernel⟩
theorem in_X4_copyTo_X4 : ∀ w ∈ wsX40, w ∈ wsX4_copyTo := fun _ h => List.mem_cons_of_mem _ (List.mem_append_left _ (List.mem_append_left _ (List.mem_append_right _ h)))
set_option maxHeartbeats 4000000 in
set_option maxRecDepth 100000 in
theorem c_X4_copyTo (l : Launch) (D : va_G) (y : Nat → ClassId) (s a c : Nat → Nat) (fl : Int32) (f rk g rk2 : Nat → Int32) : zDv l D y yX4_copyTo wsX4_copyTo ({ frames := 3, cells := 0, slots := 0, locals := 82 }) [.ref (s 0), .ref (a 0)] (slW s (c 0) fl ++ (rmW y a f rk ++ rmW y c g rk2)) (slW s (c 0) fl ++ (rmW y a g rk ++ rmW y c g rk2)) := by
  refine zMv.mk (cc := cX4_copyTo) (maxL := 2) (lv := [(0, .ref (s 0)), (1, .ref (a 0))]) (by decide) rfl (Nat.le_of_ble_eq_true rfl) rfl (fun X G hE => ?_)
  have hin := in_X4_copyTo_X4
  refine z_aload_n G dX4_copyTo_0 1 rfl ?_
  refine z_aload_n G dX4_copyTo_1 0 rfl ?_
  refine z_get G (hin) 0 rfl rfl 0 (by decide) (List.mem_of_getElem? (i := 1) rfl) rfl dX4_copyTo_2 ?_
  refine z_pVv (As := [_]) G _ _ (fun l => c_X3_copyFrom l D y a c f rk g rk2) k_X3_copyFrom gX4_copyTo_X3_copyFrom 0 3 rfl rfl rfl dX4_copyTo_5 ⟨by decide, by decide⟩ ⟨rfl, rfl⟩ ⟨Nat.zero_le _, Nat.zero_le _⟩ rfl (Nat.le_of_ble_eq_true rfl) rfl List.perm_append_comm List.perm_append_comm ?_
  exact hE _ _ _ dX4_copyTo_8 rfl

theorem k_X1_states : zCal yX1_states wsX1_states cX1_states 1 (some .int) 0 := ⟨⟨_, rfl⟩, by decide +kernel⟩
theorem in_X1_states_X1 : ∀ w ∈ wsX10, w ∈ wsX1_states := fun _ h => List.mem_cons_of_mem _ (List.mem_append_right _ h)
set_option maxHeartbeats 4000000 in
set_option maxRecDepth 100000 in
theorem c_X1_states (l : Launch) (D : va_G) (y : Nat → ClassId) (h : Nat → Nat) (A : Nat → Nat → Nat) (nx kp : Int32) : zDi l D y yX1_states wsX1_states ({ frames := 0, cells := 0, slots := 0, locals := 0 }) [.ref (h 0)] (hiW y h A nx kp) (kp) (hiW y h A nx kp) := by
  refine zMi.mk (cc := cX1_states) (maxL := 1) (lv := [(0, .ref (h 0))]) (by decide) rfl (Nat.le_of_ble_eq_true rfl) rfl (fun X G hE => ?_)
  have hin := in_X1_states_X1
  refine z_aload_n G dX1_states_0 0 rfl ?_
  refine z_get G (hin) 0 rfl rfl 2 (by decide) (List.mem_of_getElem? (i := 1) rfl) rfl dX1_states_1 ?_
  exact hE _ _ _ _ dX1_states_4 rfl ⟨rfl, rfl⟩

theorem k_X1_roomAt : zCal yX1_roomAt wsX1_roomAt cX1_roomAt 2 (some (.object "TeaSeats$Room")) 1 := ⟨⟨_, rfl⟩, by decide +kernel⟩
theorem in_X1_roomAt_X1 : ∀ w ∈ wsX10, w ∈ wsX1_roomAt := fun _ h => List.mem_cons_of_mem _ (List.mem_append_right _ h)
set_option maxHeartbeats 4000000 in
set_option maxRecDepth 100000 in
theorem c_X1_roomAt (l : Launch) (D : va_G) (y : Nat → ClassId) (h : Nat → Nat) (A : Nat → Nat → Nat) (nx kp : Int32) {i : Nat} (hi : i < 6) : zDr l D y yX1_roomAt wsX1_roomAt ({ frames := 0, cells := 0, slots := 0, locals := 0 }) [.ref (h 0), .int (nI (i))] (hiW y h A nx kp) (A i 0) (hiW y h A nx kp) := by
  refine zMr.mk (cc := cX1_roomAt) (maxL := 2) (lv := [(0, .ref (h 0)), (1, .int (nI (i)))]) (by decide) rfl (Nat.le_of_ble_eq_true rfl) rfl (fun X G hE => ?_)
  have hin := in_X1_roomAt_X1
  refine z_iload_n G dX1_roomAt_0 1 rfl ?_
  refine z_if_ltF G dX1_roomAt_1 19 (by decide) (nI_pos (by omega)) ?_
  refine z_iload_n G dX1_roomAt_4 1 rfl ?_
  refine z_bipush (v := nI 6) G dX1_roomAt_5 rfl ?_
  refine z_icmp_geF G dX1_roomAt_7 19 (by decide) (nI_ge hi (by decide)) ?_
  refine z_aload_n G dX1_roomAt_10 0 rfl ?_
  refine z_get G (hin) 0 rfl rfl 0 (by decide) (List.mem_of_getElem? (i := 1) rfl) rfl dX1_roomAt_11 ?_
  refine z_iload_n G dX1_roomAt_14 1 rfl ?_
  refine z_aald G 1 rfl hi (by decide) dX1_roomAt_15 (if_pos hi) ?_
  refine z_goto (tgt := 20) G dX1_roomAt_16 (by decide) ?_
  exact hE _ _ _ _ dX1_roomAt_20 ⟨rfl, rfl⟩

theorem k_X1_copy : zCal yX1_copy wsX1_copy cX1_copy 2 none 2 := ⟨⟨_, rfl⟩, by decide +kernel⟩
set_option maxHeartbeats 4000000 in
set_option maxRecDepth 100000 in
theorem c_X1_copy (l : Launch) (D : va_G) (y : Nat → ClassId) (a c : Nat → Nat) (f rk g rk2 : Nat → Int32) : zDv l D y yX1_copy wsX1_copy ({ frames := 3, cells := 0, slots := 0, locals := 82 }) [.ref (c 0), .ref (a 0)] (rmW y a f rk ++ rmW y c g rk2) (rmW y a g rk ++ rmW y c g rk2) := by
  refine zMv.mk (cc := cX1_copy) (maxL := 2) (lv := [(0, .ref (c 0)), (1, .ref (a 0))]) (by decide) rfl (Nat.le_of_ble_eq_true rfl) rfl (fun X G hE => ?_)
  refine z_aload_n G dX1_copy_0 0 rfl ?_
  refine z_ifnull G dX1_copy_1 ?_
  refine z_aload_n G dX1_copy_4 1 rfl ?_
  refine z_ifnull G dX1_copy_5 ?_
  refine z_aload_n G dX1_copy_8 1 rfl ?_
  refine z_aload_n G dX1_copy_9 0 rfl ?_
  refine z_dVv (As := [_]) G _ (fun l => c_X3_copyFrom l D y a c f rk g rk2) k_X3_copyFrom gX1_copy_X3_copyFrom 0 3 rfl rfl rfl dX1_copy_10 ⟨by decide, by decide⟩ ⟨rfl, rfl⟩ ⟨Nat.zero_le _, Nat.zero_le _⟩ rfl (Nat.le_of_ble_eq_true rfl) rfl ?_
  exact hE _ _ _ dX1_copy_13 rfl

theorem k_X1_keep : zCal yX1_keep wsX1_keep cX1_keep 2 none 1 := ⟨⟨_, rfl⟩, by decide +kernel⟩
theorem in_X1_keep_X1 : ∀ w ∈ wsX10, w ∈ wsX1_keep := fun _ h => List.mem_cons_of_mem _ (List.mem_append_left _ (List.mem_append_left _ (List.mem_append_right _ h)))
set_option maxHeartbeats 4000000 in
set_option maxRecDepth 100000 in
theorem c_X1_keep (l : Launch) (D : va_G) (y : Nat → ClassId) (h : Nat → Nat) (A : Nat → Nat → Nat) (c : Nat → Nat) (f rk g rk2 : Nat → Int32) {nx kp : Nat} (hn : nx < 6) (hk : kp ≤ 6) : zDv l D y yX1_keep wsX1_keep ({ frames := 4, cells := 0, slots := 0, locals := 103 }) [.ref (h 0), .ref (c 0)] (hiW y h A (nI nx) (nI kp) ++ (rmW y (A nx) f rk ++ rmW y c g rk2)) (hiW y h A (nI (nxS nx)) (nI (kpS kp)) ++ (rmW y (A nx) g rk ++ rmW y c g rk2)) := by
  refine zMv.mk (cc := cX1_keep) (maxL := 2) (lv := [(0, .ref (h 0)), (1, .ref (c 0))]) (by decide) rfl (Nat.le_of_ble_eq_true rfl) rfl (fun X G hE => ?_)
  have hin := in_X1_keep_X1
  refine z_aload_n G dX1_keep_0 1 rfl ?_
  refine z_aload_n G dX1_keep_1 0 rfl ?_
  refine z_aload_n G dX1_keep_2 0 rfl ?_
  refine z_get G (hin) 0 rfl rfl 1 (by decide) (List.mem_of_getElem? (i := 1) rfl) rfl dX1_keep_3 ?_
  refine z_pVr (As := [_]) G _ _ _ (fun l => c_X1_roomAt l D y h A (nI nx) (nI kp) hn) k_X1_roomAt gX1_keep_X1_roomAt 0 1 rfl rfl rfl dX1_keep_6 ⟨by decide, by decide⟩ ⟨rfl, rfl⟩ ⟨Nat.zero_le _, Nat.zero_le _⟩ rfl (Nat.le_of_ble_eq_true rfl) rfl (List.Perm.refl _) (List.Perm.refl _) ?_
  refine z_pSv (As := [_, _]) G _ _ (fun l => c_X1_copy l D y (A nx) c f rk g rk2) k_X1_copy gX1_keep_X1_copy dX1_keep_9 ⟨by decide, by decide⟩ ⟨rfl, rfl⟩ ⟨Nat.zero_le _, Nat.zero_le _⟩ rfl (Nat.le_of_ble_eq_true rfl) rfl List.perm_append_comm List.perm_append_comm ?_
  refine z_aload_n G dX1_keep_12 0 rfl ?_
  refine z_aload_n G dX1_keep_13 0 rfl ?_
  refine z_get G (hin) 0 rfl rfl 1 (by decide) (List.mem_of_getElem? (i := 1) rfl) rfl dX1_keep_14 ?_
  refine z_iconst (v := nI 1) G dX1_keep_17 rfl ?_
  refine z_iaddN G dX1_keep_18 (nx + 1) (by omega) ?_
  refine z_bipush (v := nI 6) G dX1_keep_19 rfl ?_
  refine z_icmp_ge G dX1_keep_21 33 (by decide) (fun c21 => ?_) (fun c21 => ?_)
  · refine z_iconst (v := nI 0) G dX1_keep_33 rfl ?_
    refine z_top (w := .int (nI ((nxS nx)))) (congrArg Value.int (congrArg nI (if_neg (fun z => absurd c21 (nI_ge z (by decide)))).symm)) ?_
    refine z_put (own := RX1) G hin tyX1 tyX1_ok nmX1 0 rfl rfl 1 (by decide) (List.mem_of_getElem? (i := 1) rfl) rfl (ty := .int) (by decide +kernel) rfl rfl (Nat.le_of_ble_eq_true rfl) dX1_keep_34 (hiW y h A (nI (nxS nx)) (nI kp) ++ (rmW y (A nx) g rk ++ rmW y c g rk2)) rfl ?_
    refine z_aload_n G dX1_keep_37 0 rfl ?_
    refine z_aload_n G dX1_keep_38 0 rfl ?_
    refine z_get G (hin) 0 rfl rfl 2 (by decide) (List.mem_of_getElem? (i := 2) rfl) rfl dX1_keep_39 ?_
    refine z_iconst (v := nI 1) G dX1_keep_42 rfl ?_
    refine z_iaddN G dX1_keep_43 (kp + 1) (by omega) ?_
    refine z_bipush (v := nI 6) G dX1_keep_44 rfl ?_
    refine z_min G (List.mem_of_getElem? (i := 3) rfl) (List.mem_of_getElem? (i := 4) rfl) (List.mem_of_getElem? (i := 5) rfl) (List.mem_of_getElem? (i := 6) rfl) (by decide) (Nat.le_of_ble_eq_true rfl) (Nat.zero_le _) (Nat.zero_le _) dX1_keep_46 ?_
    refine z_top (w := .int (nI ((kpS kp)))) (congrArg Value.int (kpS_min hk)) ?_
    refine z_put (own := RX1) G hin tyX1 tyX1_ok nmX1 0 rfl rfl 2 (by decide) (List.mem_of_getElem? (i := 2) rfl) rfl (ty := .int) (by decide +kernel) rfl rfl (Nat.le_of_ble_eq_true rfl) dX1_keep_49 (hiW y h A (nI (nxS nx)) (nI (kpS kp)) ++ (rmW y (A nx) g rk ++ rmW y c g rk2)) rfl ?_
    exact hE _ _ _ dX1_keep_52 rfl
  · refine z_aload_n G dX1_keep_24 0 rfl ?_
    refine z_get G (hin) 0 rfl rfl 1 (by decide) (List.mem_of_getElem? (i := 1) rfl) rfl dX1_keep_25 ?_
    refine z_iconst (v := nI 1) G dX1_keep_28 rfl ?_
    refine z_iaddN G dX1_keep_29 (nx + 1) (by omega) ?_
    refine z_goto (tgt := 34) G dX1_keep_30 (by decide) ?_
    refine z_top (w := .int (nI ((nxS nx)))) (congrArg Value.int (congrArg nI (if_pos (Nat.not_le.mp (fun z => c21 (nI_le z (by omega))))).symm)) ?_
    refine z_put (own := RX1) G hin tyX1 tyX1_ok nmX1 0 rfl rfl 1 (by decide) (List.mem_of_getElem? (i := 1) rfl) rfl (ty := .int) (by decide +kernel) rfl rfl (Nat.le_of_ble_eq_true rfl) dX1_keep_34 (hiW y h A (nI (nxS nx)) (nI kp) ++ (rmW y (A nx) g rk ++ rmW y c g rk2)) rfl ?_
    refine z_aload_n G dX1_keep_37 0 rfl ?_
    refine z_aload_n G dX1_keep_38 0 rfl ?_
    refine z_get G (hin) 0 rfl rfl 2 (by decide) (List.mem_of_getElem? (i := 2) rfl) rfl dX1_keep_39 ?_
    refine z_iconst (v := nI 1) G dX1_keep_42 rfl ?_
    refine z_iaddN G dX1_keep_43 (kp + 1) (by omega) ?_
    refine z_bipush (v := nI 6) G dX1_keep_44 rfl ?_
    refine z_min G (List.mem_of_getElem? (i := 3) rfl) (List.mem_of_getElem? (i := 4) rfl) (List.mem_of_getElem? (i := 5) rfl) (List.mem_of_getElem? (i := 6) rfl) (by decide) (Nat.le_of_ble_eq_true rfl) (Nat.zero_le _) (Nat.zero_le _) dX1_keep_46 ?_
    refine z_top (w := .int (nI ((kpS kp)))) (congrArg Value.int (kpS_min hk)) ?_
    refine z_put (own := RX1) G hin tyX1 tyX1_ok nmX1 0 rfl rfl 2 (by decide) (List.mem_of_getElem? (i := 2) rfl) rfl (ty := .int) (by decide +kernel) rfl rfl (Nat.le_of_ble_eq_true rfl) dX1_keep_49 (hiW y h A (nI (nxS nx)) (nI (kpS kp)) ++ (rmW y (A nx) g rk ++ rmW y c g rk2)) rfl ?_
    exact hE _ _ _ dX1_keep_52 rfl

theorem k_X1_takeBack : zCal yX1_takeBack wsX1_takeBack cX1_takeBack 2 (some .int) 1 := ⟨⟨_, rfl⟩, by decide +kernel⟩
theorem in_X1_takeBack_X1 : ∀ w ∈ wsX10, w ∈ wsX1_takeBack := fun _ h => List.mem_cons_of_mem _ (List.mem_append_left _ (List.mem_append_left _ (List.mem_append_right _ h)))
set_option maxHeartbeats 4000000 in
set_option maxRecDepth 100000 in
theorem c_X1_takeBack_0 (l : Launch) (D : va_G) (y : Nat → ClassId) (h : Nat → Nat) (A : Nat → Nat → Nat) (nx : Int32) (c : Nat → Nat) : zDi l D y yX1_takeBack wsX1_takeBack ({ frames := 4, cells := 0, slots := 0, locals := 103 }) [.ref (h 0), .ref (c 0)] (hiW y h A nx (nI 0)) (-5) (hiW y h A nx (nI 0)) := by
  refine zMi.mk (cc := cX1_takeBack) (maxL := 2) (lv := [(0, .ref (h 0)), (1, .ref (c 0))]) (by decide) rfl (Nat.le_of_ble_eq_true rfl) rfl (fun X G hE => ?_)
  have hin := in_X1_takeBack_X1
  refine z_aload_n G dX1_takeBack_0 0 rfl ?_
  refine z_get G (hin) 0 rfl rfl 2 (by decide) (List.mem_of_getElem? (i := 1) rfl) rfl dX1_takeBack_1 ?_
  refine z_if_neF G dX1_takeBack_4 10 (by decide) (by decide) ?_
  refine z_bipush (v := (-5)) G dX1_takeBack_7 rfl ?_
  exact hE _ _ _ _ dX1_takeBack_9 rfl ⟨rfl, rfl⟩

set_option maxHeartbeats 4000000 in
set_option maxRecDepth 100000 in
theorem c_X1_takeBack (l : Launch) (D : va_G) (y : Nat → ClassId) (h : Nat → Nat) (A : Nat → Nat → Nat) (c : Nat → Nat) (f rk g rk2 : Nat → Int32) {nx kp : Nat} (hn : nx < 6) (hk : kp < 6) : zDi l D y yX1_takeBack wsX1_takeBack ({ frames := 4, cells := 0, slots := 0, locals := 103 }) [.ref (h 0), .ref (c 0)] (hiW y h A (nI nx) (nI (kp + 1)) ++ (rmW y c g rk2 ++ rmW y (A (nxP nx)) f rk)) (nI kp) (hiW y h A (nI (nxP nx)) (nI kp) ++ (rmW y c f rk2 ++ rmW y (A (nxP nx)) f rk)) := by
  refine zMi.mk (cc := cX1_takeBack) (maxL := 2) (lv := [(0, .ref (h 0)), (1, .ref (c 0))]) (by decide) rfl (Nat.le_of_ble_eq_true rfl) rfl (fun X G hE => ?_)
  have hin := in_X1_takeBack_X1
  refine z_aload_n G dX1_takeBack_0 0 rfl ?_
  refine z_get G (hin) 0 rfl rfl 2 (by decide) (List.mem_of_getElem? (i := 1) rfl) rfl dX1_takeBack_1 ?_
  refine z_if_neT G dX1_takeBack_4 10 (by decide) (nI_ne0 (by omega) (by omega)) ?_
  refine z_aload_n G dX1_takeBack_10 0 rfl ?_
  refine z_aload_n G dX1_takeBack_11 0 rfl ?_
  refine z_get G (hin) 0 rfl rfl 1 (by decide) (List.mem_of_getElem? (i := 2) rfl) rfl dX1_takeBack_12 ?_
  refine z_if_le G dX1_takeBack_15 27 (by decide) (fun c15 => ?_) (fun c15 => ?_)
  · refine z_iconst (v := nI 5) G dX1_takeBack_27 rfl ?_
    refine z_top (w := .int (nI ((nxP nx)))) (congrArg Value.int (congrArg nI (if_neg (Nat.not_lt.mpr ((nI_leI (by omega) (by decide)).mp c15))).symm)) ?_
    refine z_put (own := RX1) G hin tyX1 tyX1_ok nmX1 0 rfl rfl 1 (by decide) (List.mem_of_getElem? (i := 2) rfl) rfl (ty := .int) (by decide +kernel) rfl rfl (Nat.le_of_ble_eq_true rfl) dX1_takeBack_28 (hiW y h A (nI (nxP nx)) (nI (kp + 1)) ++ (rmW y c g rk2 ++ rmW y (A (nxP nx)) f rk)) rfl ?_
    refine z_aload_n G dX1_takeBack_31 0 rfl ?_
    refine z_dup G dX1_takeBack_32 rfl ?_
    refine z_get G (hin) 0 rfl rfl 2 (by decide) (List.mem_of_getElem? (i := 1) rfl) rfl dX1_takeBack_33 ?_
    refine z_iconst (v := nI 1) G dX1_takeBack_36 rfl ?_
    refine z_isubN G dX1_takeBack_37 (by omega) (kp) (by omega) ?_
    refine z_put (own := RX1) G hin tyX1 tyX1_ok nmX1 0 rfl rfl 2 (by decide) (List.mem_of_getElem? (i := 1) rfl) rfl (ty := .int) (by decide +kernel) rfl rfl (Nat.le_of_ble_eq_true rfl) dX1_takeBack_38 (hiW y h A (nI (nxP nx)) (nI kp) ++ (rmW y c g rk2 ++ rmW y (A (nxP nx)) f rk)) rfl ?_
    refine z_aload_n G dX1_takeBack_41 0 rfl ?_
    refine z_aload_n G dX1_takeBack_42 0 rfl ?_
    refine z_get G (hin) 0 rfl rfl 1 (by decide) (List.mem_of_getElem? (i := 2) rfl) rfl dX1_takeBack_43 ?_
    refine z_pVr (As := [_]) G _ _ _ (fun l => c_X1_roomAt l D y h A (nI (nxP nx)) (nI kp) (nxP_lt hn)) k_X1_roomAt gX1_takeBack_X1_roomAt 0 1 rfl rfl rfl dX1_takeBack_46 ⟨by decide, by decide⟩ ⟨rfl, rfl⟩ ⟨Nat.zero_le _, Nat.zero_le _⟩ rfl (Nat.le_of_ble_eq_true rfl) rfl (List.Perm.refl _) (List.Perm.refl _) ?_
    refine z_aload_n G dX1_takeBack_49 1 rfl ?_
    refine z_pSv (As := [_, _]) G _ _ (fun l => c_X1_copy l D y c (A (nxP nx)) g rk2 f rk) k_X1_copy gX1_takeBack_X1_copy dX1_takeBack_50 ⟨by decide, by decide⟩ ⟨rfl, rfl⟩ ⟨Nat.zero_le _, Nat.zero_le _⟩ rfl (Nat.le_of_ble_eq_true rfl) rfl List.perm_append_comm List.perm_append_comm ?_
    refine z_aload_n G dX1_takeBack_53 0 rfl ?_
    refine z_get G (hin) 0 rfl rfl 2 (by decide) (List.mem_of_getElem? (i := 1) rfl) rfl dX1_takeBack_54 ?_
    exact hE _ _ _ _ dX1_takeBack_57 rfl ⟨rfl, rfl⟩
  · refine z_aload_n G dX1_takeBack_18 0 rfl ?_
    refine z_get G (hin) 0 rfl rfl 1 (by decide) (List.mem_of_getElem? (i := 2) rfl) rfl dX1_takeBack_19 ?_
    refine z_iconst (v := nI 1) G dX1_takeBack_22 rfl ?_
    refine z_isubN G dX1_takeBack_23 (Nat.not_le.mp (fun z => c15 (nI_le z (by decide)))) ((nx - 1)) rfl ?_
    refine z_goto (tgt := 28) G dX1_takeBack_24 (by decide) ?_
    refine z_top (w := .int (nI ((nxP nx)))) (congrArg Value.int (congrArg nI (if_pos (Nat.not_le.mp (fun z => c15 (nI_le z (by decide))))).symm)) ?_
    refine z_put (own := RX1) G hin tyX1 tyX1_ok nmX1 0 rfl rfl 1 (by decide) (List.mem_of_getElem? (i := 2) rfl) rfl (ty := .int) (by decide +kernel) rfl rfl (Nat.le_of_ble_eq_true rfl) dX1_takeBack_28 (hiW y h A (nI (nxP nx)) (nI (kp + 1)) ++ (rmW y c g rk2 ++ rmW y (A (nxP nx)) f rk)) rfl ?_
    refine z_aload_n G dX1_takeBack_31 0 rfl ?_
    refine z_dup G dX1_takeBack_32 rfl ?_
    refine z_get G (hin) 0 rfl rfl 2 (by decide) (List.mem_of_getElem? (i := 1) rfl) rfl dX1_takeBack_33 ?_
    refine z_iconst (v := nI 1) G dX1_takeBack_36 rfl ?_
    refine z_isubN G dX1_takeBack_37 (by omega) (kp) (by omega) ?_
    refine z_put (own := RX1) G hin tyX1 tyX1_ok nmX1 0 rfl rfl 2 (by decide) (List.mem_of_getElem? (i := 1) rfl) rfl (ty := .int) (by decide +kernel) rfl rfl (Nat.le_of_ble_eq_true rfl) dX1_takeBack_38 (hiW y h A (nI (nxP nx)) (nI kp) ++ (rmW y c g rk2 ++ rmW y (A (nxP nx)) f rk)) rfl ?_
    refine z_aload_n G dX1_takeBack_41 0 rfl ?_
    refine z_aload_n G dX1_takeBack_42 0 rfl ?_
    refine z_get G (hin) 0 rfl rfl 1 (by decide) (List.mem_of_getElem? (i := 2) rfl) rfl dX1_takeBack_43 ?_
    refine z_pVr (As := [_]) G _ _ _ (fun l => c_X1_roomAt l D y h A (nI (nxP nx)) (nI kp) (nxP_lt hn)) k_X1_roomAt gX1_takeBack_X1_roomAt 0 1 rfl rfl rfl dX1_takeBack_46 ⟨by decide, by decide⟩ ⟨rfl, rfl⟩ ⟨Nat.zero_le _, Nat.zero_le _⟩ rfl (Nat.le_of_ble_eq_true rfl) rfl (List.Perm.refl _) (List.Perm.refl _) ?_
    refine z_aload_n G dX1_takeBack_49 1 rfl ?_
    refine z_pSv (As := [_, _]) G _ _ (fun l => c_X1_copy l D y c (A (nxP nx)) g rk2 f rk) k_X1_copy gX1_takeBack_X1_copy dX1_takeBack_50 ⟨by decide, by decide⟩ ⟨rfl, rfl⟩ ⟨Nat.zero_le _, Nat.zero_le _⟩ rfl (Nat.le_of_ble_eq_true rfl) rfl List.perm_append_comm List.perm_append_comm ?_
    refine z_aload_n G dX1_takeBack_53 0 rfl ?_
    refine z_get G (hin) 0 rfl rfl 2 (by decide) (List.mem_of_getElem? (i := 1) rfl) rfl dX1_takeBack_54 ?_
    exact hE _ _ _ _ dX1_takeBack_57 rfl ⟨rfl, rfl⟩
