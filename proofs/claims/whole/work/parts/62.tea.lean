theorem k_X5_carryOut : zCal yX5_carryOut wsX5_carryOut cX5_carryOut 3 (some .int) 0 := ⟨⟨_, rfl⟩, by decide +kernel⟩
theorem in_X5_carryOut_X5 : ∀ w ∈ wsX50, w ∈ wsX5_carryOut := fun _ h => List.mem_cons_of_mem _ (List.mem_append_left _ (List.mem_append_left _ (List.mem_append_left _ (List.mem_append_left _ (List.mem_append_right _ h)))))
set_option maxHeartbeats 4000000 in
set_option maxRecDepth 100000 in
theorem c_X5_carryOut_out (l : Launch) (D : va_G) (y : Nat → ClassId) (e A : Nat → Nat → Nat) (R Q : Nat → Nat → Int32) (b0 b1 : Bool) (nx kp : Nat) (Gr K : Nat → Nat → Int32) (t : Nat → Int32) (len : Nat) (h80 : len ≤ 80) (hf : ¬ ffR t len = -6) : zDi l D y yX5_carryOut wsX5_carryOut ({ frames := 6, cells := 0, slots := 0, locals := 145 }) [.ref (e 0 0)] (tsW y e A R Q b0 b1 nx kp Gr K t len) (-3) (tsW y e A R Q b0 b1 nx kp Gr K t len) := by
  refine zMi.mk (cc := cX5_carryOut) (maxL := 3) (lv := [(0, .ref (e 0 0))]) (by decide) rfl (Nat.le_of_ble_eq_true rfl) rfl (fun X G hE => ?_)
  have hin := in_X5_carryOut_X5
  unfold tsW at hE ⊢
  refine z_aload_n G dX5_carryOut_0 0 rfl ?_
  refine z_get G (hin) 0 rfl rfl 6 (by decide) (List.mem_of_getElem? (i := 1) rfl) rfl dX5_carryOut_1 ?_
  refine z_pVi (As := []) G _ _ _ (fun l => c_X2_firstFault l D y (e 9) t h80) k_X2_firstFault gX5_carryOut_X2_firstFault 0 2 rfl rfl rfl dX5_carryOut_4 ⟨by decide, by decide⟩ ⟨rfl, rfl⟩ ⟨Nat.zero_le _, Nat.zero_le _⟩ rfl (Nat.le_of_ble_eq_true rfl) rfl (fl_pick (k := 10) rfl) (fl_put (k := 10) rfl) ?_
  refine z_bipush (v := (-6)) G dX5_carryOut_7 rfl ?_
  refine z_icmp_eqF G dX5_carryOut_9 15 (by decide) hf ?_
  refine z_bipush (v := (-3)) G dX5_carryOut_12 rfl ?_
  exact hE _ _ _ _ dX5_carryOut_14 rfl ⟨rfl, rfl⟩

set_option maxHeartbeats 4000000 in
set_option maxRecDepth 100000 in
theorem c_X5_carryOut (l : Launch) (D : va_G) (y : Nat → ClassId) (e A : Nat → Nat → Nat) (R Q : Nat → Nat → Int32) (b0 b1 : Bool) (nx kp : Nat) (Gr K : Nat → Nat → Int32) (t : Nat → Int32) (len : Nat) (h : IV (R 1)) (hn : nx < 6) (hk : kp ≤ 6) (h80 : len ≤ 80) (hf : ffR t len = -6) : zMi l D y yX5_carryOut wsX5_carryOut ({ frames := 6, cells := 0, slots := 0, locals := 145 }) [.ref (e 0 0)] (tsW y e A R Q b0 b1 nx kp Gr K t len) (fun r w => r = nI (oxE t len (R 1)).1 ∧ ∃ q1, w = tsW y e A (upG (upG R 2 (R 1)) 1 ((oxE t len (R 1)).2)) (upG Q 1 q1) b0 b1 (nxS nx) (kpS kp) (upG Gr nx (R 1)) K t 0) := by
  refine zMi.mk (cc := cX5_carryOut) (maxL := 3) (lv := [(0, .ref (e 0 0))]) (by decide) rfl (Nat.le_of_ble_eq_true rfl) rfl (fun X G hE => ?_)
  have hin := in_X5_carryOut_X5
  unfold tsW at hE ⊢
  have h28 : (oxE t len (R 1)).1 < 2 ^ 31 := by have := oxE_le t len (R 1); omega
  refine z_aload_n G dX5_carryOut_0 0 rfl ?_
  refine z_get G (hin) 0 rfl rfl 6 (by decide) (List.mem_of_getElem? (i := 1) rfl) rfl dX5_carryOut_1 ?_
  refine z_pVi (As := []) G _ _ _ (fun l => c_X2_firstFault l D y (e 9) t h80) k_X2_firstFault gX5_carryOut_X2_firstFault 0 2 rfl rfl rfl dX5_carryOut_4 ⟨by decide, by decide⟩ ⟨rfl, rfl⟩ ⟨Nat.zero_le _, Nat.zero_le _⟩ rfl (Nat.le_of_ble_eq_true rfl) rfl (fl_pick (k := 10) rfl) (fl_put (k := 10) rfl) ?_
  refine z_bipush (v := (-6)) G dX5_carryOut_7 rfl ?_
  refine z_icmp_eqT G dX5_carryOut_9 15 (by decide) hf ?_
  refine z_aload_n G dX5_carryOut_15 0 rfl ?_
  refine z_get G (hin) 0 rfl rfl 1 (by decide) (List.mem_of_getElem? (i := 2) rfl) rfl dX5_carryOut_16 ?_
  refine z_aload_n G dX5_carryOut_19 0 rfl ?_
  refine z_get G (hin) 0 rfl rfl 0 (by decide) (List.mem_of_getElem? (i := 3) rfl) rfl dX5_carryOut_20 ?_
  refine z_pVv (As := [_]) G _ _ (fun l => c_X3_copyFrom l D y (e 2) (e 1) (R 2) (Q 2) (R 1) (Q 1)) k_X3_copyFrom gX5_carryOut_X3_copyFrom 0 3 rfl rfl rfl dX5_carryOut_23 ⟨by decide, by decide⟩ ⟨rfl, rfl⟩ ⟨Nat.zero_le _, Nat.zero_le _⟩ rfl (Nat.le_of_ble_eq_true rfl) rfl (fl_two (j := 2) (k := 1) rfl rfl) (fl_two2 (j := 2) (k := 1) rfl rfl) ?_
  refine z_aload_n G dX5_carryOut_26 0 rfl ?_
  refine z_get G (hin) 0 rfl rfl 6 (by decide) (List.mem_of_getElem? (i := 1) rfl) rfl dX5_carryOut_27 ?_
  refine z_pVi (As := []) G _ _ _ (fun l => c_X2_orders l D y (e 9) t h80) k_X2_orders gX5_carryOut_X2_orders 0 2 rfl rfl rfl dX5_carryOut_30 ⟨by decide, by decide⟩ ⟨rfl, rfl⟩ ⟨Nat.zero_le _, Nat.zero_le _⟩ rfl (Nat.le_of_ble_eq_true rfl) rfl (fl_pick (k := 10) rfl) (fl_put (k := 10) rfl) ?_
  refine z_istore_nA G dX5_carryOut_33 rfl (by decide) rfl ?_
  refine z_iconst (v := nI 0) G dX5_carryOut_34 rfl ?_
  refine z_istore_nA G dX5_carryOut_35 rfl (by decide) rfl ?_
  have hM : cnt (semi t) len ≤ len := cnt_le _ _
  have fin : ∀ (S : Nat × (Nat → Int32)) (q1 : Nat → Int32), S = (oxE t len (R 1)) → zV D X (tsW y e A (upG (upG R 2 (R 1)) 1 (S.2)) (upG Q 1 q1) b0 b1 nx kp Gr K t len) 0 0 62 [(0, .ref (e 0 0)), (1, .int (nI ((cnt (semi t) len + 1)))), (2, .int (nI (S.1)))] [] := by
    intro S q1 hs
    unfold tsW
    refine z_aload_n G dX5_carryOut_62 0 rfl ?_
    refine z_get G (hin) 0 rfl rfl 6 (by decide) (List.mem_of_getElem? (i := 1) rfl) rfl dX5_carryOut_63 ?_
    refine z_pVi (As := []) G _ _ _ (fun l => c_X2_empty l D y (e 9) t h80) k_X2_empty gX5_carryOut_X2_empty 0 2 rfl rfl rfl dX5_carryOut_66 ⟨by decide, by decide⟩ ⟨rfl, rfl⟩ ⟨Nat.zero_le _, Nat.zero_le _⟩ rfl (Nat.le_of_ble_eq_true rfl) rfl (fl_pick (k := 10) rfl) (fl_put (k := 10) rfl) ?_
    refine z_pop G dX5_carryOut_69 rfl ?_
    refine z_aload_n G dX5_carryOut_70 0 rfl ?_
    refine z_iload_n G dX5_carryOut_71 2 rfl ?_
    refine z_world (ws' := tsW y e A (upG (upG R 2 (R 1)) 1 (S.2)) (upG Q 1 q1) b0 b1 nx kp Gr K t 0) rfl ?_
    refine z_dVi (As := [_]) G _ _ (fun l => c_X5_recorded l D y e A (upG (upG R 2 (R 1)) 1 (S.2)) (upG Q 1 q1) b0 b1 nx kp Gr K t 0 hn hk (nI S.1)) k_X5_recorded gX5_carryOut_X5_recorded 0 5 rfl rfl rfl dX5_carryOut_72 ⟨by decide, by decide⟩ ⟨rfl, rfl⟩ ⟨Nat.zero_le _, Nat.zero_le _⟩ rfl (Nat.le_of_ble_eq_true rfl) rfl ?_
    have r0 : 0 ≤ nI S.1 := Int32.not_lt.mp (nI_pos (by rw [hs]; exact h28))
    exact hE _ _ _ _ dX5_carryOut_75 rfl ⟨(by rw [hs]), q1, (by rw [← hs, rcN, rcP, rcG, if_pos r0, if_pos r0, if_pos r0]; rfl)⟩
  have lo : ∀ (n : Nat) (S : Nat × (Nat → Int32)) (q1 : Nat → Int32), n + S.1 = (cnt (semi t) len + 1) → IV S.2 → oxS t len n S = (oxE t len (R 1)) → zV D X (tsW y e A (upG (upG R 2 (R 1)) 1 (S.2)) (upG Q 1 q1) b0 b1 nx kp Gr K t len) 0 0 36 [(0, .ref (e 0 0)), (1, .int (nI ((cnt (semi t) len + 1)))), (2, .int (nI (S.1)))] [] := by
    intro n
    induction n with
    | zero =>
      intro S q1 hn1 hi he
      refine z_iload_n G dX5_carryOut_36 2 rfl ?_
      refine z_iload_n G dX5_carryOut_37 1 rfl ?_
      refine z_icmp_geT G dX5_carryOut_38 62 (by decide) (nI_le (by omega) (by omega)) ?_
      exact fin S q1 he
    | succ n ih =>
      intro S q1 hn1 hi he
      unfold tsW
      refine z_iload_n G dX5_carryOut_36 2 rfl ?_
      refine z_iload_n G dX5_carryOut_37 1 rfl ?_
      refine z_icmp_geF G dX5_carryOut_38 62 (by decide) (nI_ge (by omega) (by omega)) ?_
      refine z_aload_n G dX5_carryOut_41 0 rfl ?_
      refine z_aload_n G dX5_carryOut_42 0 rfl ?_
      refine z_get G (hin) 0 rfl rfl 6 (by decide) (List.mem_of_getElem? (i := 1) rfl) rfl dX5_carryOut_43 ?_
      refine z_iload_n G dX5_carryOut_46 2 rfl ?_
      refine z_pVi (As := [_]) G _ _ _ (fun l => c_X2_startOf l D y (e 9) t h80 (k := S.1) (by omega)) k_X2_startOf gX5_carryOut_X2_startOf 0 2 rfl rfl rfl dX5_carryOut_47 ⟨by decide, by decide⟩ ⟨rfl, rfl⟩ ⟨Nat.zero_le _, Nat.zero_le _⟩ rfl (Nat.le_of_ble_eq_true rfl) rfl (fl_pick (k := 10) rfl) (fl_put (k := 10) rfl) ?_
      refine z_world (ws' := tsW y e A (upG (upG R 2 (R 1)) 1 (S.2)) (upG Q 1 q1) b0 b1 nx kp Gr K t len) rfl ?_
      refine z_wVi (As := [_]) G (fun l => c_X5_obey l D y e A (upG (upG R 2 (R 1)) 1 (S.2)) (upG Q 1 q1) b0 b1 nx kp Gr K t len hi h80 (i := soN t len 0 S.1) (by have := soN_le (t := t) len 0 S.1; omega)) k_X5_obey gX5_carryOut_X5_obey 0 5 rfl rfl rfl dX5_carryOut_50 ⟨by decide, by decide⟩ ⟨rfl, rfl⟩ ⟨Nat.zero_le _, Nat.zero_le _⟩ rfl (Nat.le_of_ble_eq_true rfl) rfl (fun r w1 hr => ?_)
      obtain ⟨hr1, q2, rfl⟩ := hr
      replace hr1 : r = (obA t len S.2 S.1).1 := hr1
      refine z_world (ws' := tsW y e A (upG (upG R 2 (R 1)) 1 ((obA t len S.2 S.1).2)) (upG Q 1 q2) b0 b1 nx kp Gr K t len) (by rw [upG_up, upG_up]; rfl) ?_
      refine z_if_lt G dX5_carryOut_53 62 (by decide) (fun c53 => ?_) (fun c53 => ?_)
      · exact fin (S.1, (obA t len S.2 S.1).2) q2 ((oxS_n (Int32.not_le.mpr (by rw [← hr1]; exact c53))).symm.trans he)
      · have r0 : 0 ≤ (obA t len S.2 S.1).1 := by rw [← hr1]; exact Int32.not_lt.mp c53
        refine z_iinc G dX5_carryOut_56 2 rfl (nI (S.1 + 1)) (nI_inc _) (by decide) rfl ?_
        refine z_goto (tgt := 36) G dX5_carryOut_59 (by decide) ?_
        exact ih (S.1 + 1, (obA t len S.2 S.1).2) q2 (by show n + (S.1 + 1) = _; omega) (IV_ob hi _ _ _ _) ((oxS_y r0).symm.trans he)
  refine z_world (ws' := tsW y e A (upG (upG R 2 (R 1)) 1 (R 1)) (upG Q 1 (Q 1)) b0 b1 nx kp Gr K t len) (by rw [show upG (upG R 2 (R 1)) 1 (R 1) = upG R 2 (R 1) from upG_self (upG R 2 (R 1)) 1, upG_self]; rfl) ?_
  exact lo (cnt (semi t) len + 1) (0, R 1) (Q 1) rfl h rfl
