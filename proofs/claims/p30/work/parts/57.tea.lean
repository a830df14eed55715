theorem k_X5_canLead : zCal yX5_canLead wsX5_canLead cX5_canLead 4 (some .int) 0 := ⟨⟨_, rfl⟩, by decide +kernel⟩
theorem in_X5_canLead_X5 : ∀ w ∈ wsX50, w ∈ wsX5_canLead := fun _ h => List.mem_cons_of_mem _ (List.mem_append_left _ (List.mem_append_left _ (List.mem_append_right _ h)))
set_option maxHeartbeats 4000000 in
set_option maxRecDepth 100000 in
theorem c_X5_canLead (l : Launch) (D : va_G) (y : Nat → ClassId) (e A : Nat → Nat → Nat) (R Q : Nat → Nat → Int32) (b0 b1 : Bool) (nx kp : Nat) (Gr K : Nat → Nat → Int32) (t : Nat → Int32) (len : Nat) (h : IV (R 1)) : zMi l D y yX5_canLead wsX5_canLead ({ frames := 4, cells := 0, slots := 0, locals := 93 }) [.ref (e 0 0)] (tsW y e A R Q b0 b1 nx kp Gr K t len) (fun r w => r = clR (R 1) ∧ ∃ g3, w = tsW y e A (upG R 3 g3) Q b0 b1 nx kp Gr K t len) := by
  refine zMi.mk (cc := cX5_canLead) (maxL := 4) (lv := [(0, .ref (e 0 0))]) (by decide) rfl (Nat.le_of_ble_eq_true rfl) rfl (fun X G hE => ?_)
  have hin := in_X5_canLead_X5
  unfold tsW at hE ⊢
  refine z_iconst (v := nI 0) G dX5_canLead_0 rfl ?_
  refine z_istore_nA G dX5_canLead_1 rfl (by decide) rfl ?_
  refine z_aload_n G dX5_canLead_2 0 rfl ?_
  refine z_get G (hin) 0 rfl rfl 2 (by decide) (List.mem_of_getElem? (i := 1) rfl) rfl dX5_canLead_3 ?_
  refine z_aload_n G dX5_canLead_6 0 rfl ?_
  refine z_get G (hin) 0 rfl rfl 0 (by decide) (List.mem_of_getElem? (i := 2) rfl) rfl dX5_canLead_7 ?_
  refine z_pVv (As := [_]) G _ _ (fun l => c_X3_copyFrom l D y (e 3) (e 1) (R 3) (Q 3) (R 1) (Q 1)) k_X3_copyFrom gX5_canLead_X3_copyFrom 0 3 rfl rfl rfl dX5_canLead_10 ⟨by decide, by decide⟩ ⟨rfl, rfl⟩ ⟨Nat.zero_le _, Nat.zero_le _⟩ rfl (Nat.le_of_ble_eq_true rfl) rfl (fl_two (j := 3) (k := 1) rfl rfl) (fl_two2 (j := 3) (k := 1) rfl rfl) ?_
  refine z_iconst (v := nI 0) G dX5_canLead_13 rfl ?_
  refine z_istore_nA G dX5_canLead_14 rfl (by decide) rfl ?_
  have lo : ∀ nk k : Nat, nk + k = 101 → zV D X (tsW y e A (upG R 3 (biF (R 1) (k))) Q b0 b1 nx kp Gr K t len) 0 0 15 [(0, .ref (e 0 0)), (1, .int (clY (R 1) (k))), (2, .int (nI (k)))] [] := by
    intro nk
    induction nk with
    | zero =>
      intro k hk
      obtain rfl : k = 101 := by omega
      refine z_iload_n G dX5_canLead_15 2 rfl ?_
      refine z_bipush (v := nI 100) G dX5_canLead_16 rfl ?_
      refine z_icmp_gtT G dX5_canLead_18 55 (by decide) (nI_lt (by decide) (by decide)) ?_
      refine z_iload_n G dX5_canLead_55 1 rfl ?_
      exact hE _ _ _ _ dX5_canLead_56 rfl ⟨clY_R _, _, rfl⟩
    | succ nk ihk =>
      intro k hk
      have lk : k < 101 := by omega
      refine z_iload_n G dX5_canLead_15 2 rfl ?_
      refine z_bipush (v := nI 100) G dX5_canLead_16 rfl ?_
      refine z_icmp_gtF G dX5_canLead_18 55 (by decide) (nI_lt_no (by omega) (by decide)) ?_
      refine z_aload_n G dX5_canLead_21 0 rfl ?_
      refine z_get G (hin) 0 rfl rfl 2 (by decide) (List.mem_of_getElem? (i := 1) rfl) rfl dX5_canLead_22 ?_
      refine z_iconst (v := nI 0) G dX5_canLead_25 rfl ?_
      refine z_pVi (As := [_]) G _ _ _ (fun l => c_X3_guestRanked l D y (e 3) (biF (R 1) k) (Q 3) (PF_biF h.pf k) (IV_bi h k).ru (nI 0)) k_X3_guestRanked gX5_canLead_X3_guestRanked 0 3 rfl rfl rfl dX5_canLead_26 ⟨by decide, by decide⟩ ⟨rfl, rfl⟩ ⟨Nat.zero_le _, Nat.zero_le _⟩ rfl (Nat.le_of_ble_eq_true rfl) rfl (fl_pick (k := 3) rfl) (fl_put (k := 3) rfl) ?_
      refine z_istore_nA G dX5_canLead_29 rfl (by decide) rfl ?_
      refine z_iload_n G dX5_canLead_30 3 rfl ?_
      refine z_if_lt G dX5_canLead_31 40 (by decide) (fun c31 => ?_) (fun c31 => ?_)
      · refine z_aload_n G dX5_canLead_40 0 rfl ?_
        refine z_get G (hin) 0 rfl rfl 2 (by decide) (List.mem_of_getElem? (i := 1) rfl) rfl dX5_canLead_41 ?_
        refine z_iconst (v := nI 1) G dX5_canLead_44 rfl ?_
        refine z_pVi (As := [_]) G _ _ _ (fun l => c_X3_passBreaths l D y (e 3) (biF (R 1) k) (Q 3) (PF_biF h.pf k) (m := 1) (by decide)) k_X3_passBreaths gX5_canLead_X3_passBreaths 0 3 rfl rfl rfl dX5_canLead_45 ⟨by decide, by decide⟩ ⟨rfl, rfl⟩ ⟨Nat.zero_le _, Nat.zero_le _⟩ rfl (Nat.le_of_ble_eq_true rfl) rfl (fl_pick (k := 3) rfl) (fl_put (k := 3) rfl) ?_
        refine z_pop G dX5_canLead_48 rfl ?_
        refine z_iinc G dX5_canLead_49 2 rfl (nI (k + 1)) (nI_inc _) (by decide) rfl ?_
        refine z_goto (tgt := 15) G dX5_canLead_52 (by decide) ?_
        replace c31 : grR (biF (R 1) k) < 0 := c31
        refine z_world (ws' := tsW y e A (upG R 3 (biF (R 1) (k + 1))) Q b0 b1 nx kp Gr K t len) rfl ?_
        refine z_loc G [(0, .ref (e 0 0)), (1, .int (clY (R 1) (k + 1))), (2, .int (nI (k + 1)))] [0, 1, 2] (by rw [clY_lo h c31]; rfl) ?_
        exact ihk (k + 1) (by omega)
      · refine z_iload_n G dX5_canLead_34 1 rfl ?_
        refine z_iconst (v := nI 1) G dX5_canLead_35 rfl ?_
        refine z_iload_n G dX5_canLead_36 3 rfl ?_
        refine z_ishl G dX5_canLead_37 ?_
        refine z_ior G dX5_canLead_38 ?_
        refine z_top (w := .int (clY (R 1) (k + 1))) (congrArg Value.int (clY_hi c31)) ?_
        refine z_istore_n G dX5_canLead_39 rfl (by decide) 1 rfl ?_
        refine z_aload_n G dX5_canLead_40 0 rfl ?_
        refine z_get G (hin) 0 rfl rfl 2 (by decide) (List.mem_of_getElem? (i := 1) rfl) rfl dX5_canLead_41 ?_
        refine z_iconst (v := nI 1) G dX5_canLead_44 rfl ?_
        refine z_pVi (As := [_]) G _ _ _ (fun l => c_X3_passBreaths l D y (e 3) (biF (R 1) k) (Q 3) (PF_biF h.pf k) (m := 1) (by decide)) k_X3_passBreaths gX5_canLead_X3_passBreaths 0 3 rfl rfl rfl dX5_canLead_45 ⟨by decide, by decide⟩ ⟨rfl, rfl⟩ ⟨Nat.zero_le _, Nat.zero_le _⟩ rfl (Nat.le_of_ble_eq_true rfl) rfl (fl_pick (k := 3) rfl) (fl_put (k := 3) rfl) ?_
        refine z_pop G dX5_canLead_48 rfl ?_
        refine z_iinc G dX5_canLead_49 2 rfl (nI (k + 1)) (nI_inc _) (by decide) rfl ?_
        refine z_goto (tgt := 15) G dX5_canLead_52 (by decide) ?_
        refine z_world (ws' := tsW y e A (upG R 3 (biF (R 1) (k + 1))) Q b0 b1 nx kp Gr K t len) rfl ?_
        refine z_loc G [(0, .ref (e 0 0)), (1, .int (clY (R 1) (k + 1))), (2, .int (nI (k + 1)))] [0, 1, 2] rfl ?_
        exact ihk (k + 1) (by omega)
  exact z_lv (lv' := [(0, .ref (e 0 0)), (1, .int (clY (R 1) 0)), (2, .int (nI 0))]) (by rw [clY_0]; rfl) (z_world (ws' := tsW y e A (upG R 3 (biF (R 1) (0))) Q b0 b1 nx kp Gr K t len) rfl (lo 101 0 rfl))

theorem k_X5_ifRound : zCal yX5_ifRound wsX5_ifRound cX5_ifRound 3 (some .int) 1 := ⟨⟨_, rfl⟩, by decide +kernel⟩
theorem in_X5_ifRound_X5 : ∀ w ∈ wsX50, w ∈ wsX5_ifRound := fun _ h => List.mem_cons_of_mem _ (List.mem_append_left _ (List.mem_append_left _ (List.mem_append_right _ h)))
set_option maxHeartbeats 4000000 in
set_option maxRecDepth 100000 in
theorem c_X5_ifRound (l : Launch) (D : va_G) (y : Nat → ClassId) (e A : Nat → Nat → Nat) (R Q : Nat → Nat → Int32) (b0 b1 : Bool) (nx kp : Nat) (Gr K : Nat → Nat → Int32) (t : Nat → Int32) (len : Nat) (h : IV (R 1)) (x : Int32) : zMi l D y yX5_ifRound wsX5_ifRound ({ frames := 4, cells := 0, slots := 0, locals := 93 }) [.ref (e 0 0), .int (x)] (tsW y e A R Q b0 b1 nx kp Gr K t len) (fun r w => r = irR (R 1) (cu (R 1)) x ∧ ∃ g3 q3, w = tsW y e A (upG R 3 g3) (upG Q 3 q3) b0 b1 nx kp Gr K t len) := by
  refine zMi.mk (cc := cX5_ifRound) (maxL := 3) (lv := [(0, .ref (e 0 0)), (1, .int (x))]) (by decide) rfl (Nat.le_of_ble_eq_true rfl) rfl (fun X G hE => ?_)
  have hin := in_X5_ifRound_X5
  unfold tsW at hE ⊢
  refine z_iload_n G dX5_ifRound_0 1 rfl ?_
  refine z_if_lt G dX5_ifRound_1 9 (by decide) (fun c1 => ?_) (fun c1 => ?_)
  · refine z_bipush (v := (-2)) G dX5_ifRound_9 rfl ?_
    exact hE _ _ _ _ dX5_ifRound_11 rfl ⟨(irR_f (inB_l c1)).symm, R 3, Q 3, (by rw [upG_self, upG_self])⟩
  · refine z_iload_n G dX5_ifRound_4 1 rfl ?_
    refine z_iconst (v := nI 2) G dX5_ifRound_5 rfl ?_
    refine z_icmp_le G dX5_ifRound_6 12 (by decide) (fun c6 => ?_) (fun c6 => ?_)
    · have hB : inB x (nI 0) (nI 2) = true := inB_T (Int32.not_lt.mp c1) c6
      refine z_aload_n G dX5_ifRound_12 0 rfl ?_
      refine z_get G (hin) 0 rfl rfl 0 (by decide) (List.mem_of_getElem? (i := 1) rfl) rfl dX5_ifRound_13 ?_
      refine z_pVi (As := []) G _ _ _ (fun l => c_X3_guests l D y (e 1) (R 1) (Q 1) h.pf) k_X3_guests gX5_ifRound_X3_guests 0 3 rfl rfl rfl dX5_ifRound_16 ⟨by decide, by decide⟩ ⟨rfl, rfl⟩ ⟨Nat.zero_le _, Nat.zero_le _⟩ rfl (Nat.le_of_ble_eq_true rfl) rfl (fl_pick (k := 1) rfl) (fl_put (k := 1) rfl) ?_
      refine z_if_ne G dX5_ifRound_19 25 (by decide) (fun c19 => ?_) (fun c19 => ?_)
      · have n0 : ¬ ng (R 1) = 0 := fun z => c19 (by rw [z]; rfl)
        refine z_aload_n G dX5_ifRound_25 0 rfl ?_
        refine z_get G (hin) 0 rfl rfl 2 (by decide) (List.mem_of_getElem? (i := 2) rfl) rfl dX5_ifRound_26 ?_
        refine z_aload_n G dX5_ifRound_29 0 rfl ?_
        refine z_get G (hin) 0 rfl rfl 0 (by decide) (List.mem_of_getElem? (i := 1) rfl) rfl dX5_ifRound_30 ?_
        refine z_pVv (As := [_]) G _ _ (fun l => c_X3_copyFrom l D y (e 3) (e 1) (R 3) (Q 3) (R 1) (Q 1)) k_X3_copyFrom gX5_ifRound_X3_copyFrom 0 3 rfl rfl rfl dX5_ifRound_33 ⟨by decide, by decide⟩ ⟨rfl, rfl⟩ ⟨Nat.zero_le _, Nat.zero_le _⟩ rfl (Nat.le_of_ble_eq_true rfl) rfl (fl_two (j := 3) (k := 1) rfl rfl) (fl_two2 (j := 3) (k := 1) rfl rfl) ?_
        refine z_aload_n G dX5_ifRound_36 0 rfl ?_
        refine z_get G (hin) 0 rfl rfl 2 (by decide) (List.mem_of_getElem? (i := 2) rfl) rfl dX5_ifRound_37 ?_
        refine z_pVi (As := []) G _ _ _ (fun l => c_X3_handCupOn l D y (e 3) (R 1) (Q 3) h.pf h.su h.sj h.hc h.hcm) k_X3_handCupOn gX5_ifRound_X3_handCupOn 0 3 rfl rfl rfl dX5_ifRound_40 ⟨by decide, by decide⟩ ⟨rfl, rfl⟩ ⟨Nat.zero_le _, Nat.zero_le _⟩ rfl (Nat.le_of_ble_eq_true rfl) rfl (fl_pick (k := 3) rfl) (fl_put (k := 3) rfl) ?_
        refine z_istore_nA G dX5_ifRound_43 rfl (by decide) rfl ?_
        refine z_aload_n G dX5_ifRound_44 0 rfl ?_
        refine z_get G (hin) 0 rfl rfl 2 (by decide) (List.mem_of_getElem? (i := 2) rfl) rfl dX5_ifRound_45 ?_
        refine z_pVi (As := []) G _ _ _ (fun l => c_X3_seatByRank l D y (e 3) (cpH (R 1) (cu (R 1)) (ng (R 1))).1 (Q 3) (IV_cp h (cu (R 1)) (ng (R 1)) (Nat.le_refl _)).pf) k_X3_seatByRank gX5_ifRound_X3_seatByRank 0 3 rfl rfl rfl dX5_ifRound_48 ⟨by decide, by decide⟩ ⟨rfl, rfl⟩ ⟨Nat.zero_le _, Nat.zero_le _⟩ rfl (Nat.le_of_ble_eq_true rfl) rfl (fl_pick (k := 3) rfl) (fl_put (k := 3) rfl) ?_
        refine z_pop G dX5_ifRound_51 rfl ?_
        refine z_iload_n G dX5_ifRound_52 1 rfl ?_
        by_cases e0 : x = nI 0
        · refine z_top (w := .int (nI 0)) (congrArg Value.int e0) (z_lookup G 80 dX5_ifRound_53 (by decide) rfl (by decide) ?_)
          refine z_iload_n G dX5_ifRound_80 2 rfl ?_
          exact hE _ _ _ _ dX5_ifRound_81 rfl ⟨(irR_1 hB n0 e0).symm, _, rkA (cpH (R 1) (cu (R 1)) (ng (R 1))).1, rfl⟩
        by_cases e1 : x = nI 1
        · refine z_top (w := .int (nI 1)) (congrArg Value.int e1) (z_lookup G 82 dX5_ifRound_53 (by decide) rfl (by decide) ?_)
          refine z_aload_n G dX5_ifRound_82 0 rfl ?_
          refine z_get G (hin) 0 rfl rfl 2 (by decide) (List.mem_of_getElem? (i := 2) rfl) rfl dX5_ifRound_83 ?_
          refine z_pVi (As := []) G _ _ _ (fun l => c_X3_breaths l D y (e 3) (stF (cpH (R 1) (cu (R 1)) (ng (R 1))).1 9) (rkA (cpH (R 1) (cu (R 1)) (ng (R 1))).1)) k_X3_breaths gX5_ifRound_X3_breaths 0 3 rfl rfl rfl dX5_ifRound_86 ⟨by decide, by decide⟩ ⟨rfl, rfl⟩ ⟨Nat.zero_le _, Nat.zero_le _⟩ rfl (Nat.le_of_ble_eq_true rfl) rfl (fl_pick (k := 3) rfl) (fl_put (k := 3) rfl) ?_
          refine z_aload_n G dX5_ifRound_89 0 rfl ?_
          refine z_get G (hin) 0 rfl rfl 0 (by decide) (List.mem_of_getElem? (i := 1) rfl) rfl dX5_ifRound_90 ?_
          refine z_pVi (As := []) G _ _ _ (fun l => c_X3_breaths l D y (e 1) (R 1) (Q 1)) k_X3_breaths gX5_ifRound_X3_breaths 0 3 rfl rfl rfl dX5_ifRound_93 ⟨by decide, by decide⟩ ⟨rfl, rfl⟩ ⟨Nat.zero_le _, Nat.zero_le _⟩ rfl (Nat.le_of_ble_eq_true rfl) rfl (fl_pick (k := 1) rfl) (fl_put (k := 1) rfl) ?_
          refine z_isub G dX5_ifRound_96 ?_
          exact hE _ _ _ _ dX5_ifRound_97 rfl ⟨(cp_br rfl h.hc).trans (irR_2 hB n0 e0 e1).symm, _, rkA (cpH (R 1) (cu (R 1)) (ng (R 1))).1, rfl⟩
        refine z_lookup G 98 dX5_ifRound_53 (by decide) ((lv_osw e0 rfl).trans ((lv_osw e1 rfl).trans (show Op.lookupswitch.offset [] (45) _ = (45) from rfl))) (by decide) ?_
        refine z_aload_n G dX5_ifRound_98 0 rfl ?_
        refine z_get G (hin) 0 rfl rfl 2 (by decide) (List.mem_of_getElem? (i := 2) rfl) rfl dX5_ifRound_99 ?_
        refine z_iconst (v := nI 0) G dX5_ifRound_102 rfl ?_
        refine z_pVi (As := [_]) G _ _ _ (fun l => c_X3_guestIn l D y (e 3) (stF (cpH (R 1) (cu (R 1)) (ng (R 1))).1 9) (rkA (cpH (R 1) (cu (R 1)) (ng (R 1))).1) (IV_st (IV_cp h (cu (R 1)) (ng (R 1)) (Nat.le_refl _))).pf (IV_st (IV_cp h (cu (R 1)) (ng (R 1)) (Nat.le_refl _))).su (nI 0)) k_X3_guestIn gX5_ifRound_X3_guestIn 0 3 rfl rfl rfl dX5_ifRound_103 ⟨by decide, by decide⟩ ⟨rfl, rfl⟩ ⟨Nat.zero_le _, Nat.zero_le _⟩ rfl (Nat.le_of_ble_eq_true rfl) rfl (fl_pick (k := 3) rfl) (fl_put (k := 3) rfl) ?_
        exact hE _ _ _ _ dX5_ifRound_106 rfl ⟨(irR_3 hB n0 e0 e1).symm, _, rkA (cpH (R 1) (cu (R 1)) (ng (R 1))).1, rfl⟩
      · have n0 : ng (R 1) = 0 := (nI_eq (by have := ng_le (R 1); omega) (by decide)).mp c19
        refine z_bipush (v := (-5)) G dX5_ifRound_22 rfl ?_
        exact hE _ _ _ _ dX5_ifRound_24 rfl ⟨(irR_0 hB n0).symm, R 3, Q 3, (by rw [upG_self, upG_self]; rfl)⟩
    · refine z_bipush (v := (-2)) G dX5_ifRound_9 rfl ?_
      exact hE _ _ _ _ dX5_ifRound_11 rfl ⟨(irR_f (inB_h (Int32.not_le.mp c6))).symm, R 3, Q 3, (by rw [upG_self, upG_self])⟩
