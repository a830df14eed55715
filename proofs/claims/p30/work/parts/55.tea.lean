theorem k_X5_ifWord : zCal yX5_ifWord wsX5_ifWord cX5_ifWord 2 (some .int) 1 := ⟨⟨_, rfl⟩, by decide +kernel⟩
theorem in_X5_ifWord_X5 : ∀ w ∈ wsX50, w ∈ wsX5_ifWord := fun _ h => List.mem_cons_of_mem _ (List.mem_append_left _ (List.mem_append_left _ (List.mem_append_right _ h)))
set_option maxHeartbeats 4000000 in
set_option maxRecDepth 100000 in
theorem c_X5_ifWord (l : Launch) (D : va_G) (y : Nat → ClassId) (e A : Nat → Nat → Nat) (R Q : Nat → Nat → Int32) (b0 b1 : Bool) (nx kp : Nat) (Gr K : Nat → Nat → Int32) (t : Nat → Int32) (len : Nat) (h : IV (R 1)) (x : Int32) : zDi l D y yX5_ifWord wsX5_ifWord ({ frames := 3, cells := 0, slots := 0, locals := 82 }) [.ref (e 0 0), .int (x)] (tsW y e A R Q b0 b1 nx kp Gr K t len) (iwR (R 1) x) (tsW y e A (if hx (R 1) x = true then upG R 3 (woR (R 1) x).2 else R) Q b0 b1 nx kp Gr K t len) := by
  refine zMi.mk (cc := cX5_ifWord) (maxL := 2) (lv := [(0, .ref (e 0 0)), (1, .int (x))]) (by decide) rfl (Nat.le_of_ble_eq_true rfl) rfl (fun X G hE => ?_)
  have hin := in_X5_ifWord_X5
  unfold tsW at hE ⊢
  refine z_aload_n G dX5_ifWord_0 0 rfl ?_
  refine z_get G (hin) 0 rfl rfl 0 (by decide) (List.mem_of_getElem? (i := 1) rfl) rfl dX5_ifWord_1 ?_
  refine z_iload_n G dX5_ifWord_4 1 rfl ?_
  refine z_pVi (As := [_]) G _ _ _ (fun l => c_X3_isHere l D y (e 1) (R 1) (Q 1) h.pf x) k_X3_isHere gX5_ifWord_X3_isHere 0 3 rfl rfl rfl dX5_ifWord_5 ⟨by decide, by decide⟩ ⟨rfl, rfl⟩ ⟨Nat.zero_le _, Nat.zero_le _⟩ rfl (Nat.le_of_ble_eq_true rfl) rfl (fl_pick (k := 1) rfl) (fl_put (k := 1) rfl) ?_
  refine z_if_ne G dX5_ifWord_8 13 (by decide) (fun c8 => ?_) (fun c8 => ?_)
  · have hh := bI_n c8
    obtain ⟨g, hg, rfl, sg⟩ := hx_t hh
    refine z_aload_n G dX5_ifWord_13 0 rfl ?_
    refine z_get G (hin) 0 rfl rfl 2 (by decide) (List.mem_of_getElem? (i := 2) rfl) rfl dX5_ifWord_14 ?_
    refine z_aload_n G dX5_ifWord_17 0 rfl ?_
    refine z_get G (hin) 0 rfl rfl 0 (by decide) (List.mem_of_getElem? (i := 1) rfl) rfl dX5_ifWord_18 ?_
    refine z_pVv (As := [_]) G _ _ (fun l => c_X3_copyFrom l D y (e 3) (e 1) (R 3) (Q 3) (R 1) (Q 1)) k_X3_copyFrom gX5_ifWord_X3_copyFrom 0 3 rfl rfl rfl dX5_ifWord_21 ⟨by decide, by decide⟩ ⟨rfl, rfl⟩ ⟨Nat.zero_le _, Nat.zero_le _⟩ rfl (Nat.le_of_ble_eq_true rfl) rfl (fl_two (j := 3) (k := 1) rfl rfl) (fl_two2 (j := 3) (k := 1) rfl rfl) ?_
    refine z_aload_n G dX5_ifWord_24 0 rfl ?_
    refine z_get G (hin) 0 rfl rfl 2 (by decide) (List.mem_of_getElem? (i := 2) rfl) rfl dX5_ifWord_25 ?_
    refine z_iload_n G dX5_ifWord_28 1 rfl ?_
    refine z_pVi (As := [_]) G _ _ _ (fun l => c_X3_hearWord l D y (e 3) (R 1) (Q 3) h.pf (nI g)) k_X3_hearWord gX5_ifWord_X3_hearWord 0 3 rfl rfl rfl dX5_ifWord_29 ⟨by decide, by decide⟩ ⟨rfl, rfl⟩ ⟨Nat.zero_le _, Nat.zero_le _⟩ rfl (Nat.le_of_ble_eq_true rfl) rfl (fl_pick (k := 3) rfl) (fl_put (k := 3) rfl) ?_
    refine z_pop G dX5_ifWord_32 rfl ?_
    refine z_aload_n G dX5_ifWord_33 0 rfl ?_
    refine z_get G (hin) 0 rfl rfl 2 (by decide) (List.mem_of_getElem? (i := 2) rfl) rfl dX5_ifWord_34 ?_
    refine z_iload_n G dX5_ifWord_37 1 rfl ?_
    refine z_pVi (As := [_]) G _ _ _ (fun l => c_X3_rankOf l D y (e 3) ((woR (R 1) (nI g)).2) (Q 3) (IV_woR h (nI g)).pf hg) k_X3_rankOf gX5_ifWord_X3_rankOf 0 3 rfl rfl rfl dX5_ifWord_38 ⟨by decide, by decide⟩ ⟨rfl, rfl⟩ ⟨Nat.zero_le _, Nat.zero_le _⟩ rfl (Nat.le_of_ble_eq_true rfl) rfl (fl_pick (k := 3) rfl) (fl_put (k := 3) rfl) ?_
    exact hE _ _ _ _ dX5_ifWord_41 rfl ⟨(by rw [show (woR (R 1) (nI g)).2 = woF (R 1) g by rw [woR, hx_n hg, if_pos sg, nI_clamp (by omega)], rk_wo hg, iwR, hx_n hg, if_pos sg, nI_clamp (by omega)]), (by rw [hx_n hg, if_pos sg]; rfl)⟩
  · refine z_iconst (v := (-1)) G dX5_ifWord_11 rfl ?_
    exact hE _ _ _ _ dX5_ifWord_12 rfl ⟨(by rw [iwR, bI_0 c8]; rfl), (by rw [bI_0 c8]; rfl)⟩

theorem k_X5_seatedIn : zCal yX5_seatedIn wsX5_seatedIn cX5_seatedIn 4 (some .int) 2 := ⟨⟨_, rfl⟩, by decide +kernel⟩
theorem in_X5_seatedIn_X5 : ∀ w ∈ wsX50, w ∈ wsX5_seatedIn := fun _ h => List.mem_cons_of_mem _ (List.mem_append_left _ (List.mem_append_left _ (List.mem_append_right _ h)))
set_option maxHeartbeats 4000000 in
set_option maxRecDepth 100000 in
theorem c_X5_seatedIn (l : Launch) (D : va_G) (y : Nat → ClassId) (e A : Nat → Nat → Nat) (R Q : Nat → Nat → Int32) (b0 b1 : Bool) (nx kp : Nat) (Gr K : Nat → Nat → Int32) (t : Nat → Int32) (len : Nat) (h : IV (R 1)) (x z : Int32) : zMi l D y yX5_seatedIn wsX5_seatedIn ({ frames := 3, cells := 0, slots := 0, locals := 82 }) [.ref (e 0 0), .int (x), .int (z)] (tsW y e A R Q b0 b1 nx kp Gr K t len) (fun r w => r = stR (R 1) x z ∧ ∃ g3, w = tsW y e A (upG R 3 g3) Q b0 b1 nx kp Gr K t len) := by
  refine zMi.mk (cc := cX5_seatedIn) (maxL := 4) (lv := [(0, .ref (e 0 0)), (1, .int (x)), (2, .int (z))]) (by decide) rfl (Nat.le_of_ble_eq_true rfl) rfl (fun X G hE => ?_)
  have hin := in_X5_seatedIn_X5
  unfold tsW at hE ⊢
  refine z_aload_n G dX5_seatedIn_0 0 rfl ?_
  refine z_get G (hin) 0 rfl rfl 0 (by decide) (List.mem_of_getElem? (i := 1) rfl) rfl dX5_seatedIn_1 ?_
  refine z_iload_n G dX5_seatedIn_4 1 rfl ?_
  refine z_pVi (As := [_]) G _ _ _ (fun l => c_X3_isHere l D y (e 1) (R 1) (Q 1) h.pf x) k_X3_isHere gX5_seatedIn_X3_isHere 0 3 rfl rfl rfl dX5_seatedIn_5 ⟨by decide, by decide⟩ ⟨rfl, rfl⟩ ⟨Nat.zero_le _, Nat.zero_le _⟩ rfl (Nat.le_of_ble_eq_true rfl) rfl (fl_pick (k := 1) rfl) (fl_put (k := 1) rfl) ?_
  refine z_if_eq G dX5_seatedIn_8 26 (by decide) (fun c8 => ?_) (fun c8 => ?_)
  · refine z_iconst (v := (-1)) G dX5_seatedIn_26 rfl ?_
    exact hE _ _ _ _ dX5_seatedIn_27 rfl ⟨(by rw [stR, stB_1 (bI_0 c8)]; rfl), R 3, (by rw [upG_self]; rfl)⟩
  · have hh := bI_n c8
    obtain ⟨g, hg, rfl, sg⟩ := hx_t hh
    refine z_iload_n G dX5_seatedIn_11 2 rfl ?_
    refine z_if_lt G dX5_seatedIn_12 26 (by decide) (fun c12 => ?_) (fun c12 => ?_)
    · refine z_iconst (v := (-1)) G dX5_seatedIn_26 rfl ?_
      exact hE _ _ _ _ dX5_seatedIn_27 rfl ⟨(by rw [stR, stB_2 c12]; rfl), R 3, (by rw [upG_self]; rfl)⟩
    · refine z_iload_n G dX5_seatedIn_15 2 rfl ?_
      refine z_aload_n G dX5_seatedIn_16 0 rfl ?_
      refine z_get G (hin) 0 rfl rfl 0 (by decide) (List.mem_of_getElem? (i := 1) rfl) rfl dX5_seatedIn_17 ?_
      refine z_pVi (As := []) G _ _ _ (fun l => c_X3_guests l D y (e 1) (R 1) (Q 1) h.pf) k_X3_guests gX5_seatedIn_X3_guests 0 3 rfl rfl rfl dX5_seatedIn_20 ⟨by decide, by decide⟩ ⟨rfl, rfl⟩ ⟨Nat.zero_le _, Nat.zero_le _⟩ rfl (Nat.le_of_ble_eq_true rfl) rfl (fl_pick (k := 1) rfl) (fl_put (k := 1) rfl) ?_
      refine z_icmp_lt G dX5_seatedIn_23 28 (by decide) (fun c23 => ?_) (fun c23 => ?_)
      · have hB := stB_T hh c12 c23
        refine z_aload_n G dX5_seatedIn_28 0 rfl ?_
        refine z_get G (hin) 0 rfl rfl 2 (by decide) (List.mem_of_getElem? (i := 2) rfl) rfl dX5_seatedIn_29 ?_
        refine z_aload_n G dX5_seatedIn_32 0 rfl ?_
        refine z_get G (hin) 0 rfl rfl 0 (by decide) (List.mem_of_getElem? (i := 1) rfl) rfl dX5_seatedIn_33 ?_
        refine z_pVv (As := [_]) G _ _ (fun l => c_X3_copyFrom l D y (e 3) (e 1) (R 3) (Q 3) (R 1) (Q 1)) k_X3_copyFrom gX5_seatedIn_X3_copyFrom 0 3 rfl rfl rfl dX5_seatedIn_36 ⟨by decide, by decide⟩ ⟨rfl, rfl⟩ ⟨Nat.zero_le _, Nat.zero_le _⟩ rfl (Nat.le_of_ble_eq_true rfl) rfl (fl_two (j := 3) (k := 1) rfl rfl) (fl_two2 (j := 3) (k := 1) rfl rfl) ?_
        refine z_iconst (v := nI 0) G dX5_seatedIn_39 rfl ?_
        refine z_istore_nA G dX5_seatedIn_40 rfl (by decide) rfl ?_
        have lo : ∀ nk k : Nat, nk + k = 301 → stR (R 1) (nI g) z = siX (R 1) g z nk k → zV D X (tsW y e A (upG R 3 (biF (R 1) (k))) Q b0 b1 nx kp Gr K t len) 0 0 41 [(0, .ref (e 0 0)), (1, .int (nI (g))), (2, .int (z)), (3, .int (nI (k)))] [] := by
          intro nk
          induction nk with
          | zero =>
            intro k hk hs
            obtain rfl : k = 301 := by omega
            refine z_iload_n G dX5_seatedIn_41 3 rfl ?_
            refine z_sipush (v := nI 300) G dX5_seatedIn_42 rfl ?_
            refine z_icmp_gtT G dX5_seatedIn_45 77 (by decide) (nI_lt (by decide) (by decide)) ?_
            refine z_bipush (v := (-6)) G dX5_seatedIn_77 rfl ?_
            exact hE _ _ _ _ dX5_seatedIn_79 rfl ⟨hs.symm, _, rfl⟩
          | succ nk ihk =>
            intro k hk hs
            have lk : k < 301 := by omega
            refine z_iload_n G dX5_seatedIn_41 3 rfl ?_
            refine z_sipush (v := nI 300) G dX5_seatedIn_42 rfl ?_
            refine z_icmp_gtF G dX5_seatedIn_45 77 (by decide) (nI_lt_no (by omega) (by decide)) ?_
            refine z_aload_n G dX5_seatedIn_48 0 rfl ?_
            refine z_get G (hin) 0 rfl rfl 2 (by decide) (List.mem_of_getElem? (i := 2) rfl) rfl dX5_seatedIn_49 ?_
            refine z_iload_n G dX5_seatedIn_52 1 rfl ?_
            refine z_pVi (As := [_]) G _ _ _ (fun l => c_X3_rankOf l D y (e 3) (biF (R 1) k) (Q 3) (PF_biF h.pf k) hg) k_X3_rankOf gX5_seatedIn_X3_rankOf 0 3 rfl rfl rfl dX5_seatedIn_53 ⟨by decide, by decide⟩ ⟨rfl, rfl⟩ ⟨Nat.zero_le _, Nat.zero_le _⟩ rfl (Nat.le_of_ble_eq_true rfl) rfl (fl_pick (k := 3) rfl) (fl_put (k := 3) rfl) ?_
            refine z_iload_n G dX5_seatedIn_56 2 rfl ?_
            refine z_icmp_gt G dX5_seatedIn_57 62 (by decide) (fun c57 => ?_) (fun c57 => ?_)
            · refine z_aload_n G dX5_seatedIn_62 0 rfl ?_
              refine z_get G (hin) 0 rfl rfl 2 (by decide) (List.mem_of_getElem? (i := 2) rfl) rfl dX5_seatedIn_63 ?_
              refine z_iconst (v := nI 1) G dX5_seatedIn_66 rfl ?_
              refine z_pVi (As := [_]) G _ _ _ (fun l => c_X3_passBreaths l D y (e 3) (biF (R 1) k) (Q 3) (PF_biF h.pf k) (m := 1) (by decide)) k_X3_passBreaths gX5_seatedIn_X3_passBreaths 0 3 rfl rfl rfl dX5_seatedIn_67 ⟨by decide, by decide⟩ ⟨rfl, rfl⟩ ⟨Nat.zero_le _, Nat.zero_le _⟩ rfl (Nat.le_of_ble_eq_true rfl) rfl (fl_pick (k := 3) rfl) (fl_put (k := 3) rfl) ?_
              refine z_pop G dX5_seatedIn_70 rfl ?_
              refine z_iinc G dX5_seatedIn_71 3 rfl (nI (k + 1)) (nI_inc _) (by decide) rfl ?_
              refine z_goto (tgt := 41) G dX5_seatedIn_74 (by decide) ?_
              refine z_world (ws' := tsW y e A (upG R 3 (biF (R 1) (k + 1))) Q b0 b1 nx kp Gr K t len) rfl ?_
              refine z_loc G [(0, .ref (e 0 0)), (1, .int (nI g)), (2, .int z), (3, .int (nI (k + 1)))] [0, 1, 2, 3] rfl ?_
              exact ihk (k + 1) (by omega) (by rw [hs, siX, if_neg (Int32.not_le.mpr c57)])
            · refine z_iload_n G dX5_seatedIn_60 3 rfl ?_
              exact hE _ _ _ _ dX5_seatedIn_61 rfl ⟨(by rw [hs, siX, if_pos (Int32.not_lt.mp c57)]), _, rfl⟩
        exact z_world (ws' := tsW y e A (upG R 3 (biF (R 1) (0))) Q b0 b1 nx kp Gr K t len) rfl (lo 301 0 rfl (by rw [stR, if_pos hB, nI_clamp (by omega), siR_X]))
      · refine z_iconst (v := (-1)) G dX5_seatedIn_26 rfl ?_
        exact hE _ _ _ _ dX5_seatedIn_27 rfl ⟨(by rw [stR, stB_3 (Int32.not_lt.mp c12) (Int32.not_lt.mp c23)]; rfl), R 3, (by rw [upG_self]; rfl)⟩
