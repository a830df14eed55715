theorem k_X3_changeSetting : zCal yX3_changeSetting wsX3_changeSetting cX3_changeSetting 4 (some .int) 2 := ⟨⟨_, rfl⟩, by decide +kernel⟩
theorem in_X3_changeSetting_X3 : ∀ w ∈ wsX30, w ∈ wsX3_changeSetting := fun _ h => List.mem_cons_of_mem _ (List.mem_append_right _ h)
set_option maxHeartbeats 4000000 in
set_option maxRecDepth 100000 in
theorem c_X3_changeSetting (l : Launch) (D : va_G) (y : Nat → ClassId) (ms : Nat) (a : Nat → Nat) (f rk0 : Nat → Int32) (x v : Int32) : zDiS l D y ms yX3_changeSetting wsX3_changeSetting ({ frames := 0, cells := 0, slots := 0, locals := 0 }) [.ref (a 0), .int (x), .int (v)] (rmW y a f rk0) ((seR f x v).1) (rmW y a (seR f x v).2 rk0) := by
  refine zMiS.mk (cc := cX3_changeSetting) (maxL := 4) (lv := [(0, .ref (a 0)), (1, .int (x)), (2, .int (v))]) (by decide) rfl (Nat.le_of_ble_eq_true rfl) rfl (fun X G hZ hE => ?_)
  have hin := in_X3_changeSetting_X3
  refine z_iload_n G dX3_changeSetting_0 1 rfl ?_
  refine z_if_lt G dX3_changeSetting_1 21 (by decide) (fun c1 => ?_) (fun c1 => ?_)
  · refine z_bipush (v := (-2)) G dX3_changeSetting_21 rfl ?_
    exact hE _ _ _ _ dX3_changeSetting_23 rfl (by rw [seR_f (seB_lo c1)]; exact ⟨rfl, rfl⟩)
  · refine z_iload_n G dX3_changeSetting_4 1 rfl ?_
    refine z_aload_n G dX3_changeSetting_5 0 rfl ?_
    refine rg_settings G hin (List.mem_of_getElem? (i := 1) rfl) dX3_changeSetting_6 ?_
    refine z_alen (v := nI 4) G 1 0 rfl rfl rfl dX3_changeSetting_9 ?_
    refine z_icmp_ge G dX3_changeSetting_10 21 (by decide) (fun c10 => ?_) (fun c10 => ?_)
    · refine z_bipush (v := (-2)) G dX3_changeSetting_21 rfl ?_
      exact hE _ _ _ _ dX3_changeSetting_23 rfl (by rw [seR_f (seB_hi c10)]; exact ⟨rfl, rfl⟩)
    · obtain ⟨j, hj, rfl⟩ := x_is (n := 4) (by decide) c1 c10
      refine z_iload_n G dX3_changeSetting_13 1 rfl ?_
      refine z_gets G hZ dX3_changeSetting_14 ?_
      refine z_tlen G hZ dX3_changeSetting_17 ?_
      refine z_icmp_ltT G dX3_changeSetting_18 24 (by decide) (nI_lt hj (by decide)) ?_
      refine z_iload_n G dX3_changeSetting_24 2 rfl ?_
      refine z_iconst (v := nI 1) G dX3_changeSetting_25 rfl ?_
      refine z_icmp_lt G dX3_changeSetting_26 38 (by decide) (fun c26 => ?_) (fun c26 => ?_)
      · refine z_bipush (v := (-2)) G dX3_changeSetting_38 rfl ?_
        exact hE _ _ _ _ dX3_changeSetting_40 rfl (by rw [seR_f ((seB_j hj).trans (inB_l c26))]; exact ⟨rfl, rfl⟩)
      · refine z_iload_n G dX3_changeSetting_29 2 rfl ?_
        refine z_gets G hZ dX3_changeSetting_30 ?_
        refine z_iload_n G dX3_changeSetting_33 1 rfl ?_
        refine z_tald G hZ (by omega) dX3_changeSetting_34 ?_
        refine z_icmp_le G dX3_changeSetting_35 41 (by decide) (fun c35 => ?_) (fun c35 => ?_)
        · refine z_aload_n G dX3_changeSetting_41 0 rfl ?_
          refine rg_settings G hin (List.mem_of_getElem? (i := 1) rfl) dX3_changeSetting_42 ?_
          refine z_iload_n G dX3_changeSetting_45 1 rfl ?_
          refine rl_settings G (by omega) dX3_changeSetting_46 ?_
          refine z_istore_nA G dX3_changeSetting_47 rfl (by decide) rfl ?_
          refine z_aload_n G dX3_changeSetting_48 0 rfl ?_
          refine rg_settings G hin (List.mem_of_getElem? (i := 1) rfl) dX3_changeSetting_49 ?_
          refine z_iload_n G dX3_changeSetting_52 1 rfl ?_
          refine z_iload_n G dX3_changeSetting_53 2 rfl ?_
          refine rs_settings G (by omega) dX3_changeSetting_54 ?_
          refine z_iload_n G dX3_changeSetting_55 3 rfl ?_
          exact hE _ _ _ _ dX3_changeSetting_56 rfl (by rw [seR_t hj ((seB_j hj).trans (inB_T (Int32.not_lt.mp c26) c35))]; exact ⟨rfl, rfl⟩)
        · refine z_bipush (v := (-2)) G dX3_changeSetting_38 rfl ?_
          exact hE _ _ _ _ dX3_changeSetting_40 rfl (by rw [seR_f ((seB_j hj).trans (inB_h (Int32.not_le.mp c35)))]; exact ⟨rfl, rfl⟩)
