theorem k_J6_bitCount_0f7a4 : zCal yJ6_bitCount_0f7a4 wsJ6_bitCount_0f7a4 cJ6_bitCount_0f7a4 1 (some .int) 1 := ⟨⟨_, rfl⟩, by decide +kernel⟩
set_option maxHeartbeats 4000000 in
set_option maxRecDepth 100000 in
theorem c_J6_bitCount_0f7a4 (l : Launch) (D : va_G) (y : Nat → ClassId) (x : Int32) : zDi l D y yJ6_bitCount_0f7a4 wsJ6_bitCount_0f7a4 ({ frames := 0, cells := 0, slots := 0, locals := 0 }) [.int (x)] ([]) (bitC x) ([]) := by
  refine zMi.mk (cc := cJ6_bitCount_0f7a4) (maxL := 1) (lv := [(0, .int (x))]) (by decide) rfl (Nat.le_of_ble_eq_true rfl) rfl (fun X G hE => ?_)
  refine z_iload_n G dJ6_bitCount_0f7a4_0 0 rfl ?_
  refine z_iload_n G dJ6_bitCount_0f7a4_1 0 rfl ?_
  refine z_iconst (v := nI 1) G dJ6_bitCount_0f7a4_2 rfl ?_
  refine z_iushr G _ dJ6_bitCount_0f7a4_3 rfl ?_
  refine z_ldcw G (List.mem_of_getElem? (i := 1) rfl) dJ6_bitCount_0f7a4_4 ?_
  refine z_iand G dJ6_bitCount_0f7a4_7 ?_
  refine z_isub G dJ6_bitCount_0f7a4_8 ?_
  refine z_istore_n G dJ6_bitCount_0f7a4_9 rfl (by decide) 0 rfl ?_
  refine z_iload_n G dJ6_bitCount_0f7a4_10 0 rfl ?_
  refine z_ldcw G (List.mem_of_getElem? (i := 2) rfl) dJ6_bitCount_0f7a4_11 ?_
  refine z_iand G dJ6_bitCount_0f7a4_14 ?_
  refine z_iload_n G dJ6_bitCount_0f7a4_15 0 rfl ?_
  refine z_iconst (v := nI 2) G dJ6_bitCount_0f7a4_16 rfl ?_
  refine z_iushr G _ dJ6_bitCount_0f7a4_17 rfl ?_
  refine z_ldcw G (List.mem_of_getElem? (i := 2) rfl) dJ6_bitCount_0f7a4_18 ?_
  refine z_iand G dJ6_bitCount_0f7a4_21 ?_
  refine z_iadd G dJ6_bitCount_0f7a4_22 ?_
  refine z_istore_n G dJ6_bitCount_0f7a4_23 rfl (by decide) 0 rfl ?_
  refine z_iload_n G dJ6_bitCount_0f7a4_24 0 rfl ?_
  refine z_iload_n G dJ6_bitCount_0f7a4_25 0 rfl ?_
  refine z_iconst (v := nI 4) G dJ6_bitCount_0f7a4_26 rfl ?_
  refine z_iushr G _ dJ6_bitCount_0f7a4_27 rfl ?_
  refine z_iadd G dJ6_bitCount_0f7a4_28 ?_
  refine z_ldcw G (List.mem_of_getElem? (i := 3) rfl) dJ6_bitCount_0f7a4_29 ?_
  refine z_iand G dJ6_bitCount_0f7a4_32 ?_
  refine z_istore_n G dJ6_bitCount_0f7a4_33 rfl (by decide) 0 rfl ?_
  refine z_iload_n G dJ6_bitCount_0f7a4_34 0 rfl ?_
  refine z_iload_n G dJ6_bitCount_0f7a4_35 0 rfl ?_
  refine z_bipush (v := nI 8) G dJ6_bitCount_0f7a4_36 rfl ?_
  refine z_iushr G _ dJ6_bitCount_0f7a4_38 rfl ?_
  refine z_iadd G dJ6_bitCount_0f7a4_39 ?_
  refine z_istore_n G dJ6_bitCount_0f7a4_40 rfl (by decide) 0 rfl ?_
  refine z_iload_n G dJ6_bitCount_0f7a4_41 0 rfl ?_
  refine z_iload_n G dJ6_bitCount_0f7a4_42 0 rfl ?_
  refine z_bipush (v := nI 16) G dJ6_bitCount_0f7a4_43 rfl ?_
  refine z_iushr G _ dJ6_bitCount_0f7a4_45 rfl ?_
  refine z_iadd G dJ6_bitCount_0f7a4_46 ?_
  refine z_istore_n G dJ6_bitCount_0f7a4_47 rfl (by decide) 0 rfl ?_
  refine z_iload_n G dJ6_bitCount_0f7a4_48 0 rfl ?_
  refine z_bipush (v := nI 63) G dJ6_bitCount_0f7a4_49 rfl ?_
  refine z_iand G dJ6_bitCount_0f7a4_51 ?_
  exact hE _ _ _ _ dJ6_bitCount_0f7a4_52 rfl ⟨rfl, rfl⟩

theorem c_X3_isHere_x : True := trivial
theorem k_X3_isHere : zCal yX3_isHere wsX3_isHere cX3_isHere 2 (some .boolean) 1 := ⟨⟨_, rfl⟩, by decide +kernel⟩
theorem in_X3_isHere_X3 : ∀ w ∈ wsX30, w ∈ wsX3_isHere := fun _ h => List.mem_cons_of_mem _ (List.mem_append_right _ h)
set_option maxHeartbeats 4000000 in
set_option maxRecDepth 100000 in
theorem c_X3_isHere (l : Launch) (D : va_G) (y : Nat → ClassId) (a : Nat → Nat) (f rk0 : Nat → Int32) (hp : PF f) (x : Int32) : zDi l D y yX3_isHere wsX3_isHere ({ frames := 0, cells := 0, slots := 0, locals := 0 }) [.ref (a 0), .int (x)] (rmW y a f rk0) (bI (hx f x)) (rmW y a f rk0) := by
  refine zMi.mk (cc := cX3_isHere) (maxL := 2) (lv := [(0, .ref (a 0)), (1, .int (x))]) (by decide) rfl (Nat.le_of_ble_eq_true rfl) rfl (fun X G hE => ?_)
  have hin := in_X3_isHere_X3
  refine z_iload_n G dX3_isHere_0 1 rfl ?_
  refine z_if_lt G dX3_isHere_1 23 (by decide) (fun c1 => ?_) (fun c1 => ?_)
  · refine z_iconst (v := nI 0) G dX3_isHere_23 rfl ?_
    exact hE _ _ _ _ dX3_isHere_24 rfl ⟨by first | exact bI_t ((hx_n hg).trans (pf_t hp hg c16)) | exact bI_f ((hx_n hg).trans (pf_f hp hg c16)) | exact bI_f (hx_hi c7) | exact bI_f (hx_lo c1), rfl⟩
  · refine z_iload_n G dX3_isHere_4 1 rfl ?_
    refine z_bipush (v := nI 9) G dX3_isHere_5 rfl ?_
    refine z_icmp_ge G dX3_isHere_7 23 (by decide) (fun c7 => ?_) (fun c7 => ?_)
    · refine z_iconst (v := nI 0) G dX3_isHere_23 rfl ?_
      exact hE _ _ _ _ dX3_isHere_24 rfl ⟨by first | exact bI_t ((hx_n hg).trans (pf_t hp hg c16)) | exact bI_f ((hx_n hg).trans (pf_f hp hg c16)) | exact bI_f (hx_hi c7) | exact bI_f (hx_lo c1), rfl⟩
    · obtain ⟨g, hg, rfl⟩ := x_is (by decide) c1 c7
      refine z_aload_n G dX3_isHere_10 0 rfl ?_
      refine rg_patience G hin (List.mem_of_getElem? (i := 1) rfl) dX3_isHere_11 ?_
      refine z_iload_n G dX3_isHere_14 1 rfl ?_
      refine rl_patience G (by omega) dX3_isHere_15 ?_
      refine z_if_le G dX3_isHere_16 23 (by decide) (fun c16 => ?_) (fun c16 => ?_)
      · refine z_iconst (v := nI 0) G dX3_isHere_23 rfl ?_
        exact hE _ _ _ _ dX3_isHere_24 rfl ⟨by first | exact bI_t ((hx_n hg).trans (pf_t hp hg c16)) | exact bI_f ((hx_n hg).trans (pf_f hp hg c16)) | exact bI_f (hx_hi c7) | exact bI_f (hx_lo c1), rfl⟩
      · refine z_iconst (v := nI 1) G dX3_isHere_19 rfl ?_
        refine z_goto (tgt := 24) G dX3_isHere_20 (by decide) ?_
        exact hE _ _ _ _ dX3_isHere_24 rfl ⟨by first | exact bI_t ((hx_n hg).trans (pf_t hp hg c16)) | exact bI_f ((hx_n hg).trans (pf_f hp hg c16)) | exact bI_f (hx_hi c7) | exact bI_f (hx_lo c1), rfl⟩

theorem c_X3_isHere_t (l : Launch) (D : va_G) (y : Nat → ClassId) (a : Nat → Nat) (f rk0 : Nat → Int32) (hp : PF f) {g : Nat} (hg : g < 9) (hs : gs f g = true) : zDi l D y yX3_isHere wsX3_isHere ({ frames := 0, cells := 0, slots := 0, locals := 0 }) [.ref (a 0), .int (nI g)] (rmW y a f rk0) (nI 1) (rmW y a f rk0) := by
  have h := c_X3_isHere l D y a f rk0 hp (nI g)
  rwa [hx_n hg, hs] at h
theorem c_X3_isHere_f (l : Launch) (D : va_G) (y : Nat → ClassId) (a : Nat → Nat) (f rk0 : Nat → Int32) (hp : PF f) (x : Int32) (hs : hx f x = false) : zDi l D y yX3_isHere wsX3_isHere ({ frames := 0, cells := 0, slots := 0, locals := 0 }) [.ref (a 0), .int x] (rmW y a f rk0) (nI 0) (rmW y a f rk0) := by
  have h := c_X3_isHere l D y a f rk0 hp x
  rwa [hs] at h

theorem k_X3_guestsAsSet : zCal yX3_guestsAsSet wsX3_guestsAsSet cX3_guestsAsSet 3 (some .int) 0 := ⟨⟨_, rfl⟩, by decide +kernel⟩
theorem in_X3_guestsAsSet_X3 : ∀ w ∈ wsX30, w ∈ wsX3_guestsAsSet := fun _ h => List.mem_cons_of_mem _ (List.mem_append_right _ h)
set_option maxHeartbeats 4000000 in
set_option maxRecDepth 100000 in
theorem c_X3_guestsAsSet (l : Launch) (D : va_G) (y : Nat → ClassId) (a : Nat → Nat) (f rk0 : Nat → Int32) (hp : PF f) : zDi l D y yX3_guestsAsSet wsX3_guestsAsSet ({ frames := 0, cells := 0, slots := 0, locals := 0 }) [.ref (a 0)] (rmW y a f rk0) (orI (gs f) 9) (rmW y a f rk0) := by
  refine zMi.mk (cc := cX3_guestsAsSet) (maxL := 3) (lv := [(0, .ref (a 0))]) (by decide) rfl (Nat.le_of_ble_eq_true rfl) rfl (fun X G hE => ?_)
  have hin := in_X3_guestsAsSet_X3
  refine z_iconst (v := nI 0) G dX3_guestsAsSet_0 rfl ?_
  refine z_istore_nA G dX3_guestsAsSet_1 rfl (by decide) rfl ?_
  refine z_iconst (v := nI 0) G dX3_guestsAsSet_2 rfl ?_
  refine z_istore_nA G dX3_guestsAsSet_3 rfl (by decide) rfl ?_
  have lo : ∀ nj j : Nat, nj + j = 9 → zV D X (rmW y a f rk0) 0 0 4 [(0, .ref (a 0)), (1, .int (orI (gs f) (j))), (2, .int (nI (j)))] [] := by
    intro nj
    induction nj with
    | zero =>
      intro j hj
      obtain rfl : j = 9 := by omega
      refine z_iload_n G dX3_guestsAsSet_4 2 rfl ?_
      refine z_bipush (v := nI 9) G dX3_guestsAsSet_5 rfl ?_
      refine z_icmp_geT G dX3_guestsAsSet_7 31 (by decide) (nI_le (Nat.le_refl _) (by decide)) ?_
      refine z_iload_n G dX3_guestsAsSet_31 1 rfl ?_
      exact hE _ _ _ _ dX3_guestsAsSet_32 rfl ⟨rfl, rfl⟩
    | succ nj ihj =>
      intro j hj
      have lj : j < 9 := by omega
      refine z_iload_n G dX3_guestsAsSet_4 2 rfl ?_
      refine z_bipush (v := nI 9) G dX3_guestsAsSet_5 rfl ?_
      refine z_icmp_geF G dX3_guestsAsSet_7 31 (by decide) (nI_ge lj (by decide)) ?_
      refine z_aload_n G dX3_guestsAsSet_10 0 rfl ?_
      refine rg_patience G hin (List.mem_of_getElem? (i := 1) rfl) dX3_guestsAsSet_11 ?_
      refine z_iload_n G dX3_guestsAsSet_14 2 rfl ?_
      refine rl_patience G (by omega) dX3_guestsAsSet_15 ?_
      refine z_if_le G dX3_guestsAsSet_16 25 (by decide) (fun c16 => ?_) (fun c16 => ?_)
      · refine z_iinc G dX3_guestsAsSet_25 2 rfl (nI (j + 1)) (nI_inc _) (by decide) rfl ?_
        refine z_goto (tgt := 4) G dX3_guestsAsSet_28 (by decide) ?_
        have e := orI_f (pf_f hp lj c16)
        rw [← e]
        exact ihj (j + 1) (by omega)
      · refine z_iload_n G dX3_guestsAsSet_19 1 rfl ?_
        refine z_iconst (v := nI 1) G dX3_guestsAsSet_20 rfl ?_
        refine z_iload_n G dX3_guestsAsSet_21 2 rfl ?_
        refine z_ishl G dX3_guestsAsSet_22 ?_
        refine z_ior G dX3_guestsAsSet_23 ?_
        refine z_top (w := .int (orI (gs f) (j + 1))) (congrArg Value.int (orI_t (pf_t hp lj c16))) ?_
        refine z_istore_n G dX3_guestsAsSet_24 rfl (by decide) 1 rfl ?_
        refine z_iinc G dX3_guestsAsSet_25 2 rfl (nI (j + 1)) (nI_inc _) (by decide) rfl ?_
        refine z_goto (tgt := 4) G dX3_guestsAsSet_28 (by decide) ?_
        exact ihj (j + 1) (by omega)
  exact lo 9 0 rfl

theorem k_X3_guests : zCal yX3_guests wsX3_guests cX3_guests 1 (some .int) 0 := ⟨⟨_, rfl⟩, by decide +kernel⟩
theorem in_X3_guests_X3 : ∀ w ∈ wsX30, w ∈ wsX3_guests := fun _ h => List.mem_cons_of_mem _ (List.mem_append_right _ h)
set_option maxHeartbeats 4000000 in
set_option maxRecDepth 100000 in
theorem c_X3_guests (l : Launch) (D : va_G) (y : Nat → ClassId) (a : Nat → Nat) (f rk0 : Nat → Int32) (hp : PF f) : zDi l D y yX3_guests wsX3_guests ({ frames := 1, cells := 0, slots := 0, locals := 22 }) [.ref (a 0)] (rmW y a f rk0) (nI (ng f)) (rmW y a f rk0) := by
  refine zMi.mk (cc := cX3_guests) (maxL := 1) (lv := [(0, .ref (a 0))]) (by decide) rfl (Nat.le_of_ble_eq_true rfl) rfl (fun X G hE => ?_)
  have hin := in_X3_guests_X3
  refine z_aload_n G dX3_guests_0 0 rfl ?_
  refine z_dVi (As := []) G _ _ (fun l => c_X3_guestsAsSet l D y a f rk0 hp) k_X3_guestsAsSet gX3_guests_X3_guestsAsSet 0 3 rfl rfl rfl dX3_guests_1 ⟨by decide, by decide⟩ ⟨rfl, rfl⟩ ⟨Nat.zero_le _, Nat.zero_le _⟩ rfl (Nat.le_of_ble_eq_true rfl) rfl ?_
  refine z_pSi (As := [_]) G _ _ _ (fun l => c_J6_bitCount_0f7a4 l D y _) k_J6_bitCount_0f7a4 gX3_guests_J6_bitCount_0f7a4 dX3_guests_4 ⟨by decide, by decide⟩ ⟨rfl, rfl⟩ ⟨Nat.zero_le _, Nat.zero_le _⟩ rfl (Nat.le_of_ble_eq_true rfl) rfl (List.Perm.refl _) (List.Perm.refl _) ?_
  exact hE _ _ _ _ dX3_guests_7 rfl ⟨(bitC_or (gs f)), rfl⟩

theorem k_X3_breaths : zCal yX3_breaths wsX3_breaths cX3_breaths 1 (some .int) 0 := ⟨⟨_, rfl⟩, by decide +kernel⟩
theorem in_X3_breaths_X3 : ∀ w ∈ wsX30, w ∈ wsX3_breaths := fun _ h => List.mem_cons_of_mem _ (List.mem_append_right _ h)
set_option maxHeartbeats 4000000 in
set_option maxRecDepth 100000 in
theorem c_X3_breaths (l : Launch) (D : va_G) (y : Nat → ClassId) (a : Nat → Nat) (f rk0 : Nat → Int32) : zDi l D y yX3_breaths wsX3_breaths ({ frames := 0, cells := 0, slots := 0, locals := 0 }) [.ref (a 0)] (rmW y a f rk0) (f 4) (rmW y a f rk0) := by
  refine zMi.mk (cc := cX3_breaths) (maxL := 1) (lv := [(0, .ref (a 0))]) (by decide) rfl (Nat.le_of_ble_eq_true rfl) rfl (fun X G hE => ?_)
  have hin := in_X3_breaths_X3
  refine z_aload_n G dX3_breaths_0 0 rfl ?_
  refine rg_breathsSoFar G hin (List.mem_of_getElem? (i := 1) rfl) dX3_breaths_1 ?_
  exact hE _ _ _ _ dX3_breaths_4 rfl ⟨rfl, rfl⟩

theorem k_X3_reasonToPassBy : zCal yX3_reasonToPassBy wsX3_reasonToPassBy cX3_reasonToPassBy 2 (some .int) 1 := ⟨⟨_, rfl⟩, by decide +kernel⟩
theorem in_X3_reasonToPassBy_X3 : ∀ w ∈ wsX30, w ∈ wsX3_reasonToPassBy := fun _ h => List.mem_cons_of_mem _ (List.mem_append_left _ (List.mem_append_right _ h))
set_option maxHeartbeats 4000000 in
set_option maxRecDepth 100000 in
theorem c_X3_reasonToPassBy (l : Launch) (D : va_G) (y : Nat → ClassId) (a : Nat → Nat) (f rk0 : Nat → Int32) {g : Nat} (hg : g < 9) : zDi l D y yX3_reasonToPassBy wsX3_reasonToPassBy ({ frames := 1, cells := 0, slots := 0, locals := 24 }) [.ref (a 0), .int (nI (g))] (rmW y a f rk0) (rsn f g) (rmW y a f rk0) := by
  refine zMi.mk (cc := cX3_reasonToPassBy) (maxL := 2) (lv := [(0, .ref (a 0)), (1, .int (nI (g)))]) (by decide) rfl (Nat.le_of_ble_eq_true rfl) rfl (fun X G hE => ?_)
  have hin := in_X3_reasonToPassBy_X3
  refine z_aload_n G dX3_reasonToPassBy_0 0 rfl ?_
  refine rg_cups G hin (List.mem_of_getElem? (i := 1) rfl) dX3_reasonToPassBy_1 ?_
  refine z_iload_n G dX3_reasonToPassBy_4 1 rfl ?_
  refine rl_cups G (by omega) dX3_reasonToPassBy_5 ?_
  refine z_aload_n G dX3_reasonToPassBy_6 0 rfl ?_
  refine rg_settings G hin (List.mem_of_getElem? (i := 2) rfl) dX3_reasonToPassBy_7 ?_
  refine z_iconst (v := nI 2) G dX3_reasonToPassBy_10 rfl ?_
  refine rl_settings G (by omega) dX3_reasonToPassBy_11 ?_
  refine z_icmp_lt G dX3_reasonToPassBy_12 17 (by decide) (fun c12 => ?_) (fun c12 => ?_)
  · refine z_aload_n G dX3_reasonToPassBy_17 0 rfl ?_
    refine rg_bows G hin (List.mem_of_getElem? (i := 3) rfl) dX3_reasonToPassBy_18 ?_
    refine z_iload_n G dX3_reasonToPassBy_21 1 rfl ?_
    refine z_pVi (As := [_]) G _ _ _ (fun l => c_X0_owedBy l D y a f hg) k_X0_owedBy gX3_reasonToPassBy_X0_owedBy 0 0 rfl rfl rfl dX3_reasonToPassBy_22 ⟨by decide, by decide⟩ ⟨rfl, rfl⟩ ⟨Nat.zero_le _, Nat.zero_le _⟩ rfl (Nat.le_of_ble_eq_true rfl) rfl (rm_perm _ _ _ _) (bw_perm rfl) ?_
    refine z_aload_n G dX3_reasonToPassBy_25 0 rfl ?_
    refine rg_settings G hin (List.mem_of_getElem? (i := 2) rfl) dX3_reasonToPassBy_26 ?_
    refine z_iconst (v := nI 1) G dX3_reasonToPassBy_29 rfl ?_
    refine rl_settings G (by omega) dX3_reasonToPassBy_30 ?_
    refine z_icmp_lt G dX3_reasonToPassBy_31 38 (by decide) (fun c31 => ?_) (fun c31 => ?_)
    · refine z_iconst (v := nI 0) G dX3_reasonToPassBy_38 rfl ?_
      exact hE _ _ _ _ dX3_reasonToPassBy_39 rfl ⟨(by rw [rsn, if_neg (Int32.not_le.mpr c12), if_neg (Int32.not_le.mpr c31)]), rfl⟩
    · refine z_iconst (v := nI 2) G dX3_reasonToPassBy_34 rfl ?_
      refine z_goto (tgt := 39) G dX3_reasonToPassBy_35 (by decide) ?_
      exact hE _ _ _ _ dX3_reasonToPassBy_39 rfl ⟨(by rw [rsn, if_neg (Int32.not_le.mpr c12), if_pos (Int32.not_lt.mp c31)]), rfl⟩
  · refine z_iconst (v := nI 1) G dX3_reasonToPassBy_15 rfl ?_
    exact hE _ _ _ _ dX3_reasonToPassBy_16 rfl ⟨(by rw [rsn, if_pos (Int32.not_lt.mp c12)]), rfl⟩

theorem k_X3_comesAhead : zCal yX3_comesAhead wsX3_comesAhead cX3_comesAhead 5 (some .boolean) 2 := ⟨⟨_, rfl⟩, by decide +kernel⟩
theorem in_X3_comesAhead_X3 : ∀ w ∈ wsX30, w ∈ wsX3_comesAhead := fun _ h => List.mem_cons_of_mem _ (List.mem_append_left _ (List.mem_append_right _ h))
set_option maxHeartbeats 4000000 in
set_option maxRecDepth 100000 in
theorem c_X3_comesAhead (l : Launch) (D : va_G) (y : Nat → ClassId) (a : Nat → Nat) (f rk0 : Nat → Int32) {g o : Nat} (hg : g < 9) (ho : o < 9) : zDi l D y yX3_comesAhead wsX3_comesAhead ({ frames := 1, cells := 0, slots := 0, locals := 24 }) [.ref (a 0), .int (nI (g)), .int (nI (o))] (rmW y a f rk0) (bI (ahd f g o)) (rmW y a f rk0) := by
  refine zMi.mk (cc := cX3_comesAhead) (maxL := 5) (lv := [(0, .ref (a 0)), (1, .int (nI (g))), (2, .int (nI (o)))]) (by decide) rfl (Nat.le_of_ble_eq_true rfl) rfl (fun X G hE => ?_)
  have hin := in_X3_comesAhead_X3
  refine z_aload_n G dX3_comesAhead_0 0 rfl ?_
  refine rg_silence G hin (List.mem_of_getElem? (i := 1) rfl) dX3_comesAhead_1 ?_
  refine z_iload_n G dX3_comesAhead_4 1 rfl ?_
  refine rl_silence G (by omega) dX3_comesAhead_5 ?_
  refine z_aload_n G dX3_comesAhead_6 0 rfl ?_
  refine rg_silence G hin (List.mem_of_getElem? (i := 1) rfl) dX3_comesAhead_7 ?_
  refine z_iload_n G dX3_comesAhead_10 2 rfl ?_
  refine rl_silence G (by omega) dX3_comesAhead_11 ?_
  refine z_icmp_eq G dX3_comesAhead_12 36 (by decide) (fun c12 => ?_) (fun c12 => ?_)
  · refine z_aload_n G dX3_comesAhead_36 0 rfl ?_
    refine rg_cups G hin (List.mem_of_getElem? (i := 2) rfl) dX3_comesAhead_37 ?_
    refine z_iload_n G dX3_comesAhead_40 1 rfl ?_
    refine rl_cups G (by omega) dX3_comesAhead_41 ?_
    refine z_aload_n G dX3_comesAhead_42 0 rfl ?_
    refine rg_cups G hin (List.mem_of_getElem? (i := 2) rfl) dX3_comesAhead_43 ?_
    refine z_iload_n G dX3_comesAhead_46 2 rfl ?_
    refine rl_cups G (by omega) dX3_comesAhead_47 ?_
    refine z_icmp_eq G dX3_comesAhead_48 72 (by decide) (fun c48 => ?_) (fun c48 => ?_)
    · refine z_aload_n G dX3_comesAhead_72 0 rfl ?_
      refine rg_bows G hin (List.mem_of_getElem? (i := 3) rfl) dX3_comesAhead_73 ?_
      refine z_iload_n G dX3_comesAhead_76 1 rfl ?_
      refine z_pVi (As := [_]) G _ _ _ (fun l => c_X0_owedBy l D y a f hg) k_X0_owedBy gX3_comesAhead_X0_owedBy 0 0 rfl rfl rfl dX3_comesAhead_77 ⟨by decide, by decide⟩ ⟨rfl, rfl⟩ ⟨Nat.zero_le _, Nat.zero_le _⟩ rfl (Nat.le_of_ble_eq_true rfl) rfl (rm_perm _ _ _ _) (bw_perm rfl) ?_
      refine z_istore_nA G dX3_comesAhead_80 rfl (by decide) rfl ?_
      refine z_aload_n G dX3_comesAhead_81 0 rfl ?_
      refine rg_bows G hin (List.mem_of_getElem? (i := 3) rfl) dX3_comesAhead_82 ?_
      refine z_iload_n G dX3_comesAhead_85 2 rfl ?_
      refine z_pVi (As := [_]) G _ _ _ (fun l => c_X0_owedBy l D y a f ho) k_X0_owedBy gX3_comesAhead_X0_owedBy 0 0 rfl rfl rfl dX3_comesAhead_86 ⟨by decide, by decide⟩ ⟨rfl, rfl⟩ ⟨Nat.zero_le _, Nat.zero_le _⟩ rfl (Nat.le_of_ble_eq_true rfl) rfl (rm_perm _ _ _ _) (bw_perm rfl) ?_
      refine z_istoreA G dX3_comesAhead_89 (by decide) rfl ?_
      refine z_iload_n G dX3_comesAhead_91 3 rfl ?_
      refine z_iload G dX3_comesAhead_92 4 rfl ?_
      refine z_icmp_eq G dX3_comesAhead_94 111 (by decide) (fun c94 => ?_) (fun c94 => ?_)
      · refine z_aload_n G dX3_comesAhead_111 0 rfl ?_
        refine rg_seats G hin (List.mem_of_getElem? (i := 4) rfl) dX3_comesAhead_112 ?_
        refine z_iload_n G dX3_comesAhead_115 1 rfl ?_
        refine rl_seats G (by omega) dX3_comesAhead_116 ?_
        refine z_aload_n G dX3_comesAhead_117 0 rfl ?_
        refine rg_seats G hin (List.mem_of_getElem? (i := 4) rfl) dX3_comesAhead_118 ?_
        refine z_iload_n G dX3_comesAhead_121 2 rfl ?_
        refine rl_seats G (by omega) dX3_comesAhead_122 ?_
        refine z_icmp_ge G dX3_comesAhead_123 130 (by decide) (fun c123 => ?_) (fun c123 => ?_)
        · refine z_iconst (v := nI 0) G dX3_comesAhead_130 rfl ?_
          exact hE _ _ _ _ dX3_comesAhead_131 rfl ⟨bI_f (by rw [ahd, if_pos c12, if_pos c48, if_pos c94]; exact decide_eq_false (Int32.not_lt.mpr c123)), rfl⟩
        · refine z_iconst (v := nI 1) G dX3_comesAhead_126 rfl ?_
          refine z_goto (tgt := 131) G dX3_comesAhead_127 (by decide) ?_
          exact hE _ _ _ _ dX3_comesAhead_131 rfl ⟨bI_t (by rw [ahd, if_pos c12, if_pos c48, if_pos c94]; exact decide_eq_true (Int32.not_le.mp c123)), rfl⟩
      · refine z_iload_n G dX3_comesAhead_97 3 rfl ?_
        refine z_iload G dX3_comesAhead_98 4 rfl ?_
        refine z_icmp_ge G dX3_comesAhead_100 107 (by decide) (fun c100 => ?_) (fun c100 => ?_)
        · refine z_iconst (v := nI 0) G dX3_comesAhead_107 rfl ?_
          refine z_goto (tgt := 131) G dX3_comesAhead_108 (by decide) ?_
          exact hE _ _ _ _ dX3_comesAhead_131 rfl ⟨bI_f (by rw [ahd, if_pos c12, if_pos c48, if_neg c94]; exact decide_eq_false (Int32.not_lt.mpr c100)), rfl⟩
        · refine z_iconst (v := nI 1) G dX3_comesAhead_103 rfl ?_
          refine z_goto (tgt := 131) G dX3_comesAhead_104 (by decide) ?_
          exact hE _ _ _ _ dX3_comesAhead_131 rfl ⟨bI_t (by rw [ahd, if_pos c12, if_pos c48, if_neg c94]; exact decide_eq_true (Int32.not_le.mp c100)), rfl⟩
    · refine z_aload_n G dX3_comesAhead_51 0 rfl ?_
      refine rg_cups G hin (List.mem_of_getElem? (i := 2) rfl) dX3_comesAhead_52 ?_
      refine z_iload_n G dX3_comesAhead_55 1 rfl ?_
      refine rl_cups G (by omega) dX3_comesAhead_56 ?_
      refine z_aload_n G dX3_comesAhead_57 0 rfl ?_
      refine rg_cups G hin (List.mem_of_getElem? (i := 2) rfl) dX3_comesAhead_58 ?_
      refine z_iload_n G dX3_comesAhead_61 2 rfl ?_
      refine rl_cups G (by omega) dX3_comesAhead_62 ?_
      refine z_icmp_ge G dX3_comesAhead_63 70 (by decide) (fun c63 => ?_) (fun c63 => ?_)
      · refine z_iconst (v := nI 0) G dX3_comesAhead_70 rfl ?_
        exact hE _ _ _ _ dX3_comesAhead_71 rfl ⟨bI_f (by rw [ahd, if_pos c12, if_neg c48]; exact decide_eq_false (Int32.not_lt.mpr c63)), rfl⟩
      · refine z_iconst (v := nI 1) G dX3_comesAhead_66 rfl ?_
        refine z_goto (tgt := 71) G dX3_comesAhead_67 (by decide) ?_
        exact hE _ _ _ _ dX3_comesAhead_71 rfl ⟨bI_t (by rw [ahd, if_pos c12, if_neg c48]; exact decide_eq_true (Int32.not_le.mp c63)), rfl⟩
  · refine z_aload_n G dX3_comesAhead_15 0 rfl ?_
    refine rg_silence G hin (List.mem_of_getElem? (i := 1) rfl) dX3_comesAhead_16 ?_
    refine z_iload_n G dX3_comesAhead_19 1 rfl ?_
    refine rl_silence G (by omega) dX3_comesAhead_20 ?_
    refine z_aload_n G dX3_comesAhead_21 0 rfl ?_
    refine rg_silence G hin (List.mem_of_getElem? (i := 1) rfl) dX3_comesAhead_22 ?_
    refine z_iload_n G dX3_comesAhead_25 2 rfl ?_
    refine rl_silence G (by omega) dX3_comesAhead_26 ?_
    refine z_icmp_le G dX3_comesAhead_27 34 (by decide) (fun c27 => ?_) (fun c27 => ?_)
    · refine z_iconst (v := nI 0) G dX3_comesAhead_34 rfl ?_
      exact hE _ _ _ _ dX3_comesAhead_35 rfl ⟨bI_f (by rw [ahd, if_neg c12]; exact decide_eq_false (Int32.not_lt.mpr c27)), rfl⟩
    · refine z_iconst (v := nI 1) G dX3_comesAhead_30 rfl ?_
      refine z_goto (tgt := 35) G dX3_comesAhead_31 (by decide) ?_
      exact hE _ _ _ _ dX3_comesAhead_35 rfl ⟨bI_t (by rw [ahd, if_neg c12]; exact decide_eq_true (Int32.not_le.mp c27)), rfl⟩

theorem k_X3_rankOf : zCal yX3_rankOf wsX3_rankOf cX3_rankOf 4 (some .int) 1 := ⟨⟨_, rfl⟩, by decide +kernel⟩
theorem in_X3_rankOf_X3 : ∀ w ∈ wsX30, w ∈ wsX3_rankOf := fun _ h => List.mem_cons_of_mem _ (List.mem_append_left _ (List.mem_append_right _ h))
set_option maxHeartbeats 4000000 in
set_option maxRecDepth 100000 in
theorem c_X3_rankOf (l : Launch) (D : va_G) (y : Nat → ClassId) (a : Nat → Nat) (f rk0 : Nat → Int32) (hp : PF f) {g : Nat} (hg : g < 9) : zDi l D y yX3_rankOf wsX3_rankOf ({ frames := 2, cells := 0, slots := 0, locals := 48 }) [.ref (a 0), .int (nI (g))] (rmW y a f rk0) (nI (rk f g)) (rmW y a f rk0) := by
  refine zMi.mk (cc := cX3_rankOf) (maxL := 4) (lv := [(0, .ref (a 0)), (1, .int (nI (g)))]) (by decide) rfl (Nat.le_of_ble_eq_true rfl) rfl (fun X G hE => ?_)
  have hin := in_X3_rankOf_X3
  refine z_iconst (v := nI 0) G dX3_rankOf_0 rfl ?_
  refine z_istore_nA G dX3_rankOf_1 rfl (by decide) rfl ?_
  refine z_iconst (v := nI 0) G dX3_rankOf_2 rfl ?_
  refine z_istore_nA G dX3_rankOf_3 rfl (by decide) rfl ?_
  have lo : ∀ nj j : Nat, nj + j = 9 → zV D X (rmW y a f rk0) 0 0 4 [(0, .ref (a 0)), (1, .int (nI (g))), (2, .int (nI (cnt (rkP f g) (j)))), (3, .int (nI (j)))] [] := by
    intro nj
    induction nj with
    | zero =>
      intro j hj
      obtain rfl : j = 9 := by omega
      refine z_iload_n G dX3_rankOf_4 3 rfl ?_
      refine z_bipush (v := nI 9) G dX3_rankOf_5 rfl ?_
      refine z_icmp_geT G dX3_rankOf_7 42 (by decide) (nI_le (Nat.le_refl _) (by decide)) ?_
      refine z_iload_n G dX3_rankOf_42 2 rfl ?_
      exact hE _ _ _ _ dX3_rankOf_43 rfl ⟨rfl, rfl⟩
    | succ nj ihj =>
      intro j hj
      have lj : j < 9 := by omega
      refine z_iload_n G dX3_rankOf_4 3 rfl ?_
      refine z_bipush (v := nI 9) G dX3_rankOf_5 rfl ?_
      refine z_icmp_geF G dX3_rankOf_7 42 (by decide) (nI_ge lj (by decide)) ?_
      refine z_iload_n G dX3_rankOf_10 3 rfl ?_
      refine z_iload_n G dX3_rankOf_11 1 rfl ?_
      refine z_icmp_eq G dX3_rankOf_12 36 (by decide) (fun c12 => ?_) (fun c12 => ?_)
      · refine z_iinc G dX3_rankOf_36 3 rfl (nI (j + 1)) (nI_inc _) (by decide) rfl ?_
        refine z_goto (tgt := 4) G dX3_rankOf_39 (by decide) ?_
        have e : cnt (rkP f g) (j + 1) = cnt (rkP f g) j := cnt_f (by rw [rkP, (nI_eq (by omega) (by omega)).mp c12]; simp)
        rw [← e]
        exact ihj (j + 1) (by omega)
      · refine z_aload_n G dX3_rankOf_15 0 rfl ?_
        refine rg_patience G hin (List.mem_of_getElem? (i := 1) rfl) dX3_rankOf_16 ?_
        refine z_iload_n G dX3_rankOf_19 3 rfl ?_
        refine rl_patience G (by omega) dX3_rankOf_20 ?_
        refine z_if_le G dX3_rankOf_21 36 (by decide) (fun c21 => ?_) (fun c21 => ?_)
        · refine z_iinc G dX3_rankOf_36 3 rfl (nI (j + 1)) (nI_inc _) (by decide) rfl ?_
          refine z_goto (tgt := 4) G dX3_rankOf_39 (by decide) ?_
          have e : cnt (rkP f g) (j + 1) = cnt (rkP f g) j := cnt_f (by rw [rkP, pf_f hp lj c21]; rfl)
          rw [← e]
          exact ihj (j + 1) (by omega)
        · refine z_aload_n G dX3_rankOf_24 0 rfl ?_
          refine z_iload_n G dX3_rankOf_25 3 rfl ?_
          refine z_iload_n G dX3_rankOf_26 1 rfl ?_
          refine z_dVi (As := [_, _]) G _ _ (fun l => c_X3_comesAhead l D y a f rk0 lj hg) k_X3_comesAhead gX3_rankOf_X3_comesAhead 0 3 rfl rfl rfl dX3_rankOf_27 ⟨by decide, by decide⟩ ⟨rfl, rfl⟩ ⟨Nat.zero_le _, Nat.zero_le _⟩ rfl (Nat.le_of_ble_eq_true rfl) rfl ?_
          refine z_if_eq G dX3_rankOf_30 36 (by decide) (fun c30 => ?_) (fun c30 => ?_)
          · refine z_iinc G dX3_rankOf_36 3 rfl (nI (j + 1)) (nI_inc _) (by decide) rfl ?_
            refine z_goto (tgt := 4) G dX3_rankOf_39 (by decide) ?_
            have e : cnt (rkP f g) (j + 1) = cnt (rkP f g) j := cnt_f (by rw [rkP, bI_0 c30]; simp)
            rw [← e]
            exact ihj (j + 1) (by omega)
          · refine z_iinc G dX3_rankOf_33 2 rfl (nI (cnt (rkP f g) (j + 1))) (cnt_tI (by rw [rkP, pf_t hp lj c21, bI_n c30]; simp only [Bool.true_and, Bool.and_true, decide_eq_true_eq]; exact fun e => c12 (by rw [e]))) (by decide) rfl ?_
            refine z_iinc G dX3_rankOf_36 3 rfl (nI (j + 1)) (nI_inc _) (by decide) rfl ?_
            refine z_goto (tgt := 4) G dX3_rankOf_39 (by decide) ?_
            exact ihj (j + 1) (by omega)
  exact lo 9 0 rfl

theorem k_X3_guestIn : zCal yX3_guestIn wsX3_guestIn cX3_guestIn 3 (some .int) 1 := ⟨⟨_, rfl⟩, by decide +kernel⟩
theorem in_X3_guestIn_X3 : ∀ w ∈ wsX30, w ∈ wsX3_guestIn := fun _ h => List.mem_cons_of_mem _ (List.mem_append_right _ h)
set_option maxHeartbeats 4000000 in
set_option maxRecDepth 100000 in
theorem c_X3_guestIn (l : Launch) (D : va_G) (y : Nat → ClassId) (a : Nat → Nat) (f rk0 : Nat → Int32) (hp : PF f) (hu : SU f) (x : Int32) : zDi l D y yX3_guestIn wsX3_guestIn ({ frames := 0, cells := 0, slots := 0, locals := 0 }) [.ref (a 0), .int (x)] (rmW y a f rk0) (lst (stP f x) 9) (rmW y a f rk0) := by
  refine zMi.mk (cc := cX3_guestIn) (maxL := 3) (lv := [(0, .ref (a 0)), (1, .int (x))]) (by decide) rfl (Nat.le_of_ble_eq_true rfl) rfl (fun X G hE => ?_)
  have hin := in_X3_guestIn_X3
  refine z_iconst (v := nI 0) G dX3_guestIn_0 rfl ?_
  refine z_istore_nA G dX3_guestIn_1 rfl (by decide) rfl ?_
  have lo : ∀ nj j : Nat, nj + j = 9 → (∀ i, i < j → stP f x i = false) → zV D X (rmW y a f rk0) 0 0 2 [(0, .ref (a 0)), (1, .int (x)), (2, .int (nI (j)))] [] := by
    intro nj
    induction nj with
    | zero =>
      intro j hj hn
      obtain rfl : j = 9 := by omega
      refine z_iload_n G dX3_guestIn_2 2 rfl ?_
      refine z_bipush (v := nI 9) G dX3_guestIn_3 rfl ?_
      refine z_icmp_geT G dX3_guestIn_5 35 (by decide) (nI_le (Nat.le_refl _) (by decide)) ?_
      refine z_iconst (v := (-1)) G dX3_guestIn_35 rfl ?_
      exact hE _ _ _ _ dX3_guestIn_36 rfl ⟨(lst_none 9 hn).symm, rfl⟩
    | succ nj ihj =>
      intro j hj hn
      have lj : j < 9 := by omega
      refine z_iload_n G dX3_guestIn_2 2 rfl ?_
      refine z_bipush (v := nI 9) G dX3_guestIn_3 rfl ?_
      refine z_icmp_geF G dX3_guestIn_5 35 (by decide) (nI_ge lj (by decide)) ?_
      refine z_aload_n G dX3_guestIn_8 0 rfl ?_
      refine rg_patience G hin (List.mem_of_getElem? (i := 1) rfl) dX3_guestIn_9 ?_
      refine z_iload_n G dX3_guestIn_12 2 rfl ?_
      refine rl_patience G (by omega) dX3_guestIn_13 ?_
      refine z_if_le G dX3_guestIn_14 29 (by decide) (fun c14 => ?_) (fun c14 => ?_)
      · refine z_iinc G dX3_guestIn_29 2 rfl (nI (j + 1)) (nI_inc _) (by decide) rfl ?_
        refine z_goto (tgt := 2) G dX3_guestIn_32 (by decide) ?_
        exact ihj (j + 1) (by omega) (fun i hi => (Nat.lt_succ_iff_lt_or_eq.mp hi).elim (hn i) (fun e => by rw [e]; exact by rw [stP, pf_f hp lj c14]; rfl))
      · refine z_aload_n G dX3_guestIn_17 0 rfl ?_
        refine rg_seats G hin (List.mem_of_getElem? (i := 2) rfl) dX3_guestIn_18 ?_
        refine z_iload_n G dX3_guestIn_21 2 rfl ?_
        refine rl_seats G (by omega) dX3_guestIn_22 ?_
        refine z_iload_n G dX3_guestIn_23 1 rfl ?_
        refine z_icmp_ne G dX3_guestIn_24 29 (by decide) (fun c24 => ?_) (fun c24 => ?_)
        · refine z_iinc G dX3_guestIn_29 2 rfl (nI (j + 1)) (nI_inc _) (by decide) rfl ?_
          refine z_goto (tgt := 2) G dX3_guestIn_32 (by decide) ?_
          exact ihj (j + 1) (by omega) (fun i hi => (Nat.lt_succ_iff_lt_or_eq.mp hi).elim (hn i) (fun e => by rw [e]; exact by rw [stP, decide_eq_false c24]; simp))
        · have hh : stP f x j = true := by rw [stP, pf_t hp lj c14, decide_eq_true c24]; rfl
          refine z_iload_n G dX3_guestIn_27 2 rfl ?_
          exact hE _ _ _ _ dX3_guestIn_28 rfl ⟨(lst_one hh 9 lj (fun i hi h => stP_u hu hi lj h hh)).symm, rfl⟩
  exact lo 9 0 rfl (fun i hi => absurd hi (Nat.not_lt_zero i))

theorem k_X3_guestRanked : zCal yX3_guestRanked wsX3_guestRanked cX3_guestRanked 3 (some .int) 1 := ⟨⟨_, rfl⟩, by decide +kernel⟩
theorem in_X3_guestRanked_X3 : ∀ w ∈ wsX30, w ∈ wsX3_guestRanked := fun _ h => List.mem_cons_of_mem _ (List.mem_append_left _ (List.mem_append_right _ h))
set_option maxHeartbeats 4000000 in
set_option maxRecDepth 100000 in
theorem c_X3_guestRanked (l : Launch) (D : va_G) (y : Nat → ClassId) (a : Nat → Nat) (f rk0 : Nat → Int32) (hp : PF f) (hu : RU f) (x : Int32) : zDi l D y yX3_guestRanked wsX3_guestRanked ({ frames := 3, cells := 0, slots := 0, locals := 71 }) [.ref (a 0), .int (x)] (rmW y a f rk0) (lst (rnP f x) 9) (rmW y a f rk0) := by
  refine zMi.mk (cc := cX3_guestRanked) (maxL := 3) (lv := [(0, .ref (a 0)), (1, .int (x))]) (by decide) rfl (Nat.le_of_ble_eq_true rfl) rfl (fun X G hE => ?_)
  have hin := in_X3_guestRanked_X3
  refine z_iconst (v := nI 0) G dX3_guestRanked_0 rfl ?_
  refine z_istore_nA G dX3_guestRanked_1 rfl (by decide) rfl ?_
  have lo : ∀ nj j : Nat, nj + j = 9 → (∀ i, i < j → rnP f x i = false) → zV D X (rmW y a f rk0) 0 0 2 [(0, .ref (a 0)), (1, .int (x)), (2, .int (nI (j)))] [] := by
    intro nj
    induction nj with
    | zero =>
      intro j hj hn
      obtain rfl : j = 9 := by omega
      refine z_iload_n G dX3_guestRanked_2 2 rfl ?_
      refine z_bipush (v := nI 9) G dX3_guestRanked_3 rfl ?_
      refine z_icmp_geT G dX3_guestRanked_5 34 (by decide) (nI_le (Nat.le_refl _) (by decide)) ?_
      refine z_iconst (v := (-1)) G dX3_guestRanked_34 rfl ?_
      exact hE _ _ _ _ dX3_guestRanked_35 rfl ⟨(lst_none 9 hn).symm, rfl⟩
    | succ nj ihj =>
      intro j hj hn
      have lj : j < 9 := by omega
      refine z_iload_n G dX3_guestRanked_2 2 rfl ?_
      refine z_bipush (v := nI 9) G dX3_guestRanked_3 rfl ?_
      refine z_icmp_geF G dX3_guestRanked_5 34 (by decide) (nI_ge lj (by decide)) ?_
      refine z_aload_n G dX3_guestRanked_8 0 rfl ?_
      refine rg_patience G hin (List.mem_of_getElem? (i := 1) rfl) dX3_guestRanked_9 ?_
      refine z_iload_n G dX3_guestRanked_12 2 rfl ?_
      refine rl_patience G (by omega) dX3_guestRanked_13 ?_
      refine z_if_le G dX3_guestRanked_14 28 (by decide) (fun c14 => ?_) (fun c14 => ?_)
      · refine z_iinc G dX3_guestRanked_28 2 rfl (nI (j + 1)) (nI_inc _) (by decide) rfl ?_
        refine z_goto (tgt := 2) G dX3_guestRanked_31 (by decide) ?_
        exact ihj (j + 1) (by omega) (fun i hi => (Nat.lt_succ_iff_lt_or_eq.mp hi).elim (hn i) (fun e => by rw [e]; exact by rw [rnP, pf_f hp lj c14]; rfl))
      · refine z_aload_n G dX3_guestRanked_17 0 rfl ?_
        refine z_iload_n G dX3_guestRanked_18 2 rfl ?_
        refine z_dVi (As := [_]) G _ _ (fun l => c_X3_rankOf l D y a f rk0 hp lj) k_X3_rankOf gX3_guestRanked_X3_rankOf 0 3 rfl rfl rfl dX3_guestRanked_19 ⟨by decide, by decide⟩ ⟨rfl, rfl⟩ ⟨Nat.zero_le _, Nat.zero_le _⟩ rfl (Nat.le_of_ble_eq_true rfl) rfl ?_
        refine z_iload_n G dX3_guestRanked_22 1 rfl ?_
        refine z_icmp_ne G dX3_guestRanked_23 28 (by decide) (fun c23 => ?_) (fun c23 => ?_)
        · refine z_iinc G dX3_guestRanked_28 2 rfl (nI (j + 1)) (nI_inc _) (by decide) rfl ?_
          refine z_goto (tgt := 2) G dX3_guestRanked_31 (by decide) ?_
          exact ihj (j + 1) (by omega) (fun i hi => (Nat.lt_succ_iff_lt_or_eq.mp hi).elim (hn i) (fun e => by rw [e]; exact by rw [rnP, decide_eq_false c23]; simp))
        · have hh : rnP f x j = true := by rw [rnP, pf_t hp lj c14, decide_eq_true c23]; rfl
          refine z_iload_n G dX3_guestRanked_26 2 rfl ?_
          exact hE _ _ _ _ dX3_guestRanked_27 rfl ⟨(lst_one hh 9 lj (fun i hi h => rnP_u hu hi lj h hh)).symm, rfl⟩
  exact lo 9 0 rfl (fun i hi => absurd hi (Nat.not_lt_zero i))

theorem k_X3_silentFor : zCal yX3_silentFor wsX3_silentFor cX3_silentFor 4 (some .int) 1 := ⟨⟨_, rfl⟩, by decide +kernel⟩
theorem in_X3_silentFor_X3 : ∀ w ∈ wsX30, w ∈ wsX3_silentFor := fun _ h => List.mem_cons_of_mem _ (List.mem_append_right _ h)
set_option maxHeartbeats 4000000 in
set_option maxRecDepth 100000 in
theorem c_X3_silentFor (l : Launch) (D : va_G) (y : Nat → ClassId) (a : Nat → Nat) (f rk0 : Nat → Int32) (hp : PF f) (x : Int32) : zDi l D y yX3_silentFor wsX3_silentFor ({ frames := 0, cells := 0, slots := 0, locals := 0 }) [.ref (a 0), .int (x)] (rmW y a f rk0) (nI (cnt (slP f x) 9)) (rmW y a f rk0) := by
  refine zMi.mk (cc := cX3_silentFor) (maxL := 4) (lv := [(0, .ref (a 0)), (1, .int (x))]) (by decide) rfl (Nat.le_of_ble_eq_true rfl) rfl (fun X G hE => ?_)
  have hin := in_X3_silentFor_X3
  refine z_iconst (v := nI 0) G dX3_silentFor_0 rfl ?_
  refine z_istore_nA G dX3_silentFor_1 rfl (by decide) rfl ?_
  refine z_iconst (v := nI 0) G dX3_silentFor_2 rfl ?_
  refine z_istore_nA G dX3_silentFor_3 rfl (by decide) rfl ?_
  have lo : ∀ nj j : Nat, nj + j = 9 → zV D X (rmW y a f rk0) 0 0 4 [(0, .ref (a 0)), (1, .int (x)), (2, .int (nI (cnt (slP f x) (j)))), (3, .int (nI (j)))] [] := by
    intro nj
    induction nj with
    | zero =>
      intro j hj
      obtain rfl : j = 9 := by omega
      refine z_iload_n G dX3_silentFor_4 3 rfl ?_
      refine z_bipush (v := nI 9) G dX3_silentFor_5 rfl ?_
      refine z_icmp_geT G dX3_silentFor_7 38 (by decide) (nI_le (Nat.le_refl _) (by decide)) ?_
      refine z_iload_n G dX3_silentFor_38 2 rfl ?_
      exact hE _ _ _ _ dX3_silentFor_39 rfl ⟨rfl, rfl⟩
    | succ nj ihj =>
      intro j hj
      have lj : j < 9 := by omega
      refine z_iload_n G dX3_silentFor_4 3 rfl ?_
      refine z_bipush (v := nI 9) G dX3_silentFor_5 rfl ?_
      refine z_icmp_geF G dX3_silentFor_7 38 (by decide) (nI_ge lj (by decide)) ?_
      refine z_aload_n G dX3_silentFor_10 0 rfl ?_
      refine rg_patience G hin (List.mem_of_getElem? (i := 1) rfl) dX3_silentFor_11 ?_
      refine z_iload_n G dX3_silentFor_14 3 rfl ?_
      refine rl_patience G (by omega) dX3_silentFor_15 ?_
      refine z_if_le G dX3_silentFor_16 32 (by decide) (fun c16 => ?_) (fun c16 => ?_)
      · refine z_iinc G dX3_silentFor_32 3 rfl (nI (j + 1)) (nI_inc _) (by decide) rfl ?_
        refine z_goto (tgt := 4) G dX3_silentFor_35 (by decide) ?_
        have e : cnt (slP f x) (j + 1) = cnt (slP f x) j := cnt_f (by rw [slP, pf_f hp lj c16]; rfl)
        rw [← e]
        exact ihj (j + 1) (by omega)
      · refine z_aload_n G dX3_silentFor_19 0 rfl ?_
        refine rg_silence G hin (List.mem_of_getElem? (i := 2) rfl) dX3_silentFor_20 ?_
        refine z_iload_n G dX3_silentFor_23 3 rfl ?_
        refine rl_silence G (by omega) dX3_silentFor_24 ?_
        refine z_iload_n G dX3_silentFor_25 1 rfl ?_
        refine z_icmp_lt G dX3_silentFor_26 32 (by decide) (fun c26 => ?_) (fun c26 => ?_)
        · refine z_iinc G dX3_silentFor_32 3 rfl (nI (j + 1)) (nI_inc _) (by decide) rfl ?_
          refine z_goto (tgt := 4) G dX3_silentFor_35 (by decide) ?_
          have e : cnt (slP f x) (j + 1) = cnt (slP f x) j := cnt_f (by rw [slP, decide_eq_false (Int32.not_le.mpr c26)]; simp)
          rw [← e]
          exact ihj (j + 1) (by omega)
        · refine z_iinc G dX3_silentFor_29 2 rfl (nI (cnt (slP f x) (j + 1))) (cnt_tI (by rw [slP, pf_t hp lj c16, decide_eq_true (Int32.not_lt.mp c26)]; rfl)) (by decide) rfl ?_
          refine z_iinc G dX3_silentFor_32 3 rfl (nI (j + 1)) (nI_inc _) (by decide) rfl ?_
          refine z_goto (tgt := 4) G dX3_silentFor_35 (by decide) ?_
          exact ihj (j + 1) (by omega)
  exact lo 9 0 rfl

theorem k_X3_errorOfPair : zCal yX3_errorOfPair wsX3_errorOfPair cX3_errorOfPair 3 (some .int) 2 := ⟨⟨_, rfl⟩, by decide +kernel⟩
theorem in_X3_errorOfPair_X3 : ∀ w ∈ wsX30, w ∈ wsX3_errorOfPair := fun _ h => List.mem_cons_of_mem _ (List.mem_append_right _ h)
set_option maxHeartbeats 4000000 in
set_option maxRecDepth 100000 in
theorem c_X3_errorOfPair (l : Launch) (D : va_G) (y : Nat → ClassId) (a : Nat → Nat) (f rk0 : Nat → Int32) (hp : PF f) (x z : Int32) : zDi l D y yX3_errorOfPair wsX3_errorOfPair ({ frames := 1, cells := 0, slots := 0, locals := 21 }) [.ref (a 0), .int (x), .int (z)] (rmW y a f rk0) (pairE f x z) (rmW y a f rk0) := by
  refine zMi.mk (cc := cX3_errorOfPair) (maxL := 3) (lv := [(0, .ref (a 0)), (1, .int (x)), (2, .int (z))]) (by decide) rfl (Nat.le_of_ble_eq_true rfl) rfl (fun X G hE => ?_)
  have hin := in_X3_errorOfPair_X3
  refine z_aload_n G dX3_errorOfPair_0 0 rfl ?_
  refine z_iload_n G dX3_errorOfPair_1 1 rfl ?_
  refine z_dVi (As := [_]) G _ _ (fun l => c_X3_isHere l D y a f rk0 hp x) k_X3_isHere gX3_errorOfPair_X3_isHere 0 3 rfl rfl rfl dX3_errorOfPair_2 ⟨by decide, by decide⟩ ⟨rfl, rfl⟩ ⟨Nat.zero_le _, Nat.zero_le _⟩ rfl (Nat.le_of_ble_eq_true rfl) rfl ?_
  refine z_if_eq G dX3_errorOfPair_5 16 (by decide) (fun c5 => ?_) (fun c5 => ?_)
  · have n1 := bI_0 c5
    refine z_iconst (v := (-1)) G dX3_errorOfPair_16 rfl ?_
    exact hE _ _ _ _ dX3_errorOfPair_17 rfl ⟨by first | (rw [pairE, if_neg (fun q => by rw [n1] at q; cases q.1)]) | (rw [pairE, if_neg (fun q => by rw [bI_0 c13] at q; cases q.2)]), rfl⟩
  · refine z_aload_n G dX3_errorOfPair_8 0 rfl ?_
    refine z_iload_n G dX3_errorOfPair_9 2 rfl ?_
    refine z_dVi (As := [_]) G _ _ (fun l => c_X3_isHere l D y a f rk0 hp z) k_X3_isHere gX3_errorOfPair_X3_isHere 0 3 rfl rfl rfl dX3_errorOfPair_10 ⟨by decide, by decide⟩ ⟨rfl, rfl⟩ ⟨Nat.zero_le _, Nat.zero_le _⟩ rfl (Nat.le_of_ble_eq_true rfl) rfl ?_
    refine z_if_ne G dX3_errorOfPair_13 18 (by decide) (fun c13 => ?_) (fun c13 => ?_)
    · refine z_iload_n G dX3_errorOfPair_18 1 rfl ?_
      refine z_iload_n G dX3_errorOfPair_19 2 rfl ?_
      refine z_icmp_ne G dX3_errorOfPair_20 28 (by decide) (fun c20 => ?_) (fun c20 => ?_)
      · refine z_iconst (v := nI 0) G dX3_errorOfPair_28 rfl ?_
        exact hE _ _ _ _ dX3_errorOfPair_29 rfl ⟨by first | rw [pairE, if_pos ⟨bI_n c5, bI_n c13⟩, if_pos c20] | rw [pairE, if_pos ⟨bI_n c5, bI_n c13⟩, if_neg c20], rfl⟩
      · refine z_bipush (v := (-2)) G dX3_errorOfPair_23 rfl ?_
        refine z_goto (tgt := 29) G dX3_errorOfPair_25 (by decide) ?_
        exact hE _ _ _ _ dX3_errorOfPair_29 rfl ⟨by first | rw [pairE, if_pos ⟨bI_n c5, bI_n c13⟩, if_pos c20] | rw [pairE, if_pos ⟨bI_n c5, bI_n c13⟩, if_neg c20], rfl⟩
    · refine z_iconst (v := (-1)) G dX3_errorOfPair_16 rfl ?_
      exact hE _ _ _ _ dX3_errorOfPair_17 rfl ⟨by first | (rw [pairE, if_neg (fun q => by rw [n1] at q; cases q.1)]) | (rw [pairE, if_neg (fun q => by rw [bI_0 c13] at q; cases q.2)]), rfl⟩

theorem k_X3_owedTo : zCal yX3_owedTo wsX3_owedTo cX3_owedTo 4 (some .int) 2 := ⟨⟨_, rfl⟩, by decide +kernel⟩
theorem in_X3_owedTo_X3 : ∀ w ∈ wsX30, w ∈ wsX3_owedTo := fun _ h => List.mem_cons_of_mem _ (List.mem_append_left _ (List.mem_append_right _ h))
set_option maxHeartbeats 4000000 in
set_option maxRecDepth 100000 in
theorem c_X3_owedTo (l : Launch) (D : va_G) (y : Nat → ClassId) (a : Nat → Nat) (f rk0 : Nat → Int32) (hp : PF f) (x z : Int32) : zDi l D y yX3_owedTo wsX3_owedTo ({ frames := 2, cells := 0, slots := 0, locals := 43 }) [.ref (a 0), .int (x), .int (z)] (rmW y a f rk0) (if pairE f x z < 0 then pairE f x z else f (21 + 17 * x.toNatClampNeg + z.toNatClampNeg)) (rmW y a f rk0) := by
  refine zMi.mk (cc := cX3_owedTo) (maxL := 4) (lv := [(0, .ref (a 0)), (1, .int (x)), (2, .int (z))]) (by decide) rfl (Nat.le_of_ble_eq_true rfl) rfl (fun X G hE => ?_)
  have hin := in_X3_owedTo_X3
  refine z_aload_n G dX3_owedTo_0 0 rfl ?_
  refine z_iload_n G dX3_owedTo_1 1 rfl ?_
  refine z_iload_n G dX3_owedTo_2 2 rfl ?_
  refine z_dVi (As := [_, _]) G _ _ (fun l => c_X3_errorOfPair l D y a f rk0 hp x z) k_X3_errorOfPair gX3_owedTo_X3_errorOfPair 0 3 rfl rfl rfl dX3_owedTo_3 ⟨by decide, by decide⟩ ⟨rfl, rfl⟩ ⟨Nat.zero_le _, Nat.zero_le _⟩ rfl (Nat.le_of_ble_eq_true rfl) rfl ?_
  refine z_istore_nA G dX3_owedTo_6 rfl (by decide) rfl ?_
  refine z_iload_n G dX3_owedTo_7 3 rfl ?_
  refine z_if_ge G dX3_owedTo_8 15 (by decide) (fun c8 => ?_) (fun c8 => ?_)
  · obtain ⟨g, o, hg, ho, hgo, rfl, rfl, sg, so⟩ := pairE_ok c8
    refine z_aload_n G dX3_owedTo_15 0 rfl ?_
    refine rg_bows G hin (List.mem_of_getElem? (i := 1) rfl) dX3_owedTo_16 ?_
    refine z_iload_n G dX3_owedTo_19 1 rfl ?_
    refine z_iload_n G dX3_owedTo_20 2 rfl ?_
    refine z_pVi (As := [_, _]) G _ _ _ (fun l => c_X0_between l D y a f hg ho) k_X0_between gX3_owedTo_X0_between 0 0 rfl rfl rfl dX3_owedTo_21 ⟨by decide, by decide⟩ ⟨rfl, rfl⟩ ⟨Nat.zero_le _, Nat.zero_le _⟩ rfl (Nat.le_of_ble_eq_true rfl) rfl (rm_perm _ _ _ _) (bw_perm rfl) ?_
    exact hE _ _ _ _ dX3_owedTo_24 rfl ⟨by first | rw [if_pos (Int32.not_le.mp c8)] | (rw [if_neg (Int32.not_lt.mpr c8), nI_clamp (by omega), nI_clamp (by omega)]), rfl⟩
  · refine z_iload_n G dX3_owedTo_11 3 rfl ?_
    refine z_goto (tgt := 24) G dX3_owedTo_12 (by decide) ?_
    exact hE _ _ _ _ dX3_owedTo_24 rfl ⟨by first | rw [if_pos (Int32.not_le.mp c8)] | (rw [if_neg (Int32.not_lt.mpr c8), nI_clamp (by omega), nI_clamp (by omega)]), rfl⟩

theorem k_X3_passedByAsSet : zCal yX3_passedByAsSet wsX3_passedByAsSet cX3_passedByAsSet 3 (some .int) 0 := ⟨⟨_, rfl⟩, by decide +kernel⟩
theorem in_X3_passedByAsSet_X3 : ∀ w ∈ wsX30, w ∈ wsX3_passedByAsSet := fun _ h => List.mem_cons_of_mem _ (List.mem_append_left _ (List.mem_append_right _ h))
set_option maxHeartbeats 4000000 in
set_option maxRecDepth 100000 in
theorem c_X3_passedByAsSet (l : Launch) (D : va_G) (y : Nat → ClassId) (a : Nat → Nat) (f rk0 : Nat → Int32) (hp : PF f) : zDi l D y yX3_passedByAsSet wsX3_passedByAsSet ({ frames := 2, cells := 0, slots := 0, locals := 45 }) [.ref (a 0)] (rmW y a f rk0) (orI (psP f) 9) (rmW y a f rk0) := by
  refine zMi.mk (cc := cX3_passedByAsSet) (maxL := 3) (lv := [(0, .ref (a 0))]) (by decide) rfl (Nat.le_of_ble_eq_true rfl) rfl (fun X G hE => ?_)
  have hin := in_X3_passedByAsSet_X3
  refine z_iconst (v := nI 0) G dX3_passedByAsSet_0 rfl ?_
  refine z_istore_nA G dX3_passedByAsSet_1 rfl (by decide) rfl ?_
  refine z_iconst (v := nI 0) G dX3_passedByAsSet_2 rfl ?_
  refine z_istore_nA G dX3_passedByAsSet_3 rfl (by decide) rfl ?_
  have lo : ∀ nj j : Nat, nj + j = 9 → zV D X (rmW y a f rk0) 0 0 4 [(0, .ref (a 0)), (1, .int (orI (psP f) (j))), (2, .int (nI (j)))] [] := by
    intro nj
    induction nj with
    | zero =>
      intro j hj
      obtain rfl : j = 9 := by omega
      refine z_iload_n G dX3_passedByAsSet_4 2 rfl ?_
      refine z_bipush (v := nI 9) G dX3_passedByAsSet_5 rfl ?_
      refine z_icmp_geT G dX3_passedByAsSet_7 39 (by decide) (nI_le (Nat.le_refl _) (by decide)) ?_
      refine z_iload_n G dX3_passedByAsSet_39 1 rfl ?_
      exact hE _ _ _ _ dX3_passedByAsSet_40 rfl ⟨rfl, rfl⟩
    | succ nj ihj =>
      intro j hj
      have lj : j < 9 := by omega
      refine z_iload_n G dX3_passedByAsSet_4 2 rfl ?_
      refine z_bipush (v := nI 9) G dX3_passedByAsSet_5 rfl ?_
      refine z_icmp_geF G dX3_passedByAsSet_7 39 (by decide) (nI_ge lj (by decide)) ?_
      refine z_aload_n G dX3_passedByAsSet_10 0 rfl ?_
      refine rg_patience G hin (List.mem_of_getElem? (i := 1) rfl) dX3_passedByAsSet_11 ?_
      refine z_iload_n G dX3_passedByAsSet_14 2 rfl ?_
      refine rl_patience G (by omega) dX3_passedByAsSet_15 ?_
      refine z_if_le G dX3_passedByAsSet_16 33 (by decide) (fun c16 => ?_) (fun c16 => ?_)
      · refine z_iinc G dX3_passedByAsSet_33 2 rfl (nI (j + 1)) (nI_inc _) (by decide) rfl ?_
        refine z_goto (tgt := 4) G dX3_passedByAsSet_36 (by decide) ?_
        have e : orI (psP f) (j + 1) = orI (psP f) j := orI_f (by rw [psP, pf_f hp lj c16]; rfl)
        rw [← e]
        exact ihj (j + 1) (by omega)
      · refine z_aload_n G dX3_passedByAsSet_19 0 rfl ?_
        refine z_iload_n G dX3_passedByAsSet_20 2 rfl ?_
        refine z_dVi (As := [_]) G _ _ (fun l => c_X3_reasonToPassBy l D y a f rk0 lj) k_X3_reasonToPassBy gX3_passedByAsSet_X3_reasonToPassBy 0 3 rfl rfl rfl dX3_passedByAsSet_21 ⟨by decide, by decide⟩ ⟨rfl, rfl⟩ ⟨Nat.zero_le _, Nat.zero_le _⟩ rfl (Nat.le_of_ble_eq_true rfl) rfl ?_
        refine z_if_eq G dX3_passedByAsSet_24 33 (by decide) (fun c24 => ?_) (fun c24 => ?_)
        · refine z_iinc G dX3_passedByAsSet_33 2 rfl (nI (j + 1)) (nI_inc _) (by decide) rfl ?_
          refine z_goto (tgt := 4) G dX3_passedByAsSet_36 (by decide) ?_
          have e : orI (psP f) (j + 1) = orI (psP f) j := orI_f (by rw [psP, decide_eq_false (fun q => q c24)]; simp)
          rw [← e]
          exact ihj (j + 1) (by omega)
        · refine z_iload_n G dX3_passedByAsSet_27 1 rfl ?_
          refine z_iconst (v := nI 1) G dX3_passedByAsSet_28 rfl ?_
          refine z_iload_n G dX3_passedByAsSet_29 2 rfl ?_
          refine z_ishl G dX3_passedByAsSet_30 ?_
          refine z_ior G dX3_passedByAsSet_31 ?_
          refine z_top (w := .int (orI (psP f) (j + 1))) (congrArg Value.int (orI_t (by rw [psP, pf_t hp lj c16, decide_eq_true c24]; rfl))) ?_
          refine z_istore_n G dX3_passedByAsSet_32 rfl (by decide) 1 rfl ?_
          refine z_iinc G dX3_passedByAsSet_33 2 rfl (nI (j + 1)) (nI_inc _) (by decide) rfl ?_
          refine z_goto (tgt := 4) G dX3_passedByAsSet_36 (by decide) ?_
          exact ihj (j + 1) (by omega)
  exact lo 9 0 rfl
