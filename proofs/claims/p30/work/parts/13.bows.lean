theorem k_X0_between : zCal yX0_between wsX0_between cX0_between 3 (some .int) 2 := ⟨⟨_, rfl⟩, by decide +kernel⟩
theorem in_X0_between_X0 : ∀ w ∈ wsX00, w ∈ wsX0_between := fun _ h => List.mem_cons_of_mem _ (List.mem_append_right _ h)
set_option maxHeartbeats 4000000 in
set_option maxRecDepth 100000 in
theorem c_X0_between (l : Launch) (D : va_G) (y : Nat → ClassId) (a : Nat → Nat) (f : Nat → Int32) {g o : Nat} (hg : g < 9) (ho : o < 9) : zDi l D y yX0_between wsX0_between ({ frames := 0, cells := 0, slots := 0, locals := 0 }) [.ref (a 9), .int (nI (g)), .int (nI (o))] (bwW y a f) (f (21 + 17 * g + o)) (bwW y a f) := by
  refine zMi.mk (cc := cX0_between) (maxL := 3) (lv := [(0, .ref (a 9)), (1, .int (nI (g))), (2, .int (nI (o)))]) (by decide) rfl (Nat.le_of_ble_eq_true rfl) rfl (fun X G hE => ?_)
  have hin := in_X0_between_X0
  refine z_aload_n G dX0_between_0 0 rfl ?_
  refine bg_owed G hin (List.mem_of_getElem? (i := 1) rfl) dX0_between_1 ?_
  refine z_iload_n G dX0_between_4 1 rfl ?_
  refine z_bipush (v := nI 9) G dX0_between_5 rfl ?_
  refine z_imulN G dX0_between_7 (9 * g) (by omega) ?_
  refine z_iload_n G dX0_between_8 2 rfl ?_
  refine z_iaddN G dX0_between_9 (9 * g + o) (by omega) ?_
  refine bl_owed G (by omega) (by omega) dX0_between_10 ?_
  exact hE _ _ _ _ dX0_between_11 rfl ⟨rfl, rfl⟩

theorem k_X0_owedBy : zCal yX0_owedBy wsX0_owedBy cX0_owedBy 5 (some .int) 1 := ⟨⟨_, rfl⟩, by decide +kernel⟩
theorem in_X0_owedBy_X0 : ∀ w ∈ wsX00, w ∈ wsX0_owedBy := fun _ h => List.mem_cons_of_mem _ (List.mem_append_right _ h)
set_option maxHeartbeats 4000000 in
set_option maxRecDepth 100000 in
theorem c_X0_owedBy (l : Launch) (D : va_G) (y : Nat → ClassId) (a : Nat → Nat) (f : Nat → Int32) {g : Nat} (hg : g < 9) : zDi l D y yX0_owedBy wsX0_owedBy ({ frames := 0, cells := 0, slots := 0, locals := 0 }) [.ref (a 9), .int (nI (g))] (bwW y a f) (owd f g) (bwW y a f) := by
  refine zMi.mk (cc := cX0_owedBy) (maxL := 5) (lv := [(0, .ref (a 9)), (1, .int (nI (g)))]) (by decide) rfl (Nat.le_of_ble_eq_true rfl) rfl (fun X G hE => ?_)
  have hin := in_X0_owedBy_X0
  refine z_iload_n G dX0_owedBy_0 1 rfl ?_
  refine z_bipush (v := nI 9) G dX0_owedBy_1 rfl ?_
  refine z_imulN G dX0_owedBy_3 (9 * g) (by omega) ?_
  refine z_istore_nA G dX0_owedBy_4 rfl (by decide) rfl ?_
  refine z_iconst (v := nI 0) G dX0_owedBy_5 rfl ?_
  refine z_istore_nA G dX0_owedBy_6 rfl (by decide) rfl ?_
  refine z_iconst (v := nI 0) G dX0_owedBy_7 rfl ?_
  refine z_istoreA G dX0_owedBy_8 (by decide) rfl ?_
  have lo : ∀ nj j : Nat, nj + j = 9 → zV D X (bwW y a f) 0 0 10 [(0, .ref (a 9)), (1, .int (nI (g))), (2, .int (nI (9 * g))), (3, .int (sumI (fun o => f (21 + 17 * g + o)) (j))), (4, .int (nI (j)))] [] := by
    intro nj
    induction nj with
    | zero =>
      intro j hj
      obtain rfl : j = 9 := by omega
      refine z_iload G dX0_owedBy_10 4 rfl ?_
      refine z_bipush (v := nI 9) G dX0_owedBy_12 rfl ?_
      refine z_icmp_geT G dX0_owedBy_14 35 (by decide) (nI_le (Nat.le_refl _) (by decide)) ?_
      refine z_iload_n G dX0_owedBy_35 3 rfl ?_
      exact hE _ _ _ _ dX0_owedBy_36 rfl ⟨rfl, rfl⟩
    | succ nj ihj =>
      intro j hj
      have lj : j < 9 := by omega
      refine z_iload G dX0_owedBy_10 4 rfl ?_
      refine z_bipush (v := nI 9) G dX0_owedBy_12 rfl ?_
      refine z_icmp_geF G dX0_owedBy_14 35 (by decide) (nI_ge lj (by decide)) ?_
      refine z_iload_n G dX0_owedBy_17 3 rfl ?_
      refine z_aload_n G dX0_owedBy_18 0 rfl ?_
      refine bg_owed G hin (List.mem_of_getElem? (i := 1) rfl) dX0_owedBy_19 ?_
      refine z_iload_n G dX0_owedBy_22 2 rfl ?_
      refine z_iload G dX0_owedBy_23 4 rfl ?_
      refine z_iaddN G dX0_owedBy_25 (9 * g + j) (by omega) ?_
      refine bl_owed G (by omega) (by omega) dX0_owedBy_26 ?_
      refine z_iadd G dX0_owedBy_27 ?_
      refine z_istore_n G dX0_owedBy_28 rfl (by decide) 3 rfl ?_
      refine z_iinc G dX0_owedBy_29 4 rfl (nI (j + 1)) (nI_inc _) (by decide) rfl ?_
      refine z_goto (tgt := 10) G dX0_owedBy_32 (by decide) ?_
      exact ihj (j + 1) (by omega)
  exact lo 9 0 rfl

theorem k_X0_owedToAll : zCal yX0_owedToAll wsX0_owedToAll cX0_owedToAll 4 (some .int) 1 := ⟨⟨_, rfl⟩, by decide +kernel⟩
theorem in_X0_owedToAll_X0 : ∀ w ∈ wsX00, w ∈ wsX0_owedToAll := fun _ h => List.mem_cons_of_mem _ (List.mem_append_right _ h)
set_option maxHeartbeats 4000000 in
set_option maxRecDepth 100000 in
theorem c_X0_owedToAll (l : Launch) (D : va_G) (y : Nat → ClassId) (a : Nat → Nat) (f : Nat → Int32) {g : Nat} (hg : g < 9) : zDi l D y yX0_owedToAll wsX0_owedToAll ({ frames := 0, cells := 0, slots := 0, locals := 0 }) [.ref (a 9), .int (nI (g))] (bwW y a f) (owt f g) (bwW y a f) := by
  refine zMi.mk (cc := cX0_owedToAll) (maxL := 4) (lv := [(0, .ref (a 9)), (1, .int (nI (g)))]) (by decide) rfl (Nat.le_of_ble_eq_true rfl) rfl (fun X G hE => ?_)
  have hin := in_X0_owedToAll_X0
  refine z_iconst (v := nI 0) G dX0_owedToAll_0 rfl ?_
  refine z_istore_nA G dX0_owedToAll_1 rfl (by decide) rfl ?_
  refine z_iconst (v := nI 0) G dX0_owedToAll_2 rfl ?_
  refine z_istore_nA G dX0_owedToAll_3 rfl (by decide) rfl ?_
  have lo : ∀ nj j : Nat, nj + j = 9 → zV D X (bwW y a f) 0 0 4 [(0, .ref (a 9)), (1, .int (nI (g))), (2, .int (sumI (fun o => f (21 + 17 * o + g)) (j))), (3, .int (nI (j)))] [] := by
    intro nj
    induction nj with
    | zero =>
      intro j hj
      obtain rfl : j = 9 := by omega
      refine z_iload_n G dX0_owedToAll_4 3 rfl ?_
      refine z_bipush (v := nI 9) G dX0_owedToAll_5 rfl ?_
      refine z_icmp_geT G dX0_owedToAll_7 30 (by decide) (nI_le (Nat.le_refl _) (by decide)) ?_
      refine z_iload_n G dX0_owedToAll_30 2 rfl ?_
      exact hE _ _ _ _ dX0_owedToAll_31 rfl ⟨rfl, rfl⟩
    | succ nj ihj =>
      intro j hj
      have lj : j < 9 := by omega
      refine z_iload_n G dX0_owedToAll_4 3 rfl ?_
      refine z_bipush (v := nI 9) G dX0_owedToAll_5 rfl ?_
      refine z_icmp_geF G dX0_owedToAll_7 30 (by decide) (nI_ge lj (by decide)) ?_
      refine z_iload_n G dX0_owedToAll_10 2 rfl ?_
      refine z_aload_n G dX0_owedToAll_11 0 rfl ?_
      refine bg_owed G hin (List.mem_of_getElem? (i := 1) rfl) dX0_owedToAll_12 ?_
      refine z_iload_n G dX0_owedToAll_15 3 rfl ?_
      refine z_bipush (v := nI 9) G dX0_owedToAll_16 rfl ?_
      refine z_imulN G dX0_owedToAll_18 (9 * j) (by omega) ?_
      refine z_iload_n G dX0_owedToAll_19 1 rfl ?_
      refine z_iaddN G dX0_owedToAll_20 (9 * j + g) (by omega) ?_
      refine bl_owed G (by omega) (by omega) dX0_owedToAll_21 ?_
      refine z_iadd G dX0_owedToAll_22 ?_
      refine z_istore_n G dX0_owedToAll_23 rfl (by decide) 2 rfl ?_
      refine z_iinc G dX0_owedToAll_24 3 rfl (nI (j + 1)) (nI_inc _) (by decide) rfl ?_
      refine z_goto (tgt := 4) G dX0_owedToAll_27 (by decide) ?_
      exact ihj (j + 1) (by omega)
  exact lo 9 0 rfl

theorem k_X0_owedInAll : zCal yX0_owedInAll wsX0_owedInAll cX0_owedInAll 3 (some .int) 0 := ⟨⟨_, rfl⟩, by decide +kernel⟩
theorem in_X0_owedInAll_X0 : ∀ w ∈ wsX00, w ∈ wsX0_owedInAll := fun _ h => List.mem_cons_of_mem _ (List.mem_append_right _ h)
set_option maxHeartbeats 4000000 in
set_option maxRecDepth 100000 in
theorem c_X0_owedInAll (l : Launch) (D : va_G) (y : Nat → ClassId) (a : Nat → Nat) (f : Nat → Int32) : zDi l D y yX0_owedInAll wsX0_owedInAll ({ frames := 0, cells := 0, slots := 0, locals := 0 }) [.ref (a 9)] (bwW y a f) (sumI (fun c => f (o_at c)) 81) (bwW y a f) := by
  refine zMi.mk (cc := cX0_owedInAll) (maxL := 3) (lv := [(0, .ref (a 9))]) (by decide) rfl (Nat.le_of_ble_eq_true rfl) rfl (fun X G hE => ?_)
  have hin := in_X0_owedInAll_X0
  refine z_iconst (v := nI 0) G dX0_owedInAll_0 rfl ?_
  refine z_istore_nA G dX0_owedInAll_1 rfl (by decide) rfl ?_
  refine z_iconst (v := nI 0) G dX0_owedInAll_2 rfl ?_
  refine z_istore_nA G dX0_owedInAll_3 rfl (by decide) rfl ?_
  have lo : ∀ nj j : Nat, nj + j = 81 → zV D X (bwW y a f) 0 0 4 [(0, .ref (a 9)), (1, .int (sumI (fun c => f (o_at c)) (j))), (2, .int (nI (j)))] [] := by
    intro nj
    induction nj with
    | zero =>
      intro j hj
      obtain rfl : j = 81 := by omega
      refine z_iload_n G dX0_owedInAll_4 2 rfl ?_
      refine z_bipush (v := nI 81) G dX0_owedInAll_5 rfl ?_
      refine z_icmp_geT G dX0_owedInAll_7 25 (by decide) (nI_le (Nat.le_refl _) (by decide)) ?_
      refine z_iload_n G dX0_owedInAll_25 1 rfl ?_
      exact hE _ _ _ _ dX0_owedInAll_26 rfl ⟨rfl, rfl⟩
    | succ nj ihj =>
      intro j hj
      have lj : j < 81 := by omega
      refine z_iload_n G dX0_owedInAll_4 2 rfl ?_
      refine z_bipush (v := nI 81) G dX0_owedInAll_5 rfl ?_
      refine z_icmp_geF G dX0_owedInAll_7 25 (by decide) (nI_ge lj (by decide)) ?_
      refine z_iload_n G dX0_owedInAll_10 1 rfl ?_
      refine z_aload_n G dX0_owedInAll_11 0 rfl ?_
      refine bg_owed G hin (List.mem_of_getElem? (i := 1) rfl) dX0_owedInAll_12 ?_
      refine z_iload_n G dX0_owedInAll_15 2 rfl ?_
      refine bl_owedc G lj dX0_owedInAll_16 ?_
      refine z_iadd G dX0_owedInAll_17 ?_
      refine z_istore_n G dX0_owedInAll_18 rfl (by decide) 1 rfl ?_
      refine z_iinc G dX0_owedInAll_19 2 rfl (nI (j + 1)) (nI_inc _) (by decide) rfl ?_
      refine z_goto (tgt := 4) G dX0_owedInAll_22 (by decide) ?_
      exact ihj (j + 1) (by omega)
  exact lo 81 0 rfl

theorem k_X0_madeBy : zCal yX0_madeBy wsX0_madeBy cX0_madeBy 2 (some .int) 1 := ⟨⟨_, rfl⟩, by decide +kernel⟩
theorem in_X0_madeBy_X0 : ∀ w ∈ wsX00, w ∈ wsX0_madeBy := fun _ h => List.mem_cons_of_mem _ (List.mem_append_right _ h)
set_option maxHeartbeats 4000000 in
set_option maxRecDepth 100000 in
theorem c_X0_madeBy (l : Launch) (D : va_G) (y : Nat → ClassId) (a : Nat → Nat) (f : Nat → Int32) {g : Nat} (hg : g < 9) : zDi l D y yX0_madeBy wsX0_madeBy ({ frames := 0, cells := 0, slots := 0, locals := 0 }) [.ref (a 9), .int (nI (g))] (bwW y a f) (f (20 + 17 * g)) (bwW y a f) := by
  refine zMi.mk (cc := cX0_madeBy) (maxL := 2) (lv := [(0, .ref (a 9)), (1, .int (nI (g)))]) (by decide) rfl (Nat.le_of_ble_eq_true rfl) rfl (fun X G hE => ?_)
  have hin := in_X0_madeBy_X0
  refine z_aload_n G dX0_madeBy_0 0 rfl ?_
  refine bg_made G hin (List.mem_of_getElem? (i := 1) rfl) dX0_madeBy_1 ?_
  refine z_iload_n G dX0_madeBy_4 1 rfl ?_
  refine bl_made G (by omega) dX0_madeBy_5 ?_
  exact hE _ _ _ _ dX0_madeBy_6 rfl ⟨rfl, rfl⟩

theorem k_X0_madeSoFar : zCal yX0_madeSoFar wsX0_madeSoFar cX0_madeSoFar 1 (some .int) 0 := ⟨⟨_, rfl⟩, by decide +kernel⟩
theorem in_X0_madeSoFar_X0 : ∀ w ∈ wsX00, w ∈ wsX0_madeSoFar := fun _ h => List.mem_cons_of_mem _ (List.mem_append_right _ h)
set_option maxHeartbeats 4000000 in
set_option maxRecDepth 100000 in
theorem c_X0_madeSoFar (l : Launch) (D : va_G) (y : Nat → ClassId) (a : Nat → Nat) (f : Nat → Int32) : zDi l D y yX0_madeSoFar wsX0_madeSoFar ({ frames := 0, cells := 0, slots := 0, locals := 0 }) [.ref (a 9)] (bwW y a f) (f 7) (bwW y a f) := by
  refine zMi.mk (cc := cX0_madeSoFar) (maxL := 1) (lv := [(0, .ref (a 9))]) (by decide) rfl (Nat.le_of_ble_eq_true rfl) rfl (fun X G hE => ?_)
  have hin := in_X0_madeSoFar_X0
  refine z_aload_n G dX0_madeSoFar_0 0 rfl ?_
  refine bg_madeInAll G hin (List.mem_of_getElem? (i := 1) rfl) dX0_madeSoFar_1 ?_
  exact hE _ _ _ _ dX0_madeSoFar_4 rfl ⟨rfl, rfl⟩

theorem k_X0_lostSoFar : zCal yX0_lostSoFar wsX0_lostSoFar cX0_lostSoFar 1 (some .int) 0 := ⟨⟨_, rfl⟩, by decide +kernel⟩
theorem in_X0_lostSoFar_X0 : ∀ w ∈ wsX00, w ∈ wsX0_lostSoFar := fun _ h => List.mem_cons_of_mem _ (List.mem_append_right _ h)
set_option maxHeartbeats 4000000 in
set_option maxRecDepth 100000 in
theorem c_X0_lostSoFar (l : Launch) (D : va_G) (y : Nat → ClassId) (a : Nat → Nat) (f : Nat → Int32) : zDi l D y yX0_lostSoFar wsX0_lostSoFar ({ frames := 0, cells := 0, slots := 0, locals := 0 }) [.ref (a 9)] (bwW y a f) (f 8) (bwW y a f) := by
  refine zMi.mk (cc := cX0_lostSoFar) (maxL := 1) (lv := [(0, .ref (a 9))]) (by decide) rfl (Nat.le_of_ble_eq_true rfl) rfl (fun X G hE => ?_)
  have hin := in_X0_lostSoFar_X0
  refine z_aload_n G dX0_lostSoFar_0 0 rfl ?_
  refine bg_lostInAll G hin (List.mem_of_getElem? (i := 1) rfl) dX0_lostSoFar_1 ?_
  exact hE _ _ _ _ dX0_lostSoFar_4 rfl ⟨rfl, rfl⟩

theorem k_X0_setOffSoFar : zCal yX0_setOffSoFar wsX0_setOffSoFar cX0_setOffSoFar 1 (some .int) 0 := ⟨⟨_, rfl⟩, by decide +kernel⟩
theorem in_X0_setOffSoFar_X0 : ∀ w ∈ wsX00, w ∈ wsX0_setOffSoFar := fun _ h => List.mem_cons_of_mem _ (List.mem_append_right _ h)
set_option maxHeartbeats 4000000 in
set_option maxRecDepth 100000 in
theorem c_X0_setOffSoFar (l : Launch) (D : va_G) (y : Nat → ClassId) (a : Nat → Nat) (f : Nat → Int32) : zDi l D y yX0_setOffSoFar wsX0_setOffSoFar ({ frames := 0, cells := 0, slots := 0, locals := 0 }) [.ref (a 9)] (bwW y a f) (f 9) (bwW y a f) := by
  refine zMi.mk (cc := cX0_setOffSoFar) (maxL := 1) (lv := [(0, .ref (a 9))]) (by decide) rfl (Nat.le_of_ble_eq_true rfl) rfl (fun X G hE => ?_)
  have hin := in_X0_setOffSoFar_X0
  refine z_aload_n G dX0_setOffSoFar_0 0 rfl ?_
  refine bg_setOffInAll G hin (List.mem_of_getElem? (i := 1) rfl) dX0_setOffSoFar_1 ?_
  exact hE _ _ _ _ dX0_setOffSoFar_4 rfl ⟨rfl, rfl⟩

theorem k_X0_laidSoFar : zCal yX0_laidSoFar wsX0_laidSoFar cX0_laidSoFar 1 (some .int) 0 := ⟨⟨_, rfl⟩, by decide +kernel⟩
theorem in_X0_laidSoFar_X0 : ∀ w ∈ wsX00, w ∈ wsX0_laidSoFar := fun _ h => List.mem_cons_of_mem _ (List.mem_append_right _ h)
set_option maxHeartbeats 4000000 in
set_option maxRecDepth 100000 in
theorem c_X0_laidSoFar (l : Launch) (D : va_G) (y : Nat → ClassId) (a : Nat → Nat) (f : Nat → Int32) : zDi l D y yX0_laidSoFar wsX0_laidSoFar ({ frames := 0, cells := 0, slots := 0, locals := 0 }) [.ref (a 9)] (bwW y a f) (f 10) (bwW y a f) := by
  refine zMi.mk (cc := cX0_laidSoFar) (maxL := 1) (lv := [(0, .ref (a 9))]) (by decide) rfl (Nat.le_of_ble_eq_true rfl) rfl (fun X G hE => ?_)
  have hin := in_X0_laidSoFar_X0
  refine z_aload_n G dX0_laidSoFar_0 0 rfl ?_
  refine bg_laidInAll G hin (List.mem_of_getElem? (i := 1) rfl) dX0_laidSoFar_1 ?_
  exact hE _ _ _ _ dX0_laidSoFar_4 rfl ⟨rfl, rfl⟩

theorem k_X0_lay : zCal yX0_lay wsX0_lay cX0_lay 4 none 3 := ⟨⟨_, rfl⟩, by decide +kernel⟩
theorem in_X0_lay_X0 : ∀ w ∈ wsX00, w ∈ wsX0_lay := fun _ h => List.mem_cons_of_mem _ (List.mem_append_right _ h)
set_option maxHeartbeats 4000000 in
set_option maxRecDepth 100000 in
theorem c_X0_lay (l : Launch) (D : va_G) (y : Nat → ClassId) (a : Nat → Nat) (f : Nat → Int32) {g o : Nat} (hg : g < 9) (ho : o < 9) (k : Int32) : zDv l D y yX0_lay wsX0_lay ({ frames := 0, cells := 0, slots := 0, locals := 0 }) [.ref (a 9), .int (nI (g)), .int (nI (o)), .int (k)] (bwW y a f) (bwW y a (layF f g o k)) := by
  refine zMv.mk (cc := cX0_lay) (maxL := 4) (lv := [(0, .ref (a 9)), (1, .int (nI (g))), (2, .int (nI (o))), (3, .int (k))]) (by decide) rfl (Nat.le_of_ble_eq_true rfl) rfl (fun X G hE => ?_)
  have hin := in_X0_lay_X0
  refine z_aload_n G dX0_lay_0 0 rfl ?_
  refine bg_owed G hin (List.mem_of_getElem? (i := 1) rfl) dX0_lay_1 ?_
  refine z_iload_n G dX0_lay_4 1 rfl ?_
  refine z_bipush (v := nI 9) G dX0_lay_5 rfl ?_
  refine z_imulN G dX0_lay_7 (9 * g) (by omega) ?_
  refine z_iload_n G dX0_lay_8 2 rfl ?_
  refine z_iaddN G dX0_lay_9 (9 * g + o) (by omega) ?_
  refine z_dup2 G dX0_lay_10 rfl rfl ?_
  refine bl_owed G (by omega) (by omega) dX0_lay_11 ?_
  refine z_iload_n G dX0_lay_12 3 rfl ?_
  refine z_iadd G dX0_lay_13 ?_
  refine bs_owed G (by omega) (by omega) dX0_lay_14 ?_
  refine z_aload_n G dX0_lay_15 0 rfl ?_
  refine z_dup G dX0_lay_16 rfl ?_
  refine bg_laidInAll G hin (List.mem_of_getElem? (i := 2) rfl) dX0_lay_17 ?_
  refine z_iload_n G dX0_lay_20 3 rfl ?_
  refine z_iadd G dX0_lay_21 ?_
  refine bp_laidInAll G hin (List.mem_of_getElem? (i := 2) rfl) dX0_lay_22 ?_
  exact hE _ _ _ dX0_lay_25 (by rw [layF, upd_ne (show 10 ≠ 21 + 17 * g + o by omega)])

theorem k_X0_pay : zCal yX0_pay wsX0_pay cX0_pay 4 (some .boolean) 2 := ⟨⟨_, rfl⟩, by decide +kernel⟩
theorem in_X0_pay_X0 : ∀ w ∈ wsX00, w ∈ wsX0_pay := fun _ h => List.mem_cons_of_mem _ (List.mem_append_right _ h)
set_option maxHeartbeats 4000000 in
set_option maxRecDepth 100000 in
theorem c_X0_pay (l : Launch) (D : va_G) (y : Nat → ClassId) (a : Nat → Nat) (f : Nat → Int32) {g o : Nat} (hg : g < 9) (ho : o < 9) : zDi l D y yX0_pay wsX0_pay ({ frames := 0, cells := 0, slots := 0, locals := 0 }) [.ref (a 9), .int (nI (g)), .int (nI (o))] (bwW y a f) (if f (21 + 17 * g + o) = 0 then 0 else 1) (bwW y a (payF f g o)) := by
  refine zMi.mk (cc := cX0_pay) (maxL := 4) (lv := [(0, .ref (a 9)), (1, .int (nI (g))), (2, .int (nI (o)))]) (by decide) rfl (Nat.le_of_ble_eq_true rfl) rfl (fun X G hE => ?_)
  have hin := in_X0_pay_X0
  refine z_iload_n G dX0_pay_0 1 rfl ?_
  refine z_bipush (v := nI 9) G dX0_pay_1 rfl ?_
  refine z_imulN G dX0_pay_3 (9 * g) (by omega) ?_
  refine z_iload_n G dX0_pay_4 2 rfl ?_
  refine z_iaddN G dX0_pay_5 (9 * g + o) (by omega) ?_
  refine z_istore_nA G dX0_pay_6 rfl (by decide) rfl ?_
  refine z_aload_n G dX0_pay_7 0 rfl ?_
  refine bg_owed G hin (List.mem_of_getElem? (i := 1) rfl) dX0_pay_8 ?_
  refine z_iload_n G dX0_pay_11 3 rfl ?_
  refine bl_owed G (by omega) (by omega) dX0_pay_12 ?_
  refine z_if_ne G dX0_pay_13 18 (by decide) (fun c => ?_) (fun c => ?_)
  · refine z_aload_n G dX0_pay_18 0 rfl ?_
    refine bg_owed G hin (List.mem_of_getElem? (i := 1) rfl) dX0_pay_19 ?_
    refine z_iload_n G dX0_pay_22 3 rfl ?_
    refine z_dup2 G dX0_pay_23 rfl rfl ?_
    refine bl_owed G (by omega) (by omega) dX0_pay_24 ?_
    refine z_iconst (v := nI 1) G dX0_pay_25 rfl ?_
    refine z_isub G dX0_pay_26 ?_
    refine bs_owed G (by omega) (by omega) dX0_pay_27 ?_
    refine z_aload_n G dX0_pay_28 0 rfl ?_
    refine bg_made G hin (List.mem_of_getElem? (i := 2) rfl) dX0_pay_29 ?_
    refine z_iload_n G dX0_pay_32 1 rfl ?_
    refine z_dup2 G dX0_pay_33 rfl rfl ?_
    refine bl_made G (by omega) dX0_pay_34 ?_
    refine z_iconst (v := nI 1) G dX0_pay_35 rfl ?_
    refine z_iadd G dX0_pay_36 ?_
    refine bs_made G (by omega) dX0_pay_37 ?_
    refine z_aload_n G dX0_pay_38 0 rfl ?_
    refine z_dup G dX0_pay_39 rfl ?_
    refine bg_madeInAll G hin (List.mem_of_getElem? (i := 3) rfl) dX0_pay_40 ?_
    refine z_iconst (v := nI 1) G dX0_pay_43 rfl ?_
    refine z_iadd G dX0_pay_44 ?_
    refine bp_madeInAll G hin (List.mem_of_getElem? (i := 3) rfl) dX0_pay_45 ?_
    refine z_iconst (v := nI 1) G dX0_pay_48 rfl ?_
    exact hE _ _ _ _ dX0_pay_49 rfl ⟨(by rw [if_neg c]; rfl), (by rw [payF, if_neg c, upd_ne (show 20 + 17 * g ≠ 21 + 17 * g + o by omega), upd_ne (show 7 ≠ 20 + 17 * g by omega), upd_ne (show 7 ≠ 21 + 17 * g + o by omega)]; rfl)⟩
  · refine z_iconst (v := nI 0) G dX0_pay_16 rfl ?_
    exact hE _ _ _ _ dX0_pay_17 rfl ⟨(by rw [if_pos c]; rfl), (by rw [payF, if_pos c])⟩

theorem k_X0_setOffBoth : zCal yX0_setOffBoth wsX0_setOffBoth cX0_setOffBoth 6 none 2 := ⟨⟨_, rfl⟩, by decide +kernel⟩
theorem in_X0_setOffBoth_X0 : ∀ w ∈ wsX00, w ∈ wsX0_setOffBoth := fun _ h => List.mem_cons_of_mem _ (List.mem_append_right _ h)
set_option maxHeartbeats 4000000 in
set_option maxRecDepth 100000 in
theorem c_X0_setOffBoth (l : Launch) (D : va_G) (y : Nat → ClassId) (a : Nat → Nat) (f : Nat → Int32) {g o : Nat} (hg : g < 9) (ho : o < 9) (hgo : g ≠ o) : zDv l D y yX0_setOffBoth wsX0_setOffBoth ({ frames := 1, cells := 0, slots := 0, locals := 40 }) [.ref (a 9), .int (nI (g)), .int (nI (o))] (bwW y a f) (bwW y a (offF f g o)) := by
  refine zMv.mk (cc := cX0_setOffBoth) (maxL := 6) (lv := [(0, .ref (a 9)), (1, .int (nI (g))), (2, .int (nI (o)))]) (by decide) rfl (Nat.le_of_ble_eq_true rfl) rfl (fun X G hE => ?_)
  have hin := in_X0_setOffBoth_X0
  refine z_iload_n G dX0_setOffBoth_0 1 rfl ?_
  refine z_bipush (v := nI 9) G dX0_setOffBoth_1 rfl ?_
  refine z_imulN G dX0_setOffBoth_3 (9 * g) (by omega) ?_
  refine z_iload_n G dX0_setOffBoth_4 2 rfl ?_
  refine z_iaddN G dX0_setOffBoth_5 (9 * g + o) (by omega) ?_
  refine z_istore_nA G dX0_setOffBoth_6 rfl (by decide) rfl ?_
  refine z_iload_n G dX0_setOffBoth_7 2 rfl ?_
  refine z_bipush (v := nI 9) G dX0_setOffBoth_8 rfl ?_
  refine z_imulN G dX0_setOffBoth_10 (9 * o) (by omega) ?_
  refine z_iload_n G dX0_setOffBoth_11 1 rfl ?_
  refine z_iaddN G dX0_setOffBoth_12 (9 * o + g) (by omega) ?_
  refine z_istoreA G dX0_setOffBoth_13 (by decide) rfl ?_
  refine z_aload_n G dX0_setOffBoth_15 0 rfl ?_
  refine bg_owed G hin (List.mem_of_getElem? (i := 1) rfl) dX0_setOffBoth_16 ?_
  refine z_iload_n G dX0_setOffBoth_19 3 rfl ?_
  refine bl_owed G (by omega) (by omega) dX0_setOffBoth_20 ?_
  refine z_aload_n G dX0_setOffBoth_21 0 rfl ?_
  refine bg_owed G hin (List.mem_of_getElem? (i := 1) rfl) dX0_setOffBoth_22 ?_
  refine z_iload G dX0_setOffBoth_25 4 rfl ?_
  refine bl_owed G (by omega) (by omega) dX0_setOffBoth_27 ?_
  refine z_min G (List.mem_of_getElem? (i := 2) rfl) (List.mem_of_getElem? (i := 3) rfl) (List.mem_of_getElem? (i := 4) rfl) (List.mem_of_getElem? (i := 5) rfl) (by decide) (Nat.le_of_ble_eq_true rfl) (Nat.zero_le _) (Nat.zero_le _) dX0_setOffBoth_28 ?_
  refine z_istoreA G dX0_setOffBoth_31 (by decide) rfl ?_
  refine z_aload_n G dX0_setOffBoth_33 0 rfl ?_
  refine bg_owed G hin (List.mem_of_getElem? (i := 1) rfl) dX0_setOffBoth_34 ?_
  refine z_iload_n G dX0_setOffBoth_37 3 rfl ?_
  refine z_dup2 G dX0_setOffBoth_38 rfl rfl ?_
  refine bl_owed G (by omega) (by omega) dX0_setOffBoth_39 ?_
  refine z_iload G dX0_setOffBoth_40 5 rfl ?_
  refine z_isub G dX0_setOffBoth_42 ?_
  refine bs_owed G (by omega) (by omega) dX0_setOffBoth_43 ?_
  refine z_aload_n G dX0_setOffBoth_44 0 rfl ?_
  refine bg_owed G hin (List.mem_of_getElem? (i := 1) rfl) dX0_setOffBoth_45 ?_
  refine z_iload G dX0_setOffBoth_48 4 rfl ?_
  refine z_dup2 G dX0_setOffBoth_50 rfl rfl ?_
  refine bl_owed G (by omega) (by omega) dX0_setOffBoth_51 ?_
  refine z_iload G dX0_setOffBoth_52 5 rfl ?_
  refine z_isub G dX0_setOffBoth_54 ?_
  refine bs_owed G (by omega) (by omega) dX0_setOffBoth_55 ?_
  refine z_aload_n G dX0_setOffBoth_56 0 rfl ?_
  refine z_dup G dX0_setOffBoth_57 rfl ?_
  refine bg_setOffInAll G hin (List.mem_of_getElem? (i := 6) rfl) dX0_setOffBoth_58 ?_
  refine z_iconst (v := nI 2) G dX0_setOffBoth_61 rfl ?_
  refine z_iload G dX0_setOffBoth_62 5 rfl ?_
  refine z_imul G dX0_setOffBoth_64 ?_
  refine z_iadd G dX0_setOffBoth_65 ?_
  refine bp_setOffInAll G hin (List.mem_of_getElem? (i := 6) rfl) dX0_setOffBoth_66 ?_
  exact hE _ _ _ dX0_setOffBoth_69 (by rw [offF, upd_ne (show 21 + 17 * o + g ≠ 21 + 17 * g + o by omega), upd_ne (show 9 ≠ 21 + 17 * o + g by omega), upd_ne (show 9 ≠ 21 + 17 * g + o by omega)]; rfl)

theorem k_X0_forget : zCal yX0_forget wsX0_forget cX0_forget 3 none 1 := ⟨⟨_, rfl⟩, by decide +kernel⟩
theorem in_X0_forget_X0 : ∀ w ∈ wsX00, w ∈ wsX0_forget := fun _ h => List.mem_cons_of_mem _ (List.mem_append_right _ h)
set_option maxHeartbeats 4000000 in
set_option maxRecDepth 100000 in
theorem c_X0_forget (l : Launch) (D : va_G) (y : Nat → ClassId) (a : Nat → Nat) (f : Nat → Int32) {g : Nat} (hg : g < 9) : zDv l D y yX0_forget wsX0_forget ({ frames := 1, cells := 0, slots := 0, locals := 24 }) [.ref (a 9), .int (nI (g))] (bwW y a f) (bwW y a (fgtF f g)) := by
  refine zMv.mk (cc := cX0_forget) (maxL := 3) (lv := [(0, .ref (a 9)), (1, .int (nI (g)))]) (by decide) rfl (Nat.le_of_ble_eq_true rfl) rfl (fun X G hE => ?_)
  have hin := in_X0_forget_X0
  refine z_aload_n G dX0_forget_0 0 rfl ?_
  refine z_dup G dX0_forget_1 rfl ?_
  refine bg_lostInAll G hin (List.mem_of_getElem? (i := 1) rfl) dX0_forget_2 ?_
  refine z_aload_n G dX0_forget_5 0 rfl ?_
  refine z_iload_n G dX0_forget_6 1 rfl ?_
  refine z_dVi (As := [_]) G _ _ (fun l => c_X0_owedBy l D y a f hg) k_X0_owedBy gX0_forget_X0_owedBy 0 0 rfl rfl rfl dX0_forget_7 ⟨by decide, by decide⟩ ⟨rfl, rfl⟩ ⟨Nat.zero_le _, Nat.zero_le _⟩ rfl (Nat.le_of_ble_eq_true rfl) rfl ?_
  refine z_aload_n G dX0_forget_10 0 rfl ?_
  refine z_iload_n G dX0_forget_11 1 rfl ?_
  refine z_dVi (As := [_]) G _ _ (fun l => c_X0_owedToAll l D y a f hg) k_X0_owedToAll gX0_forget_X0_owedToAll 0 0 rfl rfl rfl dX0_forget_12 ⟨by decide, by decide⟩ ⟨rfl, rfl⟩ ⟨Nat.zero_le _, Nat.zero_le _⟩ rfl (Nat.le_of_ble_eq_true rfl) rfl ?_
  refine z_iadd G dX0_forget_15 ?_
  refine z_iadd G dX0_forget_16 ?_
  refine bp_lostInAll G hin (List.mem_of_getElem? (i := 1) rfl) dX0_forget_17 ?_
  refine z_iconst (v := nI 0) G dX0_forget_20 rfl ?_
  refine z_istore_nA G dX0_forget_21 rfl (by decide) rfl ?_
  have lo : ∀ nj j : Nat, nj + j = 9 → zV D X (bwW y a (fg0 (upd f 8 (f 8 + (owd f g + owt f g))) g (j))) 0 0 22 [(0, .ref (a 9)), (1, .int (nI (g))), (2, .int (nI (j)))] [] := by
    intro nj
    induction nj with
    | zero =>
      intro j hj
      obtain rfl : j = 9 := by omega
      refine z_iload_n G dX0_forget_22 2 rfl ?_
      refine z_bipush (v := nI 9) G dX0_forget_23 rfl ?_
      refine z_icmp_geT G dX0_forget_25 58 (by decide) (nI_le (Nat.le_refl _) (by decide)) ?_
      refine z_aload_n G dX0_forget_58 0 rfl ?_
      refine bg_made G hin (List.mem_of_getElem? (i := 3) rfl) dX0_forget_59 ?_
      refine z_iload_n G dX0_forget_62 1 rfl ?_
      refine z_iconst (v := nI 0) G dX0_forget_63 rfl ?_
      refine bs_made G (by omega) dX0_forget_64 ?_
      exact hE _ _ _ dX0_forget_65 rfl
    | succ nj ihj =>
      intro j hj
      have lj : j < 9 := by omega
      refine z_iload_n G dX0_forget_22 2 rfl ?_
      refine z_bipush (v := nI 9) G dX0_forget_23 rfl ?_
      refine z_icmp_geF G dX0_forget_25 58 (by decide) (nI_ge lj (by decide)) ?_
      refine z_aload_n G dX0_forget_28 0 rfl ?_
      refine bg_owed G hin (List.mem_of_getElem? (i := 2) rfl) dX0_forget_29 ?_
      refine z_iload_n G dX0_forget_32 1 rfl ?_
      refine z_bipush (v := nI 9) G dX0_forget_33 rfl ?_
      refine z_imulN G dX0_forget_35 (9 * g) (by omega) ?_
      refine z_iload_n G dX0_forget_36 2 rfl ?_
      refine z_iaddN G dX0_forget_37 (9 * g + j) (by omega) ?_
      refine z_iconst (v := nI 0) G dX0_forget_38 rfl ?_
      refine bs_owed G (by omega) (by omega) dX0_forget_39 ?_
      refine z_aload_n G dX0_forget_40 0 rfl ?_
      refine bg_owed G hin (List.mem_of_getElem? (i := 2) rfl) dX0_forget_41 ?_
      refine z_iload_n G dX0_forget_44 2 rfl ?_
      refine z_bipush (v := nI 9) G dX0_forget_45 rfl ?_
      refine z_imulN G dX0_forget_47 (9 * j) (by omega) ?_
      refine z_iload_n G dX0_forget_48 1 rfl ?_
      refine z_iaddN G dX0_forget_49 (9 * j + g) (by omega) ?_
      refine z_iconst (v := nI 0) G dX0_forget_50 rfl ?_
      refine bs_owed G (by omega) (by omega) dX0_forget_51 ?_
      refine z_iinc G dX0_forget_52 2 rfl (nI (j + 1)) (nI_inc _) (by decide) rfl ?_
      refine z_goto (tgt := 22) G dX0_forget_55 (by decide) ?_
      exact ihj (j + 1) (by omega)
  exact lo 9 0 rfl
