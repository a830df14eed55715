theorem k_X2_length : zCal yX2_length wsX2_length cX2_length 1 (some .int) 0 := ⟨⟨_, rfl⟩, by decide +kernel⟩
theorem in_X2_length_X2 : ∀ w ∈ wsX20, w ∈ wsX2_length := fun _ h => List.mem_cons_of_mem _ (List.mem_append_right _ h)
set_option maxHeartbeats 4000000 in
set_option maxRecDepth 100000 in
theorem c_X2_length (l : Launch) (D : va_G) (y : Nat → ClassId) (p : Nat → Nat) (t : Nat → Int32) {len : Nat} (h80 : len ≤ 80) : zDi l D y yX2_length wsX2_length ({ frames := 0, cells := 0, slots := 0, locals := 0 }) [.ref (p 0)] (pdW y p t (nI len)) (nI len) (pdW y p t (nI len)) := by
  refine zMi.mk (cc := cX2_length) (maxL := 1) (lv := [(0, .ref (p 0))]) (by decide) rfl (Nat.le_of_ble_eq_true rfl) rfl (fun X G hE => ?_)
  have hin := in_X2_length_X2
  refine z_aload_n G dX2_length_0 0 rfl ?_
  refine dg_length G hin (List.mem_of_getElem? (i := 1) rfl) dX2_length_1 ?_
  exact hE _ _ _ _ dX2_length_4 rfl ⟨rfl, rfl⟩

theorem k_X2_empty : zCal yX2_empty wsX2_empty cX2_empty 2 (some .int) 0 := ⟨⟨_, rfl⟩, by decide +kernel⟩
theorem in_X2_empty_X2 : ∀ w ∈ wsX20, w ∈ wsX2_empty := fun _ h => List.mem_cons_of_mem _ (List.mem_append_right _ h)
set_option maxHeartbeats 4000000 in
set_option maxRecDepth 100000 in
theorem c_X2_empty (l : Launch) (D : va_G) (y : Nat → ClassId) (p : Nat → Nat) (t : Nat → Int32) {len : Nat} (h80 : len ≤ 80) : zDi l D y yX2_empty wsX2_empty ({ frames := 0, cells := 0, slots := 0, locals := 0 }) [.ref (p 0)] (pdW y p t (nI len)) (nI len) (pdW y p t (nI 0)) := by
  refine zMi.mk (cc := cX2_empty) (maxL := 2) (lv := [(0, .ref (p 0))]) (by decide) rfl (Nat.le_of_ble_eq_true rfl) rfl (fun X G hE => ?_)
  have hin := in_X2_empty_X2
  refine z_aload_n G dX2_empty_0 0 rfl ?_
  refine dg_length G hin (List.mem_of_getElem? (i := 1) rfl) dX2_empty_1 ?_
  refine z_istore_nA G dX2_empty_4 rfl (by decide) rfl ?_
  refine z_aload_n G dX2_empty_5 0 rfl ?_
  refine z_iconst (v := nI 0) G dX2_empty_6 rfl ?_
  refine dp_length G hin (List.mem_of_getElem? (i := 1) rfl) dX2_empty_7 ?_
  refine z_iload_n G dX2_empty_10 1 rfl ?_
  exact hE _ _ _ _ dX2_empty_11 rfl ⟨rfl, rfl⟩

theorem k_X2_signAt : zCal yX2_signAt wsX2_signAt cX2_signAt 2 (some .int) 1 := ⟨⟨_, rfl⟩, by decide +kernel⟩
theorem in_X2_signAt_X2 : ∀ w ∈ wsX20, w ∈ wsX2_signAt := fun _ h => List.mem_cons_of_mem _ (List.mem_append_right _ h)
set_option maxHeartbeats 4000000 in
set_option maxRecDepth 100000 in
theorem c_X2_signAt (l : Launch) (D : va_G) (y : Nat → ClassId) (p : Nat → Nat) (t : Nat → Int32) {len : Nat} (h80 : len ≤ 80) {i : Nat} (hi : i < 2 ^ 30) : zDi l D y yX2_signAt wsX2_signAt ({ frames := 0, cells := 0, slots := 0, locals := 0 }) [.ref (p 0), .int (nI (i))] (pdW y p t (nI len)) (sgA t len i) (pdW y p t (nI len)) := by
  refine zMi.mk (cc := cX2_signAt) (maxL := 2) (lv := [(0, .ref (p 0)), (1, .int (nI (i)))]) (by decide) rfl (Nat.le_of_ble_eq_true rfl) rfl (fun X G hE => ?_)
  have hin := in_X2_signAt_X2
  refine z_iload_n G dX2_signAt_0 1 rfl ?_
  refine z_if_ltF G dX2_signAt_1 27 (by decide) (nI_pos (by omega)) ?_
  refine z_iload_n G dX2_signAt_4 1 rfl ?_
  refine z_aload_n G dX2_signAt_5 0 rfl ?_
  refine dg_length G hin (List.mem_of_getElem? (i := 1) rfl) dX2_signAt_6 ?_
  refine z_icmp_ge G dX2_signAt_9 27 (by decide) (fun c9 => ?_) (fun c9 => ?_)
  · have n9 : ¬ i < len := fun z => absurd ((nI_leI (by omega) (by omega)).mp c9) (Nat.not_le.mpr z)
    refine z_iconst (v := nI 0) G dX2_signAt_27 rfl ?_
    exact hE _ _ _ _ dX2_signAt_28 rfl ⟨(sgA_F n9).symm, rfl⟩
  · have n9 : i < len := Nat.not_le.mp (fun z => c9 (nI_le z (by omega)))
    refine z_iload_n G dX2_signAt_12 1 rfl ?_
    refine z_bipush (v := nI 80) G dX2_signAt_13 rfl ?_
    refine z_icmp_geF G dX2_signAt_15 27 (by decide) (nI_ge (by omega) (by decide)) ?_
    refine z_aload_n G dX2_signAt_18 0 rfl ?_
    refine dg_text G hin (List.mem_of_getElem? (i := 2) rfl) dX2_signAt_19 ?_
    refine z_iload_n G dX2_signAt_22 1 rfl ?_
    refine dl_text G (by omega) dX2_signAt_23 ?_
    refine z_goto (tgt := 28) G dX2_signAt_24 (by decide) ?_
    exact hE _ _ _ _ dX2_signAt_28 rfl ⟨(sgA_T n9).symm, rfl⟩

theorem k_X2_isDigit : zCal yX2_isDigit wsX2_isDigit cX2_isDigit 1 (some .boolean) 1 := ⟨⟨_, rfl⟩, by decide +kernel⟩
set_option maxHeartbeats 4000000 in
set_option maxRecDepth 100000 in
theorem c_X2_isDigit (l : Launch) (D : va_G) (y : Nat → ClassId) (x : Int32) : zDi l D y yX2_isDigit wsX2_isDigit ({ frames := 0, cells := 0, slots := 0, locals := 0 }) [.int (x)] ([]) (bI (dgB x)) ([]) := by
  refine zMi.mk (cc := cX2_isDigit) (maxL := 1) (lv := [(0, .int (x))]) (by decide) rfl (Nat.le_of_ble_eq_true rfl) rfl (fun X G hE => ?_)
  refine z_iload_n G dX2_isDigit_0 0 rfl ?_
  refine z_bipush (v := nI 48) G dX2_isDigit_1 rfl ?_
  refine z_icmp_lt G dX2_isDigit_3 16 (by decide) (fun c3 => ?_) (fun c3 => ?_)
  · refine z_iconst (v := nI 0) G dX2_isDigit_16 rfl ?_
    exact hE _ _ _ _ dX2_isDigit_17 rfl ⟨(bI_f (dgB_1 c3)), rfl⟩
  · refine z_iload_n G dX2_isDigit_6 0 rfl ?_
    refine z_bipush (v := nI 57) G dX2_isDigit_7 rfl ?_
    refine z_icmp_gt G dX2_isDigit_9 16 (by decide) (fun c9 => ?_) (fun c9 => ?_)
    · refine z_iconst (v := nI 0) G dX2_isDigit_16 rfl ?_
      exact hE _ _ _ _ dX2_isDigit_17 rfl ⟨(bI_f (dgB_2 c9)), rfl⟩
    · refine z_iconst (v := nI 1) G dX2_isDigit_12 rfl ?_
      refine z_goto (tgt := 17) G dX2_isDigit_13 (by decide) ?_
      exact hE _ _ _ _ dX2_isDigit_17 rfl ⟨(bI_t (dgB_T (Int32.not_lt.mp c3) (Int32.not_lt.mp c9))), rfl⟩

theorem k_X2_digitAt : zCal yX2_digitAt wsX2_digitAt cX2_digitAt 3 (some .int) 1 := ⟨⟨_, rfl⟩, by decide +kernel⟩
theorem in_X2_digitAt_X2 : ∀ w ∈ wsX20, w ∈ wsX2_digitAt := fun _ h => List.mem_cons_of_mem _ (List.mem_append_right _ h)
set_option maxHeartbeats 4000000 in
set_option maxRecDepth 100000 in
theorem c_X2_digitAt (l : Launch) (D : va_G) (y : Nat → ClassId) (p : Nat → Nat) (t : Nat → Int32) {len : Nat} (h80 : len ≤ 80) {i : Nat} (hi : i < 2 ^ 30) : zDi l D y yX2_digitAt wsX2_digitAt ({ frames := 1, cells := 0, slots := 0, locals := 21 }) [.ref (p 0), .int (nI (i))] (pdW y p t (nI len)) (dgA t len i) (pdW y p t (nI len)) := by
  refine zMi.mk (cc := cX2_digitAt) (maxL := 3) (lv := [(0, .ref (p 0)), (1, .int (nI (i)))]) (by decide) rfl (Nat.le_of_ble_eq_true rfl) rfl (fun X G hE => ?_)
  have hin := in_X2_digitAt_X2
  refine z_aload_n G dX2_digitAt_0 0 rfl ?_
  refine z_iload_n G dX2_digitAt_1 1 rfl ?_
  refine z_dVi (As := [_]) G _ _ (fun l => c_X2_signAt l D y p t h80 hi) k_X2_signAt gX2_digitAt_X2_signAt 0 2 rfl rfl rfl dX2_digitAt_2 ⟨by decide, by decide⟩ ⟨rfl, rfl⟩ ⟨Nat.zero_le _, Nat.zero_le _⟩ rfl (Nat.le_of_ble_eq_true rfl) rfl ?_
  refine z_istore_nA G dX2_digitAt_5 rfl (by decide) rfl ?_
  refine z_iload_n G dX2_digitAt_6 2 rfl ?_
  refine z_pSi (As := [_]) G _ _ _ (fun l => c_X2_isDigit l D y (sgA t len i)) k_X2_isDigit gX2_digitAt_X2_isDigit dX2_digitAt_7 ⟨by decide, by decide⟩ ⟨rfl, rfl⟩ ⟨Nat.zero_le _, Nat.zero_le _⟩ rfl (Nat.le_of_ble_eq_true rfl) rfl (List.Perm.refl _) (List.Perm.refl _) ?_
  refine z_if_eq G dX2_digitAt_10 20 (by decide) (fun c10 => ?_) (fun c10 => ?_)
  · refine z_bipush (v := (-6)) G dX2_digitAt_20 rfl ?_
    exact hE _ _ _ _ dX2_digitAt_22 rfl ⟨(by rw [dgA, if_neg (by rw [bI_0 c10]; decide)]), rfl⟩
  · refine z_iload_n G dX2_digitAt_13 2 rfl ?_
    refine z_bipush (v := nI 48) G dX2_digitAt_14 rfl ?_
    refine z_isub G dX2_digitAt_16 ?_
    refine z_goto (tgt := 22) G dX2_digitAt_17 (by decide) ?_
    exact hE _ _ _ _ dX2_digitAt_22 rfl ⟨(by rw [dgA, if_pos (bI_n c10)]), rfl⟩

theorem k_X2_numberAt : zCal yX2_numberAt wsX2_numberAt cX2_numberAt 4 (some .int) 1 := ⟨⟨_, rfl⟩, by decide +kernel⟩
theorem in_X2_numberAt_X2 : ∀ w ∈ wsX20, w ∈ wsX2_numberAt := fun _ h => List.mem_cons_of_mem _ (List.mem_append_right _ h)
set_option maxHeartbeats 4000000 in
set_option maxRecDepth 100000 in
theorem c_X2_numberAt (l : Launch) (D : va_G) (y : Nat → ClassId) (p : Nat → Nat) (t : Nat → Int32) {len : Nat} (h80 : len ≤ 80) {i : Nat} (hi : i < 2 ^ 29) : zDi l D y yX2_numberAt wsX2_numberAt ({ frames := 2, cells := 0, slots := 0, locals := 43 }) [.ref (p 0), .int (nI (i))] (pdW y p t (nI len)) (nuM t len i) (pdW y p t (nI len)) := by
  refine zMi.mk (cc := cX2_numberAt) (maxL := 4) (lv := [(0, .ref (p 0)), (1, .int (nI (i)))]) (by decide) rfl (Nat.le_of_ble_eq_true rfl) rfl (fun X G hE => ?_)
  have hin := in_X2_numberAt_X2
  refine z_aload_n G dX2_numberAt_0 0 rfl ?_
  refine z_iload_n G dX2_numberAt_1 1 rfl ?_
  refine z_dVi (As := [_]) G _ _ (fun l => c_X2_digitAt l D y p t h80 (i := i) (by omega)) k_X2_digitAt gX2_numberAt_X2_digitAt 0 2 rfl rfl rfl dX2_numberAt_2 ⟨by decide, by decide⟩ ⟨rfl, rfl⟩ ⟨Nat.zero_le _, Nat.zero_le _⟩ rfl (Nat.le_of_ble_eq_true rfl) rfl ?_
  refine z_istore_nA G dX2_numberAt_5 rfl (by decide) rfl ?_
  refine z_aload_n G dX2_numberAt_6 0 rfl ?_
  refine z_iload_n G dX2_numberAt_7 1 rfl ?_
  refine z_iconst (v := nI 1) G dX2_numberAt_8 rfl ?_
  refine z_iaddN G dX2_numberAt_9 (i + 1) (by omega) ?_
  refine z_dVi (As := [_]) G _ _ (fun l => c_X2_digitAt l D y p t h80 (i := i + 1) (by omega)) k_X2_digitAt gX2_numberAt_X2_digitAt 0 2 rfl rfl rfl dX2_numberAt_10 ⟨by decide, by decide⟩ ⟨rfl, rfl⟩ ⟨Nat.zero_le _, Nat.zero_le _⟩ rfl (Nat.le_of_ble_eq_true rfl) rfl ?_
  refine z_istore_nA G dX2_numberAt_13 rfl (by decide) rfl ?_
  refine z_iload_n G dX2_numberAt_14 3 rfl ?_
  refine z_if_lt G dX2_numberAt_15 27 (by decide) (fun c15 => ?_) (fun c15 => ?_)
  · refine z_iload_n G dX2_numberAt_27 2 rfl ?_
    exact hE _ _ _ _ dX2_numberAt_28 rfl ⟨(by rw [nuM, if_pos c15]), rfl⟩
  · refine z_bipush (v := nI 10) G dX2_numberAt_18 rfl ?_
    refine z_iload_n G dX2_numberAt_20 2 rfl ?_
    refine z_imul G dX2_numberAt_21 ?_
    refine z_iload_n G dX2_numberAt_22 3 rfl ?_
    refine z_iadd G dX2_numberAt_23 ?_
    refine z_goto (tgt := 28) G dX2_numberAt_24 (by decide) ?_
    exact hE _ _ _ _ dX2_numberAt_28 rfl ⟨(by rw [nuM, if_neg c15]), rfl⟩

theorem k_X2_orders : zCal yX2_orders wsX2_orders cX2_orders 3 (some .int) 0 := ⟨⟨_, rfl⟩, by decide +kernel⟩
theorem in_X2_orders_X2 : ∀ w ∈ wsX20, w ∈ wsX2_orders := fun _ h => List.mem_cons_of_mem _ (List.mem_append_right _ h)
set_option maxHeartbeats 4000000 in
set_option maxRecDepth 100000 in
theorem c_X2_orders (l : Launch) (D : va_G) (y : Nat → ClassId) (p : Nat → Nat) (t : Nat → Int32) {len : Nat} (h80 : len ≤ 80) : zDi l D y yX2_orders wsX2_orders ({ frames := 1, cells := 0, slots := 0, locals := 21 }) [.ref (p 0)] (pdW y p t (nI len)) (nI (cnt (semi t) len + 1)) (pdW y p t (nI len)) := by
  refine zMi.mk (cc := cX2_orders) (maxL := 3) (lv := [(0, .ref (p 0))]) (by decide) rfl (Nat.le_of_ble_eq_true rfl) rfl (fun X G hE => ?_)
  have hin := in_X2_orders_X2
  refine z_iconst (v := nI 1) G dX2_orders_0 rfl ?_
  refine z_istore_nA G dX2_orders_1 rfl (by decide) rfl ?_
  refine z_iconst (v := nI 0) G dX2_orders_2 rfl ?_
  refine z_istore_nA G dX2_orders_3 rfl (by decide) rfl ?_
  have lo : ∀ nj j : Nat, nj + j = len → zV D X (pdW y p t (nI len)) 0 0 4 [(0, .ref (p 0)), (1, .int (nI ((cnt (semi t) (j) + 1)))), (2, .int (nI (j)))] [] := by
    intro nj
    induction nj with
    | zero =>
      intro j hj
      obtain rfl : j = len := by omega
      refine z_iload_n G dX2_orders_4 2 rfl ?_
      refine z_aload_n G dX2_orders_5 0 rfl ?_
      refine dg_length G hin (List.mem_of_getElem? (i := 1) rfl) dX2_orders_6 ?_
      refine z_icmp_geT G dX2_orders_9 31 (by decide) (nI_le (Nat.le_refl _) (by omega)) ?_
      refine z_iload_n G dX2_orders_31 1 rfl ?_
      exact hE _ _ _ _ dX2_orders_32 rfl ⟨rfl, rfl⟩
    | succ nj ihj =>
      intro j hj
      have lj : j < len := by omega
      refine z_iload_n G dX2_orders_4 2 rfl ?_
      refine z_aload_n G dX2_orders_5 0 rfl ?_
      refine dg_length G hin (List.mem_of_getElem? (i := 1) rfl) dX2_orders_6 ?_
      refine z_icmp_geF G dX2_orders_9 31 (by decide) (nI_ge lj (by omega)) ?_
      refine z_aload_n G dX2_orders_12 0 rfl ?_
      refine z_iload_n G dX2_orders_13 2 rfl ?_
      refine z_dVi (As := [_]) G _ _ (fun l => c_X2_signAt l D y p t h80 (i := j) (by omega)) k_X2_signAt gX2_orders_X2_signAt 0 2 rfl rfl rfl dX2_orders_14 ⟨by decide, by decide⟩ ⟨rfl, rfl⟩ ⟨Nat.zero_le _, Nat.zero_le _⟩ rfl (Nat.le_of_ble_eq_true rfl) rfl ?_
      refine z_bipush (v := nI 59) G dX2_orders_17 rfl ?_
      refine z_icmp_ne G dX2_orders_19 25 (by decide) (fun c19 => ?_) (fun c19 => ?_)
      · have n19 : semi t j = false := decide_eq_false (fun z => c19 ((sgA_T lj).trans z))
        refine z_iinc G dX2_orders_25 2 rfl (nI (j + 1)) (nI_inc _) (by decide) rfl ?_
        refine z_goto (tgt := 4) G dX2_orders_28 (by decide) ?_
        refine z_lv (lv' := [(0, .ref (p 0)), (1, .int (nI (cnt (semi t) (j + 1) + 1))), (2, .int (nI (j + 1)))]) (by rw [cnt_f n19]; rfl) ?_
        exact ihj (j + 1) (by omega)
      · have n19 : semi t j = true := decide_eq_true ((sgA_T lj).symm.trans c19)
        refine z_iinc G dX2_orders_22 1 rfl (nI ((cnt (semi t) (j + 1) + 1))) (by rw [cnt_t n19]; exact nI_inc _) (by decide) rfl ?_
        refine z_iinc G dX2_orders_25 2 rfl (nI (j + 1)) (nI_inc _) (by decide) rfl ?_
        refine z_goto (tgt := 4) G dX2_orders_28 (by decide) ?_
        exact ihj (j + 1) (by omega)
  exact lo len 0 rfl

theorem k_X2_startOf : zCal yX2_startOf wsX2_startOf cX2_startOf 4 (some .int) 1 := ⟨⟨_, rfl⟩, by decide +kernel⟩
theorem in_X2_startOf_X2 : ∀ w ∈ wsX20, w ∈ wsX2_startOf := fun _ h => List.mem_cons_of_mem _ (List.mem_append_right _ h)
set_option maxHeartbeats 4000000 in
set_option maxRecDepth 100000 in
theorem c_X2_startOf (l : Launch) (D : va_G) (y : Nat → ClassId) (p : Nat → Nat) (t : Nat → Int32) {len : Nat} (h80 : len ≤ 80) {k : Nat} (hk : k < 2 ^ 30) : zDi l D y yX2_startOf wsX2_startOf ({ frames := 1, cells := 0, slots := 0, locals := 21 }) [.ref (p 0), .int (nI (k))] (pdW y p t (nI len)) (nI (soN t len 0 k)) (pdW y p t (nI len)) := by
  refine zMi.mk (cc := cX2_startOf) (maxL := 4) (lv := [(0, .ref (p 0)), (1, .int (nI (k)))]) (by decide) rfl (Nat.le_of_ble_eq_true rfl) rfl (fun X G hE => ?_)
  have hin := in_X2_startOf_X2
  refine z_iload_n G dX2_startOf_0 1 rfl ?_
  refine z_istore_nA G dX2_startOf_1 rfl (by decide) rfl ?_
  refine z_iconst (v := nI 0) G dX2_startOf_2 rfl ?_
  refine z_istore_nA G dX2_startOf_3 rfl (by decide) rfl ?_
  have lo : ∀ nj j : Nat, nj + j = len → ∀ a : Nat, a ≤ k → soN t len 0 k = soN t nj j a → zV D X (pdW y p t (nI len)) 0 0 4 [(0, .ref (p 0)), (1, .int (nI (k))), (2, .int (nI (a))), (3, .int (nI (j)))] [] := by
    intro nj
    induction nj with
    | zero =>
      intro j hj a ha hs
      obtain rfl : j = len := by omega
      refine z_iload_n G dX2_startOf_4 3 rfl ?_
      refine z_aload_n G dX2_startOf_5 0 rfl ?_
      refine dg_length G hin (List.mem_of_getElem? (i := 1) rfl) dX2_startOf_6 ?_
      refine z_icmp_geT G dX2_startOf_9 37 (by decide) (nI_le (Nat.le_refl _) (by omega)) ?_
      refine z_aload_n G dX2_startOf_37 0 rfl ?_
      refine dg_length G hin (List.mem_of_getElem? (i := 1) rfl) dX2_startOf_38 ?_
      exact hE _ _ _ _ dX2_startOf_41 rfl ⟨(congrArg nI hs).symm, rfl⟩
    | succ nj ihj =>
      intro j hj a ha hs
      have lj : j < len := by omega
      refine z_iload_n G dX2_startOf_4 3 rfl ?_
      refine z_aload_n G dX2_startOf_5 0 rfl ?_
      refine dg_length G hin (List.mem_of_getElem? (i := 1) rfl) dX2_startOf_6 ?_
      refine z_icmp_geF G dX2_startOf_9 37 (by decide) (nI_ge lj (by omega)) ?_
      refine z_iload_n G dX2_startOf_12 2 rfl ?_
      refine z_if_ne G dX2_startOf_13 18 (by decide) (fun c13 => ?_) (fun c13 => ?_)
      · have n13 : ¬ a = 0 := fun z => c13 (by rw [z]; rfl)
        refine z_aload_n G dX2_startOf_18 0 rfl ?_
        refine z_iload_n G dX2_startOf_19 3 rfl ?_
        refine z_dVi (As := [_]) G _ _ (fun l => c_X2_signAt l D y p t h80 (i := j) (by omega)) k_X2_signAt gX2_startOf_X2_signAt 0 2 rfl rfl rfl dX2_startOf_20 ⟨by decide, by decide⟩ ⟨rfl, rfl⟩ ⟨Nat.zero_le _, Nat.zero_le _⟩ rfl (Nat.le_of_ble_eq_true rfl) rfl ?_
        refine z_bipush (v := nI 59) G dX2_startOf_23 rfl ?_
        refine z_icmp_ne G dX2_startOf_25 31 (by decide) (fun c25 => ?_) (fun c25 => ?_)
        · have n25 : ¬ t j = nI 59 := fun z => c25 ((sgA_T lj).trans z)
          refine z_iinc G dX2_startOf_31 3 rfl (nI (j + 1)) (nI_inc _) (by decide) rfl ?_
          refine z_goto (tgt := 4) G dX2_startOf_34 (by decide) ?_
          exact ihj (j + 1) (by omega) a ha (by rw [hs, soN, if_neg n13, if_neg n25])
        · have n25 : t j = nI 59 := (sgA_T lj).symm.trans c25
          refine z_iinc G dX2_startOf_28 2 rfl (nI ((a - 1))) (by rw [show a = (a - 1) + 1 by omega]; exact pk_m1 _) (by decide) rfl ?_
          refine z_iinc G dX2_startOf_31 3 rfl (nI (j + 1)) (nI_inc _) (by decide) rfl ?_
          refine z_goto (tgt := 4) G dX2_startOf_34 (by decide) ?_
          exact ihj (j + 1) (by omega) (a - 1) (by omega) (by rw [hs, soN, if_neg n13, if_pos n25])
      · have n13 : a = 0 := (nI_eq (by omega) (by decide)).mp c13
        refine z_iload_n G dX2_startOf_16 3 rfl ?_
        exact hE _ _ _ _ dX2_startOf_17 rfl ⟨(by rw [hs, soN, if_pos n13]), rfl⟩
  exact lo len 0 rfl k (Nat.le_refl _) rfl

theorem k_X2_dueBehindLetter : zCal yX2_dueBehindLetter wsX2_dueBehindLetter cX2_dueBehindLetter 1 (some .int) 1 := ⟨⟨_, rfl⟩, by decide +kernel⟩
set_option maxHeartbeats 4000000 in
set_option maxRecDepth 100000 in
theorem c_X2_dueBehindLetter (l : Launch) (D : va_G) (y : Nat → ClassId) (x : Int32) : zDi l D y yX2_dueBehindLetter wsX2_dueBehindLetter ({ frames := 0, cells := 0, slots := 0, locals := 0 }) [.int (x)] ([]) (nI (dlN x)) ([]) := by
  refine zMi.mk (cc := cX2_dueBehindLetter) (maxL := 1) (lv := [(0, .int (x))]) (by decide) rfl (Nat.le_of_ble_eq_true rfl) rfl (fun X G hE => ?_)
  refine z_iload_n G dX2_dueBehindLetter_0 0 rfl ?_
  rcases x_sw2 98 120 (by decide) (x) with hsw | ⟨k, hk1, hk2, rfl⟩
  · refine z_tableOut G 116 dX2_dueBehindLetter_1 hsw (by decide) ?_
    refine z_bipush (v := nI 6) G dX2_dueBehindLetter_116 rfl ?_
    exact hE _ _ _ _ dX2_dueBehindLetter_118 rfl ⟨(by rw [dlN_out hsw]), rfl⟩
  · rcases (by omega : k = 98 ∨ k = 99 ∨ k = 100 ∨ k = 101 ∨ k = 102 ∨ k = 103 ∨ k = 104 ∨ k = 105 ∨ k = 106 ∨ k = 107 ∨ k = 108 ∨ k = 109 ∨ k = 110 ∨ k = 111 ∨ k = 112 ∨ k = 113 ∨ k = 114 ∨ k = 115 ∨ k = 116 ∨ k = 117 ∨ k = 118 ∨ k = 119 ∨ k = 120) with rfl | rfl | rfl | rfl | rfl | rfl | rfl | rfl | rfl | rfl | rfl | rfl | rfl | rfl | rfl | rfl | rfl | rfl | rfl | rfl | rfl | rfl | rfl
    · refine z_tableIn G 112 dX2_dueBehindLetter_1 (by decide) (by decide) rfl (by decide) ?_
      refine z_iconst (v := nI 1) G dX2_dueBehindLetter_112 rfl ?_
      exact hE _ _ _ _ dX2_dueBehindLetter_113 rfl ⟨rfl, rfl⟩
    · refine z_tableIn G 116 dX2_dueBehindLetter_1 (by decide) (by decide) rfl (by decide) ?_
      refine z_bipush (v := nI 6) G dX2_dueBehindLetter_116 rfl ?_
      exact hE _ _ _ _ dX2_dueBehindLetter_118 rfl ⟨rfl, rfl⟩
    · refine z_tableIn G 116 dX2_dueBehindLetter_1 (by decide) (by decide) rfl (by decide) ?_
      refine z_bipush (v := nI 6) G dX2_dueBehindLetter_116 rfl ?_
      exact hE _ _ _ _ dX2_dueBehindLetter_118 rfl ⟨rfl, rfl⟩
    · refine z_tableIn G 116 dX2_dueBehindLetter_1 (by decide) (by decide) rfl (by decide) ?_
      refine z_bipush (v := nI 6) G dX2_dueBehindLetter_116 rfl ?_
      exact hE _ _ _ _ dX2_dueBehindLetter_118 rfl ⟨rfl, rfl⟩
    · refine z_tableIn G 116 dX2_dueBehindLetter_1 (by decide) (by decide) rfl (by decide) ?_
      refine z_bipush (v := nI 6) G dX2_dueBehindLetter_116 rfl ?_
      exact hE _ _ _ _ dX2_dueBehindLetter_118 rfl ⟨rfl, rfl⟩
    · refine z_tableIn G 108 dX2_dueBehindLetter_1 (by decide) (by decide) rfl (by decide) ?_
      refine z_iconst (v := nI 3) G dX2_dueBehindLetter_108 rfl ?_
      exact hE _ _ _ _ dX2_dueBehindLetter_109 rfl ⟨rfl, rfl⟩
    · refine z_tableIn G 116 dX2_dueBehindLetter_1 (by decide) (by decide) rfl (by decide) ?_
      refine z_bipush (v := nI 6) G dX2_dueBehindLetter_116 rfl ?_
      exact hE _ _ _ _ dX2_dueBehindLetter_118 rfl ⟨rfl, rfl⟩
    · refine z_tableIn G 116 dX2_dueBehindLetter_1 (by decide) (by decide) rfl (by decide) ?_
      refine z_bipush (v := nI 6) G dX2_dueBehindLetter_116 rfl ?_
      exact hE _ _ _ _ dX2_dueBehindLetter_118 rfl ⟨rfl, rfl⟩
    · refine z_tableIn G 116 dX2_dueBehindLetter_1 (by decide) (by decide) rfl (by decide) ?_
      refine z_bipush (v := nI 6) G dX2_dueBehindLetter_116 rfl ?_
      exact hE _ _ _ _ dX2_dueBehindLetter_118 rfl ⟨rfl, rfl⟩
    · refine z_tableIn G 116 dX2_dueBehindLetter_1 (by decide) (by decide) rfl (by decide) ?_
      refine z_bipush (v := nI 6) G dX2_dueBehindLetter_116 rfl ?_
      exact hE _ _ _ _ dX2_dueBehindLetter_118 rfl ⟨rfl, rfl⟩
    · refine z_tableIn G 116 dX2_dueBehindLetter_1 (by decide) (by decide) rfl (by decide) ?_
      refine z_bipush (v := nI 6) G dX2_dueBehindLetter_116 rfl ?_
      exact hE _ _ _ _ dX2_dueBehindLetter_118 rfl ⟨rfl, rfl⟩
    · refine z_tableIn G 116 dX2_dueBehindLetter_1 (by decide) (by decide) rfl (by decide) ?_
      refine z_bipush (v := nI 6) G dX2_dueBehindLetter_116 rfl ?_
      exact hE _ _ _ _ dX2_dueBehindLetter_118 rfl ⟨rfl, rfl⟩
    · refine z_tableIn G 116 dX2_dueBehindLetter_1 (by decide) (by decide) rfl (by decide) ?_
      refine z_bipush (v := nI 6) G dX2_dueBehindLetter_116 rfl ?_
      exact hE _ _ _ _ dX2_dueBehindLetter_118 rfl ⟨rfl, rfl⟩
    · refine z_tableIn G 112 dX2_dueBehindLetter_1 (by decide) (by decide) rfl (by decide) ?_
      refine z_iconst (v := nI 1) G dX2_dueBehindLetter_112 rfl ?_
      exact hE _ _ _ _ dX2_dueBehindLetter_113 rfl ⟨rfl, rfl⟩
    · refine z_tableIn G 116 dX2_dueBehindLetter_1 (by decide) (by decide) rfl (by decide) ?_
      refine z_bipush (v := nI 6) G dX2_dueBehindLetter_116 rfl ?_
      exact hE _ _ _ _ dX2_dueBehindLetter_118 rfl ⟨rfl, rfl⟩
    · refine z_tableIn G 116 dX2_dueBehindLetter_1 (by decide) (by decide) rfl (by decide) ?_
      refine z_bipush (v := nI 6) G dX2_dueBehindLetter_116 rfl ?_
      exact hE _ _ _ _ dX2_dueBehindLetter_118 rfl ⟨rfl, rfl⟩
    · refine z_tableIn G 114 dX2_dueBehindLetter_1 (by decide) (by decide) rfl (by decide) ?_
      refine z_iconst (v := nI 5) G dX2_dueBehindLetter_114 rfl ?_
      exact hE _ _ _ _ dX2_dueBehindLetter_115 rfl ⟨rfl, rfl⟩
    · refine z_tableIn G 116 dX2_dueBehindLetter_1 (by decide) (by decide) rfl (by decide) ?_
      refine z_bipush (v := nI 6) G dX2_dueBehindLetter_116 rfl ?_
      exact hE _ _ _ _ dX2_dueBehindLetter_118 rfl ⟨rfl, rfl⟩
    · refine z_tableIn G 108 dX2_dueBehindLetter_1 (by decide) (by decide) rfl (by decide) ?_
      refine z_iconst (v := nI 3) G dX2_dueBehindLetter_108 rfl ?_
      exact hE _ _ _ _ dX2_dueBehindLetter_109 rfl ⟨rfl, rfl⟩
    · refine z_tableIn G 116 dX2_dueBehindLetter_1 (by decide) (by decide) rfl (by decide) ?_
      refine z_bipush (v := nI 6) G dX2_dueBehindLetter_116 rfl ?_
      exact hE _ _ _ _ dX2_dueBehindLetter_118 rfl ⟨rfl, rfl⟩
    · refine z_tableIn G 116 dX2_dueBehindLetter_1 (by decide) (by decide) rfl (by decide) ?_
      refine z_bipush (v := nI 6) G dX2_dueBehindLetter_116 rfl ?_
      exact hE _ _ _ _ dX2_dueBehindLetter_118 rfl ⟨rfl, rfl⟩
    · refine z_tableIn G 110 dX2_dueBehindLetter_1 (by decide) (by decide) rfl (by decide) ?_
      refine z_iconst (v := nI 2) G dX2_dueBehindLetter_110 rfl ?_
      exact hE _ _ _ _ dX2_dueBehindLetter_111 rfl ⟨rfl, rfl⟩
    · refine z_tableIn G 110 dX2_dueBehindLetter_1 (by decide) (by decide) rfl (by decide) ?_
      refine z_iconst (v := nI 2) G dX2_dueBehindLetter_110 rfl ?_
      exact hE _ _ _ _ dX2_dueBehindLetter_111 rfl ⟨rfl, rfl⟩

theorem k_X2_dueBehind : zCal yX2_dueBehind wsX2_dueBehind cX2_dueBehind 2 (some .int) 2 := ⟨⟨_, rfl⟩, by decide +kernel⟩
set_option maxHeartbeats 4000000 in
set_option maxRecDepth 100000 in
theorem c_X2_dueBehind (l : Launch) (D : va_G) (y : Nat → ClassId) {d : Nat} (hd : d ≤ 6) (x : Int32) : zDi l D y yX2_dueBehind wsX2_dueBehind ({ frames := 1, cells := 0, slots := 0, locals := 20 }) [.int (nI (d)), .int (x)] ([]) (nI (duN d x)) ([]) := by
  refine zMi.mk (cc := cX2_dueBehind) (maxL := 2) (lv := [(0, .int (nI (d))), (1, .int (x))]) (by decide) rfl (Nat.le_of_ble_eq_true rfl) rfl (fun X G hE => ?_)
  refine z_iload_n G dX2_dueBehind_0 0 rfl ?_
  rcases (by omega : d = 0 ∨ d = 1 ∨ d = 2 ∨ d = 3 ∨ d = 4 ∨ d = 5 ∨ d = 6) with rfl | rfl | rfl | rfl | rfl | rfl | rfl
  · refine z_tableIn G 40 dX2_dueBehind_1 (by decide) (by decide) rfl (by decide) ?_
    refine z_iload_n G dX2_dueBehind_40 1 rfl ?_
    refine z_pSi (As := [_]) G _ _ _ (fun l => c_X2_dueBehindLetter l D y x) k_X2_dueBehindLetter gX2_dueBehind_X2_dueBehindLetter dX2_dueBehind_41 ⟨by decide, by decide⟩ ⟨rfl, rfl⟩ ⟨Nat.zero_le _, Nat.zero_le _⟩ rfl (Nat.le_of_ble_eq_true rfl) rfl (List.Perm.refl _) (List.Perm.refl _) ?_
    exact hE _ _ _ _ dX2_dueBehind_44 rfl ⟨rfl, rfl⟩
  · refine z_tableIn G 45 dX2_dueBehind_1 (by decide) (by decide) rfl (by decide) ?_
    refine z_iload_n G dX2_dueBehind_45 1 rfl ?_
    refine z_pSi (As := [_]) G _ _ _ (fun l => c_X2_isDigit l D y (x)) k_X2_isDigit gX2_dueBehind_X2_isDigit dX2_dueBehind_46 ⟨by decide, by decide⟩ ⟨rfl, rfl⟩ ⟨Nat.zero_le _, Nat.zero_le _⟩ rfl (Nat.le_of_ble_eq_true rfl) rfl (List.Perm.refl _) (List.Perm.refl _) ?_
    refine z_if_eq G dX2_dueBehind_49 56 (by decide) (fun c49 => ?_) (fun c49 => ?_)
    · refine z_bipush (v := nI 6) G dX2_dueBehind_56 rfl ?_
      exact hE _ _ _ _ dX2_dueBehind_58 rfl ⟨du1f (bI_0 c49), rfl⟩
    · refine z_iconst (v := nI 2) G dX2_dueBehind_52 rfl ?_
      refine z_goto (tgt := 58) G dX2_dueBehind_53 (by decide) ?_
      exact hE _ _ _ _ dX2_dueBehind_58 rfl ⟨du1t (bI_n c49), rfl⟩
  · refine z_tableIn G 59 dX2_dueBehind_1 (by decide) (by decide) rfl (by decide) ?_
    refine z_iload_n G dX2_dueBehind_59 1 rfl ?_
    refine z_pSi (As := [_]) G _ _ _ (fun l => c_X2_isDigit l D y (x)) k_X2_isDigit gX2_dueBehind_X2_isDigit dX2_dueBehind_60 ⟨by decide, by decide⟩ ⟨rfl, rfl⟩ ⟨Nat.zero_le _, Nat.zero_le _⟩ rfl (Nat.le_of_ble_eq_true rfl) rfl (List.Perm.refl _) (List.Perm.refl _) ?_
    refine z_if_eq G dX2_dueBehind_63 70 (by decide) (fun c63 => ?_) (fun c63 => ?_)
    · refine z_bipush (v := nI 6) G dX2_dueBehind_70 rfl ?_
      exact hE _ _ _ _ dX2_dueBehind_72 rfl ⟨du2f (bI_0 c63), rfl⟩
    · refine z_iconst (v := nI 5) G dX2_dueBehind_66 rfl ?_
      refine z_goto (tgt := 72) G dX2_dueBehind_67 (by decide) ?_
      exact hE _ _ _ _ dX2_dueBehind_72 rfl ⟨du2t (bI_n c63), rfl⟩
  · refine z_tableIn G 73 dX2_dueBehind_1 (by decide) (by decide) rfl (by decide) ?_
    refine z_iload_n G dX2_dueBehind_73 1 rfl ?_
    refine z_bipush (v := nI 48) G dX2_dueBehind_74 rfl ?_
    refine z_icmp_ne G dX2_dueBehind_76 83 (by decide) (fun c76 => ?_) (fun c76 => ?_)
    · refine z_iload_n G dX2_dueBehind_83 1 rfl ?_
      refine z_pSi (As := [_]) G _ _ _ (fun l => c_X2_isDigit l D y (x)) k_X2_isDigit gX2_dueBehind_X2_isDigit dX2_dueBehind_84 ⟨by decide, by decide⟩ ⟨rfl, rfl⟩ ⟨Nat.zero_le _, Nat.zero_le _⟩ rfl (Nat.le_of_ble_eq_true rfl) rfl (List.Perm.refl _) (List.Perm.refl _) ?_
      refine z_if_eq G dX2_dueBehind_87 94 (by decide) (fun c87 => ?_) (fun c87 => ?_)
      · refine z_bipush (v := nI 6) G dX2_dueBehind_94 rfl ?_
        exact hE _ _ _ _ dX2_dueBehind_96 rfl ⟨du3f c76 (bI_0 c87), rfl⟩
      · refine z_iconst (v := nI 4) G dX2_dueBehind_90 rfl ?_
        refine z_goto (tgt := 96) G dX2_dueBehind_91 (by decide) ?_
        exact hE _ _ _ _ dX2_dueBehind_96 rfl ⟨du3t c76 (bI_n c87), rfl⟩
    · refine z_iconst (v := nI 5) G dX2_dueBehind_79 rfl ?_
      refine z_goto (tgt := 96) G dX2_dueBehind_80 (by decide) ?_
      exact hE _ _ _ _ dX2_dueBehind_96 rfl ⟨du3z c76, rfl⟩
  · refine z_tableIn G 97 dX2_dueBehind_1 (by decide) (by decide) rfl (by decide) ?_
    refine z_iload_n G dX2_dueBehind_97 1 rfl ?_
    refine z_pSi (As := [_]) G _ _ _ (fun l => c_X2_isDigit l D y (x)) k_X2_isDigit gX2_dueBehind_X2_isDigit dX2_dueBehind_98 ⟨by decide, by decide⟩ ⟨rfl, rfl⟩ ⟨Nat.zero_le _, Nat.zero_le _⟩ rfl (Nat.le_of_ble_eq_true rfl) rfl (List.Perm.refl _) (List.Perm.refl _) ?_
    refine z_if_eq G dX2_dueBehind_101 108 (by decide) (fun c101 => ?_) (fun c101 => ?_)
    · refine z_iload_n G dX2_dueBehind_108 1 rfl ?_
      refine z_bipush (v := nI 59) G dX2_dueBehind_109 rfl ?_
      refine z_icmp_ne G dX2_dueBehind_111 118 (by decide) (fun c111 => ?_) (fun c111 => ?_)
      · refine z_bipush (v := nI 6) G dX2_dueBehind_118 rfl ?_
        exact hE _ _ _ _ dX2_dueBehind_120 rfl ⟨du4f (bI_0 c101) c111, rfl⟩
      · refine z_iconst (v := nI 0) G dX2_dueBehind_114 rfl ?_
        refine z_goto (tgt := 120) G dX2_dueBehind_115 (by decide) ?_
        exact hE _ _ _ _ dX2_dueBehind_120 rfl ⟨du4s (bI_0 c101) c111, rfl⟩
    · refine z_iconst (v := nI 5) G dX2_dueBehind_104 rfl ?_
      refine z_goto (tgt := 120) G dX2_dueBehind_105 (by decide) ?_
      exact hE _ _ _ _ dX2_dueBehind_120 rfl ⟨du4t (bI_n c101), rfl⟩
  · refine z_tableIn G 121 dX2_dueBehind_1 (by decide) (by decide) rfl (by decide) ?_
    refine z_iload_n G dX2_dueBehind_121 1 rfl ?_
    refine z_bipush (v := nI 59) G dX2_dueBehind_122 rfl ?_
    refine z_icmp_ne G dX2_dueBehind_124 131 (by decide) (fun c124 => ?_) (fun c124 => ?_)
    · refine z_bipush (v := nI 6) G dX2_dueBehind_131 rfl ?_
      exact hE _ _ _ _ dX2_dueBehind_133 rfl ⟨du5f c124, rfl⟩
    · refine z_iconst (v := nI 0) G dX2_dueBehind_127 rfl ?_
      refine z_goto (tgt := 133) G dX2_dueBehind_128 (by decide) ?_
      exact hE _ _ _ _ dX2_dueBehind_133 rfl ⟨du5s c124, rfl⟩
  · refine z_tableOut G 134 dX2_dueBehind_1 (by decide) (by decide) ?_
    refine z_bipush (v := nI 6) G dX2_dueBehind_134 rfl ?_
    exact hE _ _ _ _ dX2_dueBehind_136 rfl ⟨rfl, rfl⟩

theorem k_X2_firstFault : zCal yX2_firstFault wsX2_firstFault cX2_firstFault 3 (some .int) 0 := ⟨⟨_, rfl⟩, by decide +kernel⟩
theorem in_X2_firstFault_X2 : ∀ w ∈ wsX20, w ∈ wsX2_firstFault := fun _ h => List.mem_cons_of_mem _ (List.mem_append_right _ h)
set_option maxHeartbeats 4000000 in
set_option maxRecDepth 100000 in
theorem c_X2_firstFault (l : Launch) (D : va_G) (y : Nat → ClassId) (p : Nat → Nat) (t : Nat → Int32) {len : Nat} (h80 : len ≤ 80) : zDi l D y yX2_firstFault wsX2_firstFault ({ frames := 2, cells := 0, slots := 0, locals := 41 }) [.ref (p 0)] (pdW y p t (nI len)) (ffR t len) (pdW y p t (nI len)) := by
  refine zMi.mk (cc := cX2_firstFault) (maxL := 3) (lv := [(0, .ref (p 0))]) (by decide) rfl (Nat.le_of_ble_eq_true rfl) rfl (fun X G hE => ?_)
  have hin := in_X2_firstFault_X2
  refine z_iconst (v := nI 0) G dX2_firstFault_0 rfl ?_
  refine z_istore_nA G dX2_firstFault_1 rfl (by decide) rfl ?_
  refine z_iconst (v := nI 0) G dX2_firstFault_2 rfl ?_
  refine z_istore_nA G dX2_firstFault_3 rfl (by decide) rfl ?_
  have lo : ∀ nj j : Nat, nj + j = len → ∀ d : Nat, d ≤ 6 → ffR t len = ffN t len nj j d → zV D X (pdW y p t (nI len)) 0 0 4 [(0, .ref (p 0)), (1, .int (nI (d))), (2, .int (nI (j)))] [] := by
    intro nj
    induction nj with
    | zero =>
      intro j hj d hd hs
      obtain rfl : j = len := by omega
      refine z_iload_n G dX2_firstFault_4 2 rfl ?_
      refine z_aload_n G dX2_firstFault_5 0 rfl ?_
      refine dg_length G hin (List.mem_of_getElem? (i := 1) rfl) dX2_firstFault_6 ?_
      refine z_icmp_geT G dX2_firstFault_9 36 (by decide) (nI_le (Nat.le_refl _) (by omega)) ?_
      refine z_iload_n G dX2_firstFault_36 1 rfl ?_
      refine z_iconst (v := nI 5) G dX2_firstFault_37 rfl ?_
      refine z_icmp_eq G dX2_firstFault_38 46 (by decide) (fun c38 => ?_) (fun c38 => ?_)
      · refine z_bipush (v := (-6)) G dX2_firstFault_46 rfl ?_
        refine z_goto (tgt := 55) G dX2_firstFault_48 (by decide) ?_
        exact hE _ _ _ _ dX2_firstFault_55 rfl ⟨(by rw [hs, ffN, if_pos (Or.inl ((nI_eq (by omega) (by decide)).mp c38))]), rfl⟩
      · refine z_iload_n G dX2_firstFault_41 1 rfl ?_
        refine z_iconst (v := nI 4) G dX2_firstFault_42 rfl ?_
        refine z_icmp_ne G dX2_firstFault_43 51 (by decide) (fun c43 => ?_) (fun c43 => ?_)
        · refine z_aload_n G dX2_firstFault_51 0 rfl ?_
          refine dg_length G hin (List.mem_of_getElem? (i := 1) rfl) dX2_firstFault_52 ?_
          exact hE _ _ _ _ dX2_firstFault_55 rfl ⟨(by rw [hs, ffN, if_neg (fun z => z.elim (fun z => c38 (by rw [z])) (fun z => c43 (by rw [z])))]), rfl⟩
        · refine z_bipush (v := (-6)) G dX2_firstFault_46 rfl ?_
          refine z_goto (tgt := 55) G dX2_firstFault_48 (by decide) ?_
          exact hE _ _ _ _ dX2_firstFault_55 rfl ⟨(by rw [hs, ffN, if_pos (Or.inr ((nI_eq (by omega) (by decide)).mp c43))]), rfl⟩
    | succ nj ihj =>
      intro j hj d hd hs
      have lj : j < len := by omega
      refine z_iload_n G dX2_firstFault_4 2 rfl ?_
      refine z_aload_n G dX2_firstFault_5 0 rfl ?_
      refine dg_length G hin (List.mem_of_getElem? (i := 1) rfl) dX2_firstFault_6 ?_
      refine z_icmp_geF G dX2_firstFault_9 36 (by decide) (nI_ge lj (by omega)) ?_
      refine z_iload_n G dX2_firstFault_12 1 rfl ?_
      refine z_aload_n G dX2_firstFault_13 0 rfl ?_
      refine z_iload_n G dX2_firstFault_14 2 rfl ?_
      refine z_dVi (As := [_]) G _ _ (fun l => c_X2_signAt l D y p t h80 (i := j) (by omega)) k_X2_signAt gX2_firstFault_X2_signAt 0 2 rfl rfl rfl dX2_firstFault_15 ⟨by decide, by decide⟩ ⟨rfl, rfl⟩ ⟨Nat.zero_le _, Nat.zero_le _⟩ rfl (Nat.le_of_ble_eq_true rfl) rfl ?_
      refine z_top (w := .int (t j)) (congrArg Value.int (sgA_T lj)) ?_
      refine z_pSi (As := [_, _]) G _ _ _ (fun l => c_X2_dueBehind l D y hd (t j)) k_X2_dueBehind gX2_firstFault_X2_dueBehind dX2_firstFault_18 ⟨by decide, by decide⟩ ⟨rfl, rfl⟩ ⟨Nat.zero_le _, Nat.zero_le _⟩ rfl (Nat.le_of_ble_eq_true rfl) rfl (List.Perm.refl _) (List.Perm.refl _) ?_
      refine z_istore_n G dX2_firstFault_21 rfl (by decide) 1 rfl ?_
      refine z_iload_n G dX2_firstFault_22 1 rfl ?_
      refine z_bipush (v := nI 6) G dX2_firstFault_23 rfl ?_
      refine z_icmp_ne G dX2_firstFault_25 30 (by decide) (fun c25 => ?_) (fun c25 => ?_)
      · refine z_iinc G dX2_firstFault_30 2 rfl (nI (j + 1)) (nI_inc _) (by decide) rfl ?_
        refine z_goto (tgt := 4) G dX2_firstFault_33 (by decide) ?_
        exact ihj (j + 1) (by omega) (duN d (t j)) (duN_le _ _) (by rw [hs, ffN, if_neg (fun z => c25 (by rw [z]))])
      · refine z_iload_n G dX2_firstFault_28 2 rfl ?_
        exact hE _ _ _ _ dX2_firstFault_29 rfl ⟨(by rw [hs, ffN, if_pos ((nI_eq (by have := duN_le d (t j); omega) (by decide)).mp c25)]), rfl⟩
  exact lo len 0 rfl 0 (by decide) rfl

theorem k_X2_charactersIn : zCal yX2_charactersIn wsX2_charactersIn cX2_charactersIn 7 (some .int) 1 := ⟨⟨_, rfl⟩, by decide +kernel⟩
set_option maxHeartbeats 4000000 in
set_option maxRecDepth 100000 in
theorem c_X2_charactersIn (l : Launch) (D : va_G) (y : Nat → ClassId) {n : Nat} (hn : n < 2 ^ 64) : zDi l D y yX2_charactersIn wsX2_charactersIn ({ frames := 0, cells := 0, slots := 0, locals := 0 }) [.long (lN n)] ([]) (nI (ck 8 n 0)) ([]) := by
  refine zMi.mk (cc := cX2_charactersIn) (maxL := 7) (lv := [(0, .long (lN n))]) (by decide) rfl (Nat.le_of_ble_eq_true rfl) rfl (fun X G hE => ?_)
  refine z_lload_n G dX2_charactersIn_0 0 rfl ?_
  refine z_lstore_nA G dX2_charactersIn_1 rfl (by decide) rfl ?_
  refine z_iconst (v := nI 0) G dX2_charactersIn_2 rfl ?_
  refine z_istoreA G dX2_charactersIn_3 (by decide) rfl ?_
  have l1 : ∀ nm m : Nat, nm + m = 8 → ck 8 n 0 = ck nm (n / 256 ^ m) m → zV D X ([]) 0 0 5 [(0, .long (lN n)), (2, .long (lN (n / 256 ^ (m)))), (4, .int (nI (m)))] [] := by
    intro nm
    induction nm with
    | zero =>
      intro m hm hck
      obtain rfl : m = 8 := by omega
      refine z_iload G dX2_charactersIn_5 2 rfl ?_
      refine z_bipush (v := nI 8) G dX2_charactersIn_7 rfl ?_
      refine z_icmp_geT G dX2_charactersIn_9 60 (by decide) (nI_le (Nat.le_refl _) (by decide)) ?_
      refine z_lload_n G dX2_charactersIn_60 1 rfl ?_
      refine z_lconst (v := 0) G dX2_charactersIn_61 rfl ?_
      refine z_lcmp G dX2_charactersIn_62 ?_
      refine z_if_neF G dX2_charactersIn_63 71 (by decide) ((l_ne0 (dv_lt hn)).mpr (ck_8 (k := 0) hn)) ?_
      refine z_iload G dX2_charactersIn_66 2 rfl ?_
      refine z_goto (tgt := 72) G dX2_charactersIn_68 (by decide) ?_
      exact hE _ _ _ _ dX2_charactersIn_72 rfl ⟨(by rw [hck]; rfl), rfl⟩
    | succ nm ihm =>
      intro m hm hck
      have lm : m < 8 := by omega
      refine z_iload G dX2_charactersIn_5 2 rfl ?_
      refine z_bipush (v := nI 8) G dX2_charactersIn_7 rfl ?_
      refine z_icmp_geF G dX2_charactersIn_9 60 (by decide) (nI_ge lm (by decide)) ?_
      refine z_lload_n G dX2_charactersIn_12 1 rfl ?_
      refine z_ldc2 G (List.mem_of_getElem? (i := 1) rfl) dX2_charactersIn_13 ?_
      refine z_land G dX2_charactersIn_16 ?_
      refine z_top (w := .long (lN (n / 256 ^ m % 256))) (congrArg Value.long (l255 (dv_lt hn))) ?_
      refine z_lconst (v := 0) G dX2_charactersIn_17 rfl ?_
      refine z_lcmp G dX2_charactersIn_18 ?_
      refine z_if_eq G dX2_charactersIn_19 60 (by decide) (fun c19 => ?_) (fun c19 => ?_)
      · have n19 : n / 256 ^ m % 256 = 0 := (l_ne0 (Nat.lt_of_le_of_lt (Nat.mod_le _ _) (dv_lt hn))).mp c19
        refine z_lload_n G dX2_charactersIn_60 1 rfl ?_
        refine z_lconst (v := 0) G dX2_charactersIn_61 rfl ?_
        refine z_lcmp G dX2_charactersIn_62 ?_
        refine z_if_ne G dX2_charactersIn_63 71 (by decide) (fun c63 => ?_) (fun c63 => ?_)
        · refine z_iconst (v := nI 0) G dX2_charactersIn_71 rfl ?_
          exact hE _ _ _ _ dX2_charactersIn_72 rfl ⟨(by rw [hck, ck_z (nm + 1) n19, if_neg (fun z => z.elim (fun z => c63 ((l_ne0 (dv_lt hn)).mpr z)) (by omega))]), rfl⟩
        · refine z_iload G dX2_charactersIn_66 2 rfl ?_
          refine z_goto (tgt := 72) G dX2_charactersIn_68 (by decide) ?_
          exact hE _ _ _ _ dX2_charactersIn_72 rfl ⟨(by rw [hck, ck_z (nm + 1) n19, if_pos (Or.inl ((l_ne0 (dv_lt hn)).mp c63))]), rfl⟩
      · have n19 : ¬ n / 256 ^ m % 256 = 0 := fun z => c19 ((l_ne0 (Nat.lt_of_le_of_lt (Nat.mod_le _ _) (dv_lt hn))).mpr z)
        have n0 : ¬ n / 256 ^ m = 0 := fun z => n19 (by rw [z])
        refine z_lload_n G dX2_charactersIn_22 1 rfl ?_
        refine z_ldc2 G (List.mem_of_getElem? (i := 1) rfl) dX2_charactersIn_23 ?_
        refine z_land G dX2_charactersIn_26 ?_
        refine z_top (w := .long (lN (n / 256 ^ m % 256))) (congrArg Value.long (l255 (dv_lt hn))) ?_
        refine z_lstoreA G dX2_charactersIn_27 (by decide) rfl ?_
        refine z_lload G dX2_charactersIn_29 3 rfl ?_
        refine z_ldc2 G (List.mem_of_getElem? (i := 2) rfl) dX2_charactersIn_31 ?_
        refine z_lcmp G dX2_charactersIn_34 ?_
        refine z_if_lt G dX2_charactersIn_35 47 (by decide) (fun c35 => ?_) (fun c35 => ?_)
        · refine z_iconst (v := nI 0) G dX2_charactersIn_47 rfl ?_
          exact hE _ _ _ _ dX2_charactersIn_48 rfl ⟨(by rw [hck, ck, if_neg n0, if_pos (Or.inl ((l_lo (Nat.mod_lt _ (by decide))).mp c35))]), rfl⟩
        · refine z_lload G dX2_charactersIn_38 3 rfl ?_
          refine z_ldc2 G (List.mem_of_getElem? (i := 3) rfl) dX2_charactersIn_40 ?_
          refine z_lcmp G dX2_charactersIn_43 ?_
          refine z_if_le G dX2_charactersIn_44 49 (by decide) (fun c44 => ?_) (fun c44 => ?_)
          · refine z_lload_n G dX2_charactersIn_49 1 rfl ?_
            refine z_bipush (v := nI 8) G dX2_charactersIn_50 rfl ?_
            refine z_lushr G (lN (n / 256 ^ (m + 1))) dX2_charactersIn_52 (by rw [l_sh8 (dv_lt hn), dv_s]) ?_
            refine z_lstore_n G dX2_charactersIn_53 rfl (by decide) 1 rfl ?_
            refine z_iinc G dX2_charactersIn_54 2 rfl (nI (m + 1)) (nI_inc _) (by decide) rfl ?_
            refine z_goto (tgt := 5) G dX2_charactersIn_57 (by decide) ?_
            refine z_loc G [(0, .long (lN n)), (2, .long (lN (n / 256 ^ (m + 1)))), (4, .int (nI (m + 1)))] [0, 1, 2] rfl ?_
            exact ihm (m + 1) (by omega) (by rw [hck, ck, if_neg n0, if_neg (fun z => z.elim (fun z => c35 ((l_lo (Nat.mod_lt _ (by decide))).mpr z)) ((l_hi (Nat.mod_lt _ (by decide))).mp c44)), dv_s])
          · refine z_iconst (v := nI 0) G dX2_charactersIn_47 rfl ?_
            exact hE _ _ _ _ dX2_charactersIn_48 rfl ⟨(by rw [hck, ck, if_neg n0, if_pos (Or.inr (Decidable.of_not_not (fun z => c44 ((l_hi (Nat.mod_lt _ (by decide))).mpr z))))]), rfl⟩
  exact z_lv (lv' := [(0, .long (lN n)), (2, .long (lN (n / 256 ^ 0))), (4, .int (nI 0))]) (by rw [Nat.pow_zero, Nat.div_one]; rfl) (l1 8 0 rfl (by rw [Nat.pow_zero, Nat.div_one]))

theorem k_X2_append : zCal yX2_append wsX2_append cX2_append 7 (some .int) 1 := ⟨⟨_, rfl⟩, by decide +kernel⟩
theorem in_X2_append_X2 : ∀ w ∈ wsX20, w ∈ wsX2_append := fun _ h => List.mem_cons_of_mem _ (List.mem_append_right _ h)
set_option maxHeartbeats 4000000 in
set_option maxRecDepth 100000 in
theorem c_X2_append (l : Launch) (D : va_G) (y : Nat → ClassId) (p : Nat → Nat) (t : Nat → Int32) {len : Nat} (h80 : len ≤ 80) {n : Nat} (hn : n < 2 ^ 64) : zDi l D y yX2_append wsX2_append ({ frames := 1, cells := 0, slots := 0, locals := 26 }) [.ref (p 0), .long (lN n)] (pdW y p t (nI len)) (puR n len) (pdW y p (puT t n len) (nI (puN n len))) := by
  refine zMi.mk (cc := cX2_append) (maxL := 7) (lv := [(0, .ref (p 0)), (1, .long (lN n))]) (by decide) rfl (Nat.le_of_ble_eq_true rfl) rfl (fun X G hE => ?_)
  have hin := in_X2_append_X2
  refine z_lload_n G dX2_append_0 1 rfl ?_
  refine z_pSi (As := [_]) G _ _ _ (fun l => c_X2_charactersIn l D y hn) k_X2_charactersIn gX2_append_X2_charactersIn dX2_append_1 ⟨by decide, by decide⟩ ⟨rfl, rfl⟩ ⟨Nat.zero_le _, Nat.zero_le _⟩ rfl (Nat.le_of_ble_eq_true rfl) rfl (List.Perm.refl _) (List.Perm.refl _) ?_
  have hm8 := ck_le 8 n 0
  generalize hm : ck 8 n 0 = m at hm8
  refine z_top (w := .int (nI (m))) rfl ?_
  refine z_istore_nA G dX2_append_4 rfl (by decide) rfl ?_
  refine z_iload_n G dX2_append_5 2 rfl ?_
  refine z_if_ne G dX2_append_6 12 (by decide) (fun c6 => ?_) (fun c6 => ?_)
  · have m0 : ¬ m = 0 := fun z => c6 (by rw [z]; rfl)
    refine z_aload_n G dX2_append_12 0 rfl ?_
    refine dg_length G hin (List.mem_of_getElem? (i := 1) rfl) dX2_append_13 ?_
    refine z_iload_n G dX2_append_16 2 rfl ?_
    refine z_iaddN G dX2_append_17 (len + m) (by omega) ?_
    refine z_bipush (v := nI 80) G dX2_append_18 rfl ?_
    refine z_icmp_le G dX2_append_20 26 (by decide) (fun c20 => ?_) (fun c20 => ?_)
    · have m80 : ¬ 80 < len + m := Nat.not_lt.mpr ((nI_leI (by omega) (by decide)).mp c20)
      refine z_lload_n G dX2_append_26 1 rfl ?_
      refine z_lstoreA G dX2_append_27 (by decide) rfl ?_
      refine z_aload_n G dX2_append_29 0 rfl ?_
      refine dg_length G hin (List.mem_of_getElem? (i := 1) rfl) dX2_append_30 ?_
      refine z_iload_n G dX2_append_33 2 rfl ?_
      refine z_iaddN G dX2_append_34 (len + m) (by omega) ?_
      refine z_iconst (v := nI 1) G dX2_append_35 rfl ?_
      refine z_isub G dX2_append_36 ?_
      refine z_top (w := .int (nI (len + m - 0) + (-1))) (congrArg Value.int (m1_sub _)) ?_
      refine z_istoreA G dX2_append_37 (by decide) rfl ?_
      have lo : ∀ nj j : Nat, nj + j = m → zV D X (pdW y p (chB t n len m (j)) (nI len)) 0 0 39 [(0, .ref (p 0)), (1, .long (lN n)), (3, .int (nI (m))), (4, .long (lN (n / 256 ^ (j)))), (6, .int (nI (len + m - (j)) + (-1)))] [] := by
        intro nj
        induction nj with
        | zero =>
          intro j hj
          obtain rfl : m = j := by omega
          refine z_iload G dX2_append_39 4 rfl ?_
          refine z_aload_n G dX2_append_41 0 rfl ?_
          refine dg_length G hin (List.mem_of_getElem? (i := 1) rfl) dX2_append_42 ?_
          refine z_icmp_ltT G dX2_append_45 76 (by decide) (by rw [Nat.add_sub_cancel]; exact m1_lt (by omega)) ?_
          refine z_aload_n G dX2_append_76 0 rfl ?_
          refine z_dup G dX2_append_77 rfl ?_
          refine dg_length G hin (List.mem_of_getElem? (i := 1) rfl) dX2_append_78 ?_
          refine z_iload_n G dX2_append_81 2 rfl ?_
          refine z_iaddN G dX2_append_82 (len + m) (by omega) ?_
          refine dp_length G hin (List.mem_of_getElem? (i := 1) rfl) dX2_append_83 ?_
          refine z_aload_n G dX2_append_86 0 rfl ?_
          refine dg_length G hin (List.mem_of_getElem? (i := 1) rfl) dX2_append_87 ?_
          exact hE _ _ _ _ dX2_append_90 rfl (by rw [puR, puT, puN, hm, if_neg m0, if_neg m0, if_neg m0, if_neg m80, if_neg m80, if_neg m80, ← chB_k]; exact ⟨rfl, rfl⟩)
        | succ nj ihj =>
          intro j hj
          have lj : j < m := by omega
          refine z_lv (lv' := [(0, .ref (p 0)), (1, .long (lN n)), (3, .int (nI m)), (4, .long (lN (n / 256 ^ j))), (6, .int (nI (len + m - 1 - j)))]) (by rw [show len + m - j = (len + m - 1 - j) + 1 by omega, pk_m1]) ?_
          refine z_iload G dX2_append_39 4 rfl ?_
          refine z_aload_n G dX2_append_41 0 rfl ?_
          refine dg_length G hin (List.mem_of_getElem? (i := 1) rfl) dX2_append_42 ?_
          refine z_icmp_ltF G dX2_append_45 76 (by decide) (nI_lt_no (by omega) (by omega)) ?_
          refine z_aload_n G dX2_append_48 0 rfl ?_
          refine dg_text G hin (List.mem_of_getElem? (i := 2) rfl) dX2_append_49 ?_
          refine z_iload G dX2_append_52 4 rfl ?_
          refine z_lload G dX2_append_54 3 rfl ?_
          refine z_ldc2 G (List.mem_of_getElem? (i := 3) rfl) dX2_append_56 ?_
          refine z_land G dX2_append_59 ?_
          refine z_top (w := .long (lN (n / 256 ^ j % 256))) (congrArg Value.long (l255 (dv_lt hn))) ?_
          refine z_l2i G (nI ((n / 256 ^ j % 256))) dX2_append_60 (lN_i _) ?_
          refine z_i2c G (nI ((n / 256 ^ j % 256))) dX2_append_61 (c_i2c (Nat.mod_lt _ (by decide))) ?_
          refine ds_text G (by omega) dX2_append_62 (nI (n / 256 ^ j % 256)) (c_nar (Nat.mod_lt _ (by decide))) ?_
          refine z_lload G dX2_append_63 3 rfl ?_
          refine z_bipush (v := nI 8) G dX2_append_65 rfl ?_
          refine z_lushr G (lN (n / 256 ^ (j + 1))) dX2_append_67 (by rw [l_sh8 (dv_lt hn), dv_s]) ?_
          refine z_lstore G dX2_append_68 (by decide) 3 rfl ?_
          refine z_iinc G dX2_append_70 4 rfl (nI (len + m - (j + 1)) + (-1)) (by rw [show len + m - (j + 1) = len + m - 1 - j by omega]; rfl) (by decide) rfl ?_
          refine z_goto (tgt := 39) G dX2_append_73 (by decide) ?_
          refine z_world (ws' := pdW y p (chB t n len m (j + 1)) (nI len)) (by rw [← chB_s t lj]; rfl) ?_
          exact ihj (j + 1) (by omega)
      exact z_loc G [(0, .ref (p 0)), (1, .long (lN n)), (3, .int (nI m)), (4, .long (lN (n / 256 ^ 0))), (6, .int (nI (len + m - 0) + (-1)))] [0, 1, 2, 3, 4] (by rw [Nat.pow_zero, Nat.div_one]; rfl) (z_world (ws' := pdW y p (chB t n len m 0) (nI len)) (by rw [chB_0]) (lo m 0 rfl))
    · have m80 : 80 < len + m := Nat.not_le.mp (fun z => c20 (nI_le z (by decide)))
      refine z_bipush (v := (-4)) G dX2_append_23 rfl ?_
      exact hE _ _ _ _ dX2_append_25 rfl (by rw [puR, puT, puN, hm, if_neg m0, if_neg m0, if_neg m0, if_pos m80, if_pos m80, if_pos m80]; exact ⟨rfl, rfl⟩)
  · have m0 : m = 0 := (nI_eq (by omega) (by decide)).mp c6
    refine z_bipush (v := (-2)) G dX2_append_9 rfl ?_
    exact hE _ _ _ _ dX2_append_11 rfl (by rw [puR, puT, puN, hm, if_pos m0, if_pos m0, if_pos m0]; exact ⟨rfl, rfl⟩)
