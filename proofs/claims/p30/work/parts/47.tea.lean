theorem k_X5_of : zCal yX5_of wsX5_of cX5_of 3 (some .int) 2 := ⟨⟨_, rfl⟩, by decide +kernel⟩
theorem in_X5_of_X5 : ∀ w ∈ wsX50, w ∈ wsX5_of := fun _ h => List.mem_cons_of_mem _ (List.mem_append_left _ (List.mem_append_left _ (List.mem_append_right _ h)))
set_option maxHeartbeats 4000000 in
set_option maxRecDepth 100000 in
theorem c_X5_of (l : Launch) (D : va_G) (y : Nat → ClassId) (e A : Nat → Nat → Nat) (R Q : Nat → Nat → Int32) (b0 b1 : Bool) (nx kp : Nat) (Gr K : Nat → Nat → Int32) (t : Nat → Int32) (len : Nat) (h : IV (R 1)) (x z : Int32) : zDi l D y yX5_of wsX5_of ({ frames := 4, cells := 0, slots := 0, locals := 93 }) [.ref (e 0 0), .int (x), .int (z)] (tsW y e A R Q b0 b1 nx kp Gr K t len) (ofR1 (R 1) x z) (tsW y e A R Q b0 b1 nx kp Gr K t len) := by
  refine zMi.mk (cc := cX5_of) (maxL := 3) (lv := [(0, .ref (e 0 0)), (1, .int (x)), (2, .int (z))]) (by decide) rfl (Nat.le_of_ble_eq_true rfl) rfl (fun X G hE => ?_)
  have hin := in_X5_of_X5
  unfold tsW at hE ⊢
  refine z_aload_n G dX5_of_0 0 rfl ?_
  refine z_get G (hin) 0 rfl rfl 0 (by decide) (List.mem_of_getElem? (i := 1) rfl) rfl dX5_of_1 ?_
  refine z_iload_n G dX5_of_4 1 rfl ?_
  refine z_iload_n G dX5_of_5 2 rfl ?_
  refine z_pVi (As := [_, _]) G _ _ _ (fun l => c_X3_factOf l D y (e 1) (R 1) (Q 1) h.pf x z) k_X3_factOf gX5_of_X3_factOf 0 3 rfl rfl rfl dX5_of_6 ⟨by decide, by decide⟩ ⟨rfl, rfl⟩ ⟨Nat.zero_le _, Nat.zero_le _⟩ rfl (Nat.le_of_ble_eq_true rfl) rfl (fl_pick (k := 1) rfl) (fl_put (k := 1) rfl) ?_
  exact hE _ _ _ _ dX5_of_9 rfl ⟨rfl, rfl⟩

theorem k_X5_owes : zCal yX5_owes wsX5_owes cX5_owes 3 (some .int) 2 := ⟨⟨_, rfl⟩, by decide +kernel⟩
theorem in_X5_owes_X5 : ∀ w ∈ wsX50, w ∈ wsX5_owes := fun _ h => List.mem_cons_of_mem _ (List.mem_append_left _ (List.mem_append_left _ (List.mem_append_right _ h)))
set_option maxHeartbeats 4000000 in
set_option maxRecDepth 100000 in
theorem c_X5_owes (l : Launch) (D : va_G) (y : Nat → ClassId) (e A : Nat → Nat → Nat) (R Q : Nat → Nat → Int32) (b0 b1 : Bool) (nx kp : Nat) (Gr K : Nat → Nat → Int32) (t : Nat → Int32) (len : Nat) (h : IV (R 1)) (x z : Int32) : zDi l D y yX5_owes wsX5_owes ({ frames := 3, cells := 0, slots := 0, locals := 66 }) [.ref (e 0 0), .int (x), .int (z)] (tsW y e A R Q b0 b1 nx kp Gr K t len) (if pairE (R 1) x z < 0 then pairE (R 1) x z else R 1 (21 + 17 * x.toNatClampNeg + z.toNatClampNeg)) (tsW y e A R Q b0 b1 nx kp Gr K t len) := by
  refine zMi.mk (cc := cX5_owes) (maxL := 3) (lv := [(0, .ref (e 0 0)), (1, .int (x)), (2, .int (z))]) (by decide) rfl (Nat.le_of_ble_eq_true rfl) rfl (fun X G hE => ?_)
  have hin := in_X5_owes_X5
  unfold tsW at hE ⊢
  refine z_aload_n G dX5_owes_0 0 rfl ?_
  refine z_get G (hin) 0 rfl rfl 0 (by decide) (List.mem_of_getElem? (i := 1) rfl) rfl dX5_owes_1 ?_
  refine z_iload_n G dX5_owes_4 1 rfl ?_
  refine z_iload_n G dX5_owes_5 2 rfl ?_
  refine z_pVi (As := [_, _]) G _ _ _ (fun l => c_X3_owedTo l D y (e 1) (R 1) (Q 1) h.pf x z) k_X3_owedTo gX5_owes_X3_owedTo 0 3 rfl rfl rfl dX5_owes_6 ⟨by decide, by decide⟩ ⟨rfl, rfl⟩ ⟨Nat.zero_le _, Nat.zero_le _⟩ rfl (Nat.le_of_ble_eq_true rfl) rfl (fl_pick (k := 1) rfl) (fl_put (k := 1) rfl) ?_
  exact hE _ _ _ _ dX5_owes_9 rfl ⟨rfl, rfl⟩

theorem k_X5_at : zCal yX5_at wsX5_at cX5_at 2 (some .int) 1 := ⟨⟨_, rfl⟩, by decide +kernel⟩
theorem in_X5_at_X5 : ∀ w ∈ wsX50, w ∈ wsX5_at := fun _ h => List.mem_cons_of_mem _ (List.mem_append_left _ (List.mem_append_right _ h))
set_option maxHeartbeats 4000000 in
set_option maxRecDepth 100000 in
theorem c_X5_at (l : Launch) (D : va_G) (y : Nat → ClassId) (e A : Nat → Nat → Nat) (R Q : Nat → Nat → Int32) (b0 b1 : Bool) (nx kp : Nat) (Gr K : Nat → Nat → Int32) (t : Nat → Int32) (len : Nat) (h : IV (R 1)) (x : Int32) : zDi l D y yX5_at wsX5_at ({ frames := 1, cells := 0, slots := 0, locals := 22 }) [.ref (e 0 0), .int (x)] (tsW y e A R Q b0 b1 nx kp Gr K t len) (lst (stP (R 1) x) 9) (tsW y e A R Q b0 b1 nx kp Gr K t len) := by
  refine zMi.mk (cc := cX5_at) (maxL := 2) (lv := [(0, .ref (e 0 0)), (1, .int (x))]) (by decide) rfl (Nat.le_of_ble_eq_true rfl) rfl (fun X G hE => ?_)
  have hin := in_X5_at_X5
  unfold tsW at hE ⊢
  refine z_aload_n G dX5_at_0 0 rfl ?_
  refine z_get G (hin) 0 rfl rfl 0 (by decide) (List.mem_of_getElem? (i := 1) rfl) rfl dX5_at_1 ?_
  refine z_iload_n G dX5_at_4 1 rfl ?_
  refine z_pVi (As := [_]) G _ _ _ (fun l => c_X3_guestIn l D y (e 1) (R 1) (Q 1) h.pf h.su x) k_X3_guestIn gX5_at_X3_guestIn 0 3 rfl rfl rfl dX5_at_5 ⟨by decide, by decide⟩ ⟨rfl, rfl⟩ ⟨Nat.zero_le _, Nat.zero_le _⟩ rfl (Nat.le_of_ble_eq_true rfl) rfl (fl_pick (k := 1) rfl) (fl_put (k := 1) rfl) ?_
  exact hE _ _ _ _ dX5_at_8 rfl ⟨rfl, rfl⟩

theorem k_X5_ranked : zCal yX5_ranked wsX5_ranked cX5_ranked 2 (some .int) 1 := ⟨⟨_, rfl⟩, by decide +kernel⟩
theorem in_X5_ranked_X5 : ∀ w ∈ wsX50, w ∈ wsX5_ranked := fun _ h => List.mem_cons_of_mem _ (List.mem_append_left _ (List.mem_append_left _ (List.mem_append_right _ h)))
set_option maxHeartbeats 4000000 in
set_option maxRecDepth 100000 in
theorem c_X5_ranked (l : Launch) (D : va_G) (y : Nat → ClassId) (e A : Nat → Nat → Nat) (R Q : Nat → Nat → Int32) (b0 b1 : Bool) (nx kp : Nat) (Gr K : Nat → Nat → Int32) (t : Nat → Int32) (len : Nat) (h : IV (R 1)) (x : Int32) : zDi l D y yX5_ranked wsX5_ranked ({ frames := 4, cells := 0, slots := 0, locals := 93 }) [.ref (e 0 0), .int (x)] (tsW y e A R Q b0 b1 nx kp Gr K t len) (lst (rnP (R 1) x) 9) (tsW y e A R Q b0 b1 nx kp Gr K t len) := by
  refine zMi.mk (cc := cX5_ranked) (maxL := 2) (lv := [(0, .ref (e 0 0)), (1, .int (x))]) (by decide) rfl (Nat.le_of_ble_eq_true rfl) rfl (fun X G hE => ?_)
  have hin := in_X5_ranked_X5
  unfold tsW at hE ⊢
  refine z_aload_n G dX5_ranked_0 0 rfl ?_
  refine z_get G (hin) 0 rfl rfl 0 (by decide) (List.mem_of_getElem? (i := 1) rfl) rfl dX5_ranked_1 ?_
  refine z_iload_n G dX5_ranked_4 1 rfl ?_
  refine z_pVi (As := [_]) G _ _ _ (fun l => c_X3_guestRanked l D y (e 1) (R 1) (Q 1) h.pf h.ru x) k_X3_guestRanked gX5_ranked_X3_guestRanked 0 3 rfl rfl rfl dX5_ranked_5 ⟨by decide, by decide⟩ ⟨rfl, rfl⟩ ⟨Nat.zero_le _, Nat.zero_le _⟩ rfl (Nat.le_of_ble_eq_true rfl) rfl (fl_pick (k := 1) rfl) (fl_put (k := 1) rfl) ?_
  exact hE _ _ _ _ dX5_ranked_8 rfl ⟨rfl, rfl⟩

theorem k_X5_silent : zCal yX5_silent wsX5_silent cX5_silent 2 (some .int) 1 := ⟨⟨_, rfl⟩, by decide +kernel⟩
theorem in_X5_silent_X5 : ∀ w ∈ wsX50, w ∈ wsX5_silent := fun _ h => List.mem_cons_of_mem _ (List.mem_append_left _ (List.mem_append_right _ h))
set_option maxHeartbeats 4000000 in
set_option maxRecDepth 100000 in
theorem c_X5_silent (l : Launch) (D : va_G) (y : Nat → ClassId) (e A : Nat → Nat → Nat) (R Q : Nat → Nat → Int32) (b0 b1 : Bool) (nx kp : Nat) (Gr K : Nat → Nat → Int32) (t : Nat → Int32) (len : Nat) (h : IV (R 1)) (x : Int32) : zDi l D y yX5_silent wsX5_silent ({ frames := 1, cells := 0, slots := 0, locals := 23 }) [.ref (e 0 0), .int (x)] (tsW y e A R Q b0 b1 nx kp Gr K t len) (if x < 0 then -2 else nI (cnt (slP (R 1) x) 9)) (tsW y e A R Q b0 b1 nx kp Gr K t len) := by
  refine zMi.mk (cc := cX5_silent) (maxL := 2) (lv := [(0, .ref (e 0 0)), (1, .int (x))]) (by decide) rfl (Nat.le_of_ble_eq_true rfl) rfl (fun X G hE => ?_)
  have hin := in_X5_silent_X5
  unfold tsW at hE ⊢
  refine z_iload_n G dX5_silent_0 1 rfl ?_
  refine z_if_ge G dX5_silent_1 9 (by decide) (fun c1 => ?_) (fun c1 => ?_)
  · refine z_aload_n G dX5_silent_9 0 rfl ?_
    refine z_get G (hin) 0 rfl rfl 0 (by decide) (List.mem_of_getElem? (i := 1) rfl) rfl dX5_silent_10 ?_
    refine z_iload_n G dX5_silent_13 1 rfl ?_
    refine z_pVi (As := [_]) G _ _ _ (fun l => c_X3_silentFor l D y (e 1) (R 1) (Q 1) h.pf x) k_X3_silentFor gX5_silent_X3_silentFor 0 3 rfl rfl rfl dX5_silent_14 ⟨by decide, by decide⟩ ⟨rfl, rfl⟩ ⟨Nat.zero_le _, Nat.zero_le _⟩ rfl (Nat.le_of_ble_eq_true rfl) rfl (fl_pick (k := 1) rfl) (fl_put (k := 1) rfl) ?_
    first | exact hE _ _ _ _ dX5_silent_17 rfl ⟨(if_neg (Int32.not_lt.mpr c1)).symm, rfl⟩ | exact hE _ _ _ _ dX5_silent_17 rfl ⟨(if_pos (Int32.not_le.mp c1)).symm, rfl⟩
  · refine z_bipush (v := (-2)) G dX5_silent_4 rfl ?_
    refine z_goto (tgt := 17) G dX5_silent_6 (by decide) ?_
    first | exact hE _ _ _ _ dX5_silent_17 rfl ⟨(if_neg (Int32.not_lt.mpr c1)).symm, rfl⟩ | exact hE _ _ _ _ dX5_silent_17 rfl ⟨(if_pos (Int32.not_le.mp c1)).symm, rfl⟩

theorem k_X5_count : zCal yX5_count wsX5_count cX5_count 2 (some .int) 1 := ⟨⟨_, rfl⟩, by decide +kernel⟩
theorem in_X5_count_X5 : ∀ w ∈ wsX50, w ∈ wsX5_count := fun _ h => List.mem_cons_of_mem _ (List.mem_append_left _ (List.mem_append_left _ (List.mem_append_left _ (List.mem_append_left _ (List.mem_append_right _ h)))))
set_option maxHeartbeats 4000000 in
set_option maxRecDepth 100000 in
theorem c_X5_count (l : Launch) (D : va_G) (y : Nat → ClassId) (e A : Nat → Nat → Nat) (R Q : Nat → Nat → Int32) (b0 b1 : Bool) (nx kp : Nat) (Gr K : Nat → Nat → Int32) (t : Nat → Int32) (len : Nat) (h : IV (R 1)) (h80 : len ≤ 80) (x : Int32) : zDi l D y yX5_count wsX5_count ({ frames := 4, cells := 0, slots := 0, locals := 88 }) [.ref (e 0 0), .int (x)] (tsW y e A R Q b0 b1 nx kp Gr K t len) (cnR (R 1) (nI len) (nI kp) x) (tsW y e A R Q b0 b1 nx kp Gr K t len) := by
  refine zMi.mk (cc := cX5_count) (maxL := 2) (lv := [(0, .ref (e 0 0)), (1, .int (x))]) (by decide) rfl (Nat.le_of_ble_eq_true rfl) rfl (fun X G hE => ?_)
  have hin := in_X5_count_X5
  unfold tsW at hE ⊢
  refine z_iload_n G dX5_count_0 1 rfl ?_
  by_cases e17 : x = nI 17
  · refine z_top (w := .int (nI 17)) (congrArg Value.int e17) (z_lookup G 28 dX5_count_1 (by decide) rfl (by decide) ?_)
    refine z_aload_n G dX5_count_28 0 rfl ?_
    refine z_get G (hin) 0 rfl rfl 6 (by decide) (List.mem_of_getElem? (i := 1) rfl) rfl dX5_count_29 ?_
    refine z_pVi (As := []) G _ _ _ (fun l => c_X2_length l D y (e 9) t h80) k_X2_length gX5_count_X2_length 0 2 rfl rfl rfl dX5_count_32 ⟨by decide, by decide⟩ ⟨rfl, rfl⟩ ⟨Nat.zero_le _, Nat.zero_le _⟩ rfl (Nat.le_of_ble_eq_true rfl) rfl (fl_pick (k := 10) rfl) (fl_put (k := 10) rfl) ?_
    exact hE _ _ _ _ dX5_count_35 rfl ⟨(by rw [cnR, if_pos e17]), rfl⟩
  by_cases e18 : x = nI 18
  · refine z_top (w := .int (nI 18)) (congrArg Value.int e18) (z_lookup G 36 dX5_count_1 (by decide) rfl (by decide) ?_)
    refine z_aload_n G dX5_count_36 0 rfl ?_
    refine z_get G (hin) 0 rfl rfl 5 (by decide) (List.mem_of_getElem? (i := 2) rfl) rfl dX5_count_37 ?_
    refine z_pVi (As := []) G _ _ _ (fun l => c_X1_states l D y (e 8) A (nI nx) (nI kp)) k_X1_states gX5_count_X1_states 0 1 rfl rfl rfl dX5_count_40 ⟨by decide, by decide⟩ ⟨rfl, rfl⟩ ⟨Nat.zero_le _, Nat.zero_le _⟩ rfl (Nat.le_of_ble_eq_true rfl) rfl (fl_pick (k := 8) rfl) (fl_put (k := 8) rfl) ?_
    exact hE _ _ _ _ dX5_count_43 rfl ⟨(by rw [cnR, if_neg e17, if_pos e18]), rfl⟩
  refine z_lookup G 44 dX5_count_1 (by decide) ((lv_osw e17 rfl).trans ((lv_osw e18 rfl).trans (show Op.lookupswitch.offset [] (43) _ = (43) from rfl))) (by decide) ?_
  refine z_aload_n G dX5_count_44 0 rfl ?_
  refine z_get G (hin) 0 rfl rfl 0 (by decide) (List.mem_of_getElem? (i := 3) rfl) rfl dX5_count_45 ?_
  refine z_iload_n G dX5_count_48 1 rfl ?_
  refine z_pVi (As := [_]) G _ _ _ (fun l => c_X3_counted l D y (e 1) (R 1) (Q 1) h.pf x) k_X3_counted gX5_count_X3_counted 0 3 rfl rfl rfl dX5_count_49 ⟨by decide, by decide⟩ ⟨rfl, rfl⟩ ⟨Nat.zero_le _, Nat.zero_le _⟩ rfl (Nat.le_of_ble_eq_true rfl) rfl (fl_pick (k := 1) rfl) (fl_put (k := 1) rfl) ?_
  exact hE _ _ _ _ dX5_count_52 rfl ⟨(by rw [cnR, if_neg e17, if_neg e18]), rfl⟩

theorem k_X5_why : zCal yX5_why wsX5_why cX5_why 2 (some .int) 1 := ⟨⟨_, rfl⟩, by decide +kernel⟩
theorem in_X5_why_X5 : ∀ w ∈ wsX50, w ∈ wsX5_why := fun _ h => List.mem_cons_of_mem _ (List.mem_append_left _ (List.mem_append_left _ (List.mem_append_right _ h)))
set_option maxHeartbeats 4000000 in
set_option maxRecDepth 100000 in
theorem c_X5_why (l : Launch) (D : va_G) (y : Nat → ClassId) (e A : Nat → Nat → Nat) (R Q : Nat → Nat → Int32) (b0 b1 : Bool) (nx kp : Nat) (Gr K : Nat → Nat → Int32) (t : Nat → Int32) (len : Nat) (h : IV (R 1)) (x : Int32) : zDi l D y yX5_why wsX5_why ({ frames := 2, cells := 0, slots := 0, locals := 45 }) [.ref (e 0 0), .int (x)] (tsW y e A R Q b0 b1 nx kp Gr K t len) (if hx (R 1) x = true then rsn (R 1) x.toNatClampNeg else -1) (tsW y e A R Q b0 b1 nx kp Gr K t len) := by
  refine zMi.mk (cc := cX5_why) (maxL := 2) (lv := [(0, .ref (e 0 0)), (1, .int (x))]) (by decide) rfl (Nat.le_of_ble_eq_true rfl) rfl (fun X G hE => ?_)
  have hin := in_X5_why_X5
  unfold tsW at hE ⊢
  refine z_aload_n G dX5_why_0 0 rfl ?_
  refine z_get G (hin) 0 rfl rfl 0 (by decide) (List.mem_of_getElem? (i := 1) rfl) rfl dX5_why_1 ?_
  refine z_iload_n G dX5_why_4 1 rfl ?_
  refine z_pVi (As := [_]) G _ _ _ (fun l => c_X3_isHere l D y (e 1) (R 1) (Q 1) h.pf x) k_X3_isHere gX5_why_X3_isHere 0 3 rfl rfl rfl dX5_why_5 ⟨by decide, by decide⟩ ⟨rfl, rfl⟩ ⟨Nat.zero_le _, Nat.zero_le _⟩ rfl (Nat.le_of_ble_eq_true rfl) rfl (fl_pick (k := 1) rfl) (fl_put (k := 1) rfl) ?_
  refine z_if_eq G dX5_why_8 22 (by decide) (fun c8 => ?_) (fun c8 => ?_)
  · refine z_iconst (v := (-1)) G dX5_why_22 rfl ?_
    exact hE _ _ _ _ dX5_why_23 rfl ⟨(by rw [bI_0 c8]; rfl), rfl⟩
  · obtain ⟨g, hg, rfl, sg⟩ := hx_t (bI_n c8)
    refine z_aload_n G dX5_why_11 0 rfl ?_
    refine z_get G (hin) 0 rfl rfl 0 (by decide) (List.mem_of_getElem? (i := 1) rfl) rfl dX5_why_12 ?_
    refine z_iload_n G dX5_why_15 1 rfl ?_
    refine z_pVi (As := [_]) G _ _ _ (fun l => c_X3_reasonToPassBy l D y (e 1) (R 1) (Q 1) hg) k_X3_reasonToPassBy gX5_why_X3_reasonToPassBy 0 3 rfl rfl rfl dX5_why_16 ⟨by decide, by decide⟩ ⟨rfl, rfl⟩ ⟨Nat.zero_le _, Nat.zero_le _⟩ rfl (Nat.le_of_ble_eq_true rfl) rfl (fl_pick (k := 1) rfl) (fl_put (k := 1) rfl) ?_
    refine z_goto (tgt := 23) G dX5_why_19 (by decide) ?_
    exact hE _ _ _ _ dX5_why_23 rfl ⟨(by rw [hx_n hg, if_pos sg, nI_clamp (by omega)]), rfl⟩
