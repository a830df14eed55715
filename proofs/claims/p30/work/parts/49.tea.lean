theorem k_X5_recorded : zCal yX5_recorded wsX5_recorded cX5_recorded 2 (some .int) 1 := ⟨⟨_, rfl⟩, by decide +kernel⟩
theorem in_X5_recorded_X5 : ∀ w ∈ wsX50, w ∈ wsX5_recorded := fun _ h => List.mem_cons_of_mem _ (List.mem_append_left _ (List.mem_append_left _ (List.mem_append_left _ (List.mem_append_right _ h))))
set_option maxHeartbeats 4000000 in
set_option maxRecDepth 100000 in
theorem c_X5_recorded (l : Launch) (D : va_G) (y : Nat → ClassId) (e A : Nat → Nat → Nat) (R Q : Nat → Nat → Int32) (b0 b1 : Bool) (nx kp : Nat) (Gr K : Nat → Nat → Int32) (t : Nat → Int32) (len : Nat) (hn : nx < 6) (hk : kp ≤ 6) (r : Int32) : zDi l D y yX5_recorded wsX5_recorded ({ frames := 5, cells := 0, slots := 0, locals := 124 }) [.ref (e 0 0), .int (r)] (tsW y e A R Q b0 b1 nx kp Gr K t len) (r) (tsW y e A R Q b0 b1 (rcN nx r) (rcP kp r) (rcG Gr nx (R 2) r) K t len) := by
  refine zMi.mk (cc := cX5_recorded) (maxL := 2) (lv := [(0, .ref (e 0 0)), (1, .int (r))]) (by decide) rfl (Nat.le_of_ble_eq_true rfl) rfl (fun X G hE => ?_)
  have hin := in_X5_recorded_X5
  refine z_iload_n G dX5_recorded_0 1 rfl ?_
  refine z_if_lt G dX5_recorded_1 15 (by decide) (fun c1 => ?_) (fun c1 => ?_)
  · have n1 : ¬ 0 ≤ r := Int32.not_le.mpr c1
    refine z_iload_n G dX5_recorded_15 1 rfl ?_
    exact hE _ _ _ _ dX5_recorded_16 rfl ⟨rfl, by rw [rcN, rcP, rcG, if_neg n1, if_neg n1, if_neg n1]⟩
  · have n1 : 0 ≤ r := Int32.not_lt.mp c1
    refine z_world (ws' := (tsB y e A R Q b0 b1 nx kp Gr K t len).flatten) rfl ?_
    refine z_aload_n G dX5_recorded_4 0 rfl ?_
    refine z_get G (hin) 0 rfl rfl 5 (by decide) (List.mem_of_getElem? (i := 1) rfl) rfl dX5_recorded_5 ?_
    refine z_aload_n G dX5_recorded_8 0 rfl ?_
    refine z_get G (hin) 0 rfl rfl 1 (by decide) (List.mem_of_getElem? (i := 2) rfl) rfl dX5_recorded_9 ?_
    refine z_pVv (As := [_]) G _ _ (fun l => c_X1_keep l D y (e 8) A (e 2) (Gr nx) (K nx) (R 2) (Q 2) hn hk) k_X1_keep gX5_recorded_X1_keep 0 1 rfl rfl rfl dX5_recorded_12 ⟨by decide, by decide⟩ ⟨rfl, rfl⟩ ⟨Nat.zero_le _, Nat.zero_le _⟩ rfl (Nat.le_of_ble_eq_true rfl) rfl (kp_perm (i := 8) (j := 8) (k := 2) rfl rfl rfl hn) (kp_perm2 (Bs := tsB y e A R Q b0 b1 (nxS nx) (kpS kp) (upG Gr nx (R 2)) K t len) (i := 8) (j := 8) (k := 2) rfl rfl rfl hn) ?_
    refine z_iload_n G dX5_recorded_15 1 rfl ?_
    exact hE _ _ _ _ dX5_recorded_16 rfl ⟨rfl, by rw [rcN, rcP, rcG, if_pos n1, if_pos n1, if_pos n1]; rfl⟩

theorem k_X5_guest : zCal yX5_guest wsX5_guest cX5_guest 2 (some .int) 1 := ⟨⟨_, rfl⟩, by decide +kernel⟩
theorem in_X5_guest_X5 : ∀ w ∈ wsX50, w ∈ wsX5_guest := fun _ h => List.mem_cons_of_mem _ (List.mem_append_left _ (List.mem_append_left _ (List.mem_append_left _ (List.mem_append_right _ h))))
set_option maxHeartbeats 4000000 in
set_option maxRecDepth 100000 in
theorem c_X5_guest (l : Launch) (D : va_G) (y : Nat → ClassId) (e A : Nat → Nat → Nat) (R Q : Nat → Nat → Int32) (b0 b1 : Bool) (nx kp : Nat) (Gr K : Nat → Nat → Int32) (t : Nat → Int32) (len : Nat) (h : IV (R 1)) (hn : nx < 6) (hk : kp ≤ 6) (x : Int32) : zDi l D y yX5_guest wsX5_guest ({ frames := 6, cells := 0, slots := 0, locals := 145 }) [.ref (e 0 0), .int (x)] (tsW y e A R Q b0 b1 nx kp Gr K t len) ((coR (R 1) x).1) (tsW y e A (upG (upG R 2 (R 1)) 1 ((coR (R 1) x).2)) Q b0 b1 (rcN nx ((coR (R 1) x).1)) (rcP kp ((coR (R 1) x).1)) (rcG Gr nx (R 1) ((coR (R 1) x).1)) K t len) := by
  refine zMi.mk (cc := cX5_guest) (maxL := 2) (lv := [(0, .ref (e 0 0)), (1, .int (x))]) (by decide) rfl (Nat.le_of_ble_eq_true rfl) rfl (fun X G hE => ?_)
  have hin := in_X5_guest_X5
  unfold tsW at hE ⊢
  refine z_aload_n G dX5_guest_0 0 rfl ?_
  refine z_get G (hin) 0 rfl rfl 1 (by decide) (List.mem_of_getElem? (i := 1) rfl) rfl dX5_guest_1 ?_
  refine z_aload_n G dX5_guest_4 0 rfl ?_
  refine z_get G (hin) 0 rfl rfl 0 (by decide) (List.mem_of_getElem? (i := 2) rfl) rfl dX5_guest_5 ?_
  refine z_pVv (As := [_]) G _ _ (fun l => c_X3_copyFrom l D y (e 2) (e 1) (R 2) (Q 2) (R 1) (Q 1)) k_X3_copyFrom gX5_guest_X3_copyFrom 0 3 rfl rfl rfl dX5_guest_8 ⟨by decide, by decide⟩ ⟨rfl, rfl⟩ ⟨Nat.zero_le _, Nat.zero_le _⟩ rfl (Nat.le_of_ble_eq_true rfl) rfl (fl_two (j := 2) (k := 1) rfl rfl) (fl_two2 (j := 2) (k := 1) rfl rfl) ?_
  refine z_aload_n G dX5_guest_11 0 rfl ?_
  refine z_aload_n G dX5_guest_12 0 rfl ?_
  refine z_get G (hin) 0 rfl rfl 0 (by decide) (List.mem_of_getElem? (i := 2) rfl) rfl dX5_guest_13 ?_
  refine z_iload_n G dX5_guest_16 1 rfl ?_
  refine z_pVi (As := [_]) G _ _ _ (fun l => c_X3_welcome l D y (e 1) (R 1) (Q 1) h.pf x) k_X3_welcome gX5_guest_X3_welcome 0 3 rfl rfl rfl dX5_guest_17 ⟨by decide, by decide⟩ ⟨rfl, rfl⟩ ⟨Nat.zero_le _, Nat.zero_le _⟩ rfl (Nat.le_of_ble_eq_true rfl) rfl (fl_pick (k := 1) rfl) (fl_put (k := 1) rfl) ?_
  refine z_world (ws' := tsW y e A (upG (upG R 2 (R 1)) 1 ((coR (R 1) x).2)) Q b0 b1 nx kp Gr K t len) rfl ?_
  refine z_dVi (As := [_]) G _ _ (fun l => c_X5_recorded l D y e A (upG (upG R 2 (R 1)) 1 ((coR (R 1) x).2)) Q b0 b1 nx kp Gr K t len hn hk ((coR (R 1) x).1)) k_X5_recorded gX5_guest_X5_recorded 0 5 rfl rfl rfl dX5_guest_20 ⟨by decide, by decide⟩ ⟨rfl, rfl⟩ ⟨Nat.zero_le _, Nat.zero_le _⟩ rfl (Nat.le_of_ble_eq_true rfl) rfl ?_
  exact hE _ _ _ _ dX5_guest_23 rfl ⟨rfl, rfl⟩

theorem k_X5_leave : zCal yX5_leave wsX5_leave cX5_leave 2 (some .int) 1 := ⟨⟨_, rfl⟩, by decide +kernel⟩
theorem in_X5_leave_X5 : ∀ w ∈ wsX50, w ∈ wsX5_leave := fun _ h => List.mem_cons_of_mem _ (List.mem_append_left _ (List.mem_append_left _ (List.mem_append_left _ (List.mem_append_right _ h))))
set_option maxHeartbeats 4000000 in
set_option maxRecDepth 100000 in
theorem c_X5_leave (l : Launch) (D : va_G) (y : Nat → ClassId) (e A : Nat → Nat → Nat) (R Q : Nat → Nat → Int32) (b0 b1 : Bool) (nx kp : Nat) (Gr K : Nat → Nat → Int32) (t : Nat → Int32) (len : Nat) (h : IV (R 1)) (hn : nx < 6) (hk : kp ≤ 6) (x : Int32) : zDi l D y yX5_leave wsX5_leave ({ frames := 6, cells := 0, slots := 0, locals := 145 }) [.ref (e 0 0), .int (x)] (tsW y e A R Q b0 b1 nx kp Gr K t len) ((leR (R 1) x).1) (tsW y e A (upG (upG R 2 (R 1)) 1 ((leR (R 1) x).2)) Q b0 b1 (rcN nx ((leR (R 1) x).1)) (rcP kp ((leR (R 1) x).1)) (rcG Gr nx (R 1) ((leR (R 1) x).1)) K t len) := by
  refine zMi.mk (cc := cX5_leave) (maxL := 2) (lv := [(0, .ref (e 0 0)), (1, .int (x))]) (by decide) rfl (Nat.le_of_ble_eq_true rfl) rfl (fun X G hE => ?_)
  have hin := in_X5_leave_X5
  unfold tsW at hE ⊢
  refine z_aload_n G dX5_leave_0 0 rfl ?_
  refine z_get G (hin) 0 rfl rfl 1 (by decide) (List.mem_of_getElem? (i := 1) rfl) rfl dX5_leave_1 ?_
  refine z_aload_n G dX5_leave_4 0 rfl ?_
  refine z_get G (hin) 0 rfl rfl 0 (by decide) (List.mem_of_getElem? (i := 2) rfl) rfl dX5_leave_5 ?_
  refine z_pVv (As := [_]) G _ _ (fun l => c_X3_copyFrom l D y (e 2) (e 1) (R 2) (Q 2) (R 1) (Q 1)) k_X3_copyFrom gX5_leave_X3_copyFrom 0 3 rfl rfl rfl dX5_leave_8 ⟨by decide, by decide⟩ ⟨rfl, rfl⟩ ⟨Nat.zero_le _, Nat.zero_le _⟩ rfl (Nat.le_of_ble_eq_true rfl) rfl (fl_two (j := 2) (k := 1) rfl rfl) (fl_two2 (j := 2) (k := 1) rfl rfl) ?_
  refine z_aload_n G dX5_leave_11 0 rfl ?_
  refine z_aload_n G dX5_leave_12 0 rfl ?_
  refine z_get G (hin) 0 rfl rfl 0 (by decide) (List.mem_of_getElem? (i := 2) rfl) rfl dX5_leave_13 ?_
  refine z_iload_n G dX5_leave_16 1 rfl ?_
  refine z_pVi (As := [_]) G _ _ _ (fun l => c_X3_seeOff l D y (e 1) (R 1) (Q 1) h.pf x) k_X3_seeOff gX5_leave_X3_seeOff 0 3 rfl rfl rfl dX5_leave_17 ⟨by decide, by decide⟩ ⟨rfl, rfl⟩ ⟨Nat.zero_le _, Nat.zero_le _⟩ rfl (Nat.le_of_ble_eq_true rfl) rfl (fl_pick (k := 1) rfl) (fl_put (k := 1) rfl) ?_
  refine z_world (ws' := tsW y e A (upG (upG R 2 (R 1)) 1 ((leR (R 1) x).2)) Q b0 b1 nx kp Gr K t len) rfl ?_
  refine z_dVi (As := [_]) G _ _ (fun l => c_X5_recorded l D y e A (upG (upG R 2 (R 1)) 1 ((leR (R 1) x).2)) Q b0 b1 nx kp Gr K t len hn hk ((leR (R 1) x).1)) k_X5_recorded gX5_leave_X5_recorded 0 5 rfl rfl rfl dX5_leave_20 ⟨by decide, by decide⟩ ⟨rfl, rfl⟩ ⟨Nat.zero_le _, Nat.zero_le _⟩ rfl (Nat.le_of_ble_eq_true rfl) rfl ?_
  exact hE _ _ _ _ dX5_leave_23 rfl ⟨rfl, rfl⟩

theorem k_X5_word : zCal yX5_word wsX5_word cX5_word 2 (some .int) 1 := ⟨⟨_, rfl⟩, by decide +kernel⟩
theorem in_X5_word_X5 : ∀ w ∈ wsX50, w ∈ wsX5_word := fun _ h => List.mem_cons_of_mem _ (List.mem_append_left _ (List.mem_append_left _ (List.mem_append_left _ (List.mem_append_right _ h))))
set_option maxHeartbeats 4000000 in
set_option maxRecDepth 100000 in
theorem c_X5_word (l : Launch) (D : va_G) (y : Nat → ClassId) (e A : Nat → Nat → Nat) (R Q : Nat → Nat → Int32) (b0 b1 : Bool) (nx kp : Nat) (Gr K : Nat → Nat → Int32) (t : Nat → Int32) (len : Nat) (h : IV (R 1)) (hn : nx < 6) (hk : kp ≤ 6) (x : Int32) : zDi l D y yX5_word wsX5_word ({ frames := 6, cells := 0, slots := 0, locals := 145 }) [.ref (e 0 0), .int (x)] (tsW y e A R Q b0 b1 nx kp Gr K t len) ((woR (R 1) x).1) (tsW y e A (upG (upG R 2 (R 1)) 1 ((woR (R 1) x).2)) Q b0 b1 (rcN nx ((woR (R 1) x).1)) (rcP kp ((woR (R 1) x).1)) (rcG Gr nx (R 1) ((woR (R 1) x).1)) K t len) := by
  refine zMi.mk (cc := cX5_word) (maxL := 2) (lv := [(0, .ref (e 0 0)), (1, .int (x))]) (by decide) rfl (Nat.le_of_ble_eq_true rfl) rfl (fun X G hE => ?_)
  have hin := in_X5_word_X5
  unfold tsW at hE ⊢
  refine z_aload_n G dX5_word_0 0 rfl ?_
  refine z_get G (hin) 0 rfl rfl 1 (by decide) (List.mem_of_getElem? (i := 1) rfl) rfl dX5_word_1 ?_
  refine z_aload_n G dX5_word_4 0 rfl ?_
  refine z_get G (hin) 0 rfl rfl 0 (by decide) (List.mem_of_getElem? (i := 2) rfl) rfl dX5_word_5 ?_
  refine z_pVv (As := [_]) G _ _ (fun l => c_X3_copyFrom l D y (e 2) (e 1) (R 2) (Q 2) (R 1) (Q 1)) k_X3_copyFrom gX5_word_X3_copyFrom 0 3 rfl rfl rfl dX5_word_8 ⟨by decide, by decide⟩ ⟨rfl, rfl⟩ ⟨Nat.zero_le _, Nat.zero_le _⟩ rfl (Nat.le_of_ble_eq_true rfl) rfl (fl_two (j := 2) (k := 1) rfl rfl) (fl_two2 (j := 2) (k := 1) rfl rfl) ?_
  refine z_aload_n G dX5_word_11 0 rfl ?_
  refine z_aload_n G dX5_word_12 0 rfl ?_
  refine z_get G (hin) 0 rfl rfl 0 (by decide) (List.mem_of_getElem? (i := 2) rfl) rfl dX5_word_13 ?_
  refine z_iload_n G dX5_word_16 1 rfl ?_
  refine z_pVi (As := [_]) G _ _ _ (fun l => c_X3_hearWord l D y (e 1) (R 1) (Q 1) h.pf x) k_X3_hearWord gX5_word_X3_hearWord 0 3 rfl rfl rfl dX5_word_17 ⟨by decide, by decide⟩ ⟨rfl, rfl⟩ ⟨Nat.zero_le _, Nat.zero_le _⟩ rfl (Nat.le_of_ble_eq_true rfl) rfl (fl_pick (k := 1) rfl) (fl_put (k := 1) rfl) ?_
  refine z_world (ws' := tsW y e A (upG (upG R 2 (R 1)) 1 ((woR (R 1) x).2)) Q b0 b1 nx kp Gr K t len) rfl ?_
  refine z_dVi (As := [_]) G _ _ (fun l => c_X5_recorded l D y e A (upG (upG R 2 (R 1)) 1 ((woR (R 1) x).2)) Q b0 b1 nx kp Gr K t len hn hk ((woR (R 1) x).1)) k_X5_recorded gX5_word_X5_recorded 0 5 rfl rfl rfl dX5_word_20 ⟨by decide, by decide⟩ ⟨rfl, rfl⟩ ⟨Nat.zero_le _, Nat.zero_le _⟩ rfl (Nat.le_of_ble_eq_true rfl) rfl ?_
  exact hE _ _ _ _ dX5_word_23 rfl ⟨rfl, rfl⟩

theorem k_X5_bow : zCal yX5_bow wsX5_bow cX5_bow 3 (some .int) 2 := ⟨⟨_, rfl⟩, by decide +kernel⟩
theorem in_X5_bow_X5 : ∀ w ∈ wsX50, w ∈ wsX5_bow := fun _ h => List.mem_cons_of_mem _ (List.mem_append_left _ (List.mem_append_left _ (List.mem_append_left _ (List.mem_append_right _ h))))
set_option maxHeartbeats 4000000 in
set_option maxRecDepth 100000 in
theorem c_X5_bow (l : Launch) (D : va_G) (y : Nat → ClassId) (e A : Nat → Nat → Nat) (R Q : Nat → Nat → Int32) (b0 b1 : Bool) (nx kp : Nat) (Gr K : Nat → Nat → Int32) (t : Nat → Int32) (len : Nat) (h : IV (R 1)) (hn : nx < 6) (hk : kp ≤ 6) (x z : Int32) : zDi l D y yX5_bow wsX5_bow ({ frames := 6, cells := 0, slots := 0, locals := 145 }) [.ref (e 0 0), .int (x), .int (z)] (tsW y e A R Q b0 b1 nx kp Gr K t len) ((boR (R 1) x z).1) (tsW y e A (upG (upG R 2 (R 1)) 1 ((boR (R 1) x z).2)) Q b0 b1 (rcN nx ((boR (R 1) x z).1)) (rcP kp ((boR (R 1) x z).1)) (rcG Gr nx (R 1) ((boR (R 1) x z).1)) K t len) := by
  refine zMi.mk (cc := cX5_bow) (maxL := 3) (lv := [(0, .ref (e 0 0)), (1, .int (x)), (2, .int (z))]) (by decide) rfl (Nat.le_of_ble_eq_true rfl) rfl (fun X G hE => ?_)
  have hin := in_X5_bow_X5
  unfold tsW at hE ⊢
  refine z_aload_n G dX5_bow_0 0 rfl ?_
  refine z_get G (hin) 0 rfl rfl 1 (by decide) (List.mem_of_getElem? (i := 1) rfl) rfl dX5_bow_1 ?_
  refine z_aload_n G dX5_bow_4 0 rfl ?_
  refine z_get G (hin) 0 rfl rfl 0 (by decide) (List.mem_of_getElem? (i := 2) rfl) rfl dX5_bow_5 ?_
  refine z_pVv (As := [_]) G _ _ (fun l => c_X3_copyFrom l D y (e 2) (e 1) (R 2) (Q 2) (R 1) (Q 1)) k_X3_copyFrom gX5_bow_X3_copyFrom 0 3 rfl rfl rfl dX5_bow_8 ⟨by decide, by decide⟩ ⟨rfl, rfl⟩ ⟨Nat.zero_le _, Nat.zero_le _⟩ rfl (Nat.le_of_ble_eq_true rfl) rfl (fl_two (j := 2) (k := 1) rfl rfl) (fl_two2 (j := 2) (k := 1) rfl rfl) ?_
  refine z_aload_n G dX5_bow_11 0 rfl ?_
  refine z_aload_n G dX5_bow_12 0 rfl ?_
  refine z_get G (hin) 0 rfl rfl 0 (by decide) (List.mem_of_getElem? (i := 2) rfl) rfl dX5_bow_13 ?_
  refine z_iload_n G dX5_bow_16 1 rfl ?_
  refine z_iload_n G dX5_bow_17 2 rfl ?_
  refine z_pVi (As := [_, _]) G _ _ _ (fun l => c_X3_makeBow l D y (e 1) (R 1) (Q 1) h.pf x z) k_X3_makeBow gX5_bow_X3_makeBow 0 3 rfl rfl rfl dX5_bow_18 ⟨by decide, by decide⟩ ⟨rfl, rfl⟩ ⟨Nat.zero_le _, Nat.zero_le _⟩ rfl (Nat.le_of_ble_eq_true rfl) rfl (fl_pick (k := 1) rfl) (fl_put (k := 1) rfl) ?_
  refine z_world (ws' := tsW y e A (upG (upG R 2 (R 1)) 1 ((boR (R 1) x z).2)) Q b0 b1 nx kp Gr K t len) rfl ?_
  refine z_dVi (As := [_]) G _ _ (fun l => c_X5_recorded l D y e A (upG (upG R 2 (R 1)) 1 ((boR (R 1) x z).2)) Q b0 b1 nx kp Gr K t len hn hk ((boR (R 1) x z).1)) k_X5_recorded gX5_bow_X5_recorded 0 5 rfl rfl rfl dX5_bow_21 ⟨by decide, by decide⟩ ⟨rfl, rfl⟩ ⟨Nat.zero_le _, Nat.zero_le _⟩ rfl (Nat.le_of_ble_eq_true rfl) rfl ?_
  exact hE _ _ _ _ dX5_bow_24 rfl ⟨rfl, rfl⟩

theorem k_X5_offer : zCal yX5_offer wsX5_offer cX5_offer 3 (some .int) 2 := ⟨⟨_, rfl⟩, by decide +kernel⟩
theorem in_X5_offer_X5 : ∀ w ∈ wsX50, w ∈ wsX5_offer := fun _ h => List.mem_cons_of_mem _ (List.mem_append_left _ (List.mem_append_left _ (List.mem_append_left _ (List.mem_append_right _ h))))
set_option maxHeartbeats 4000000 in
set_option maxRecDepth 100000 in
theorem c_X5_offer (l : Launch) (D : va_G) (y : Nat → ClassId) (e A : Nat → Nat → Nat) (R Q : Nat → Nat → Int32) (b0 b1 : Bool) (nx kp : Nat) (Gr K : Nat → Nat → Int32) (t : Nat → Int32) (len : Nat) (h : IV (R 1)) (hn : nx < 6) (hk : kp ≤ 6) (x z : Int32) : zDi l D y yX5_offer wsX5_offer ({ frames := 6, cells := 0, slots := 0, locals := 145 }) [.ref (e 0 0), .int (x), .int (z)] (tsW y e A R Q b0 b1 nx kp Gr K t len) ((ofR (R 1) x z (cu (R 1))).1) (tsW y e A (upG (upG R 2 (R 1)) 1 ((ofR (R 1) x z (cu (R 1))).2)) Q b0 b1 (rcN nx ((ofR (R 1) x z (cu (R 1))).1)) (rcP kp ((ofR (R 1) x z (cu (R 1))).1)) (rcG Gr nx (R 1) ((ofR (R 1) x z (cu (R 1))).1)) K t len) := by
  refine zMi.mk (cc := cX5_offer) (maxL := 3) (lv := [(0, .ref (e 0 0)), (1, .int (x)), (2, .int (z))]) (by decide) rfl (Nat.le_of_ble_eq_true rfl) rfl (fun X G hE => ?_)
  have hin := in_X5_offer_X5
  unfold tsW at hE ⊢
  refine z_aload_n G dX5_offer_0 0 rfl ?_
  refine z_get G (hin) 0 rfl rfl 1 (by decide) (List.mem_of_getElem? (i := 1) rfl) rfl dX5_offer_1 ?_
  refine z_aload_n G dX5_offer_4 0 rfl ?_
  refine z_get G (hin) 0 rfl rfl 0 (by decide) (List.mem_of_getElem? (i := 2) rfl) rfl dX5_offer_5 ?_
  refine z_pVv (As := [_]) G _ _ (fun l => c_X3_copyFrom l D y (e 2) (e 1) (R 2) (Q 2) (R 1) (Q 1)) k_X3_copyFrom gX5_offer_X3_copyFrom 0 3 rfl rfl rfl dX5_offer_8 ⟨by decide, by decide⟩ ⟨rfl, rfl⟩ ⟨Nat.zero_le _, Nat.zero_le _⟩ rfl (Nat.le_of_ble_eq_true rfl) rfl (fl_two (j := 2) (k := 1) rfl rfl) (fl_two2 (j := 2) (k := 1) rfl rfl) ?_
  refine z_aload_n G dX5_offer_11 0 rfl ?_
  refine z_aload_n G dX5_offer_12 0 rfl ?_
  refine z_get G (hin) 0 rfl rfl 0 (by decide) (List.mem_of_getElem? (i := 2) rfl) rfl dX5_offer_13 ?_
  refine z_iload_n G dX5_offer_16 1 rfl ?_
  refine z_iload_n G dX5_offer_17 2 rfl ?_
  refine z_pVi (As := [_, _]) G _ _ _ (fun l => c_X3_offerCup l D y (e 1) (R 1) (Q 1) h.pf x z h.hc h.hcm) k_X3_offerCup gX5_offer_X3_offerCup 0 3 rfl rfl rfl dX5_offer_18 ⟨by decide, by decide⟩ ⟨rfl, rfl⟩ ⟨Nat.zero_le _, Nat.zero_le _⟩ rfl (Nat.le_of_ble_eq_true rfl) rfl (fl_pick (k := 1) rfl) (fl_put (k := 1) rfl) ?_
  refine z_world (ws' := tsW y e A (upG (upG R 2 (R 1)) 1 ((ofR (R 1) x z (cu (R 1))).2)) Q b0 b1 nx kp Gr K t len) rfl ?_
  refine z_dVi (As := [_]) G _ _ (fun l => c_X5_recorded l D y e A (upG (upG R 2 (R 1)) 1 ((ofR (R 1) x z (cu (R 1))).2)) Q b0 b1 nx kp Gr K t len hn hk ((ofR (R 1) x z (cu (R 1))).1)) k_X5_recorded gX5_offer_X5_recorded 0 5 rfl rfl rfl dX5_offer_21 ⟨by decide, by decide⟩ ⟨rfl, rfl⟩ ⟨Nat.zero_le _, Nat.zero_le _⟩ rfl (Nat.le_of_ble_eq_true rfl) rfl ?_
  exact hE _ _ _ _ dX5_offer_24 rfl ⟨rfl, rfl⟩

theorem k_X5_breathe : zCal yX5_breathe wsX5_breathe cX5_breathe 2 (some .int) 1 := ⟨⟨_, rfl⟩, by decide +kernel⟩
theorem in_X5_breathe_X5 : ∀ w ∈ wsX50, w ∈ wsX5_breathe := fun _ h => List.mem_cons_of_mem _ (List.mem_append_left _ (List.mem_append_left _ (List.mem_append_left _ (List.mem_append_right _ h))))
set_option maxHeartbeats 4000000 in
set_option maxRecDepth 100000 in
theorem c_X5_breathe (l : Launch) (D : va_G) (y : Nat → ClassId) (e A : Nat → Nat → Nat) (R Q : Nat → Nat → Int32) (b0 b1 : Bool) (nx kp : Nat) (Gr K : Nat → Nat → Int32) (t : Nat → Int32) (len : Nat) (h : IV (R 1)) (hn : nx < 6) (hk : kp ≤ 6) (x : Int32) : zDi l D y yX5_breathe wsX5_breathe ({ frames := 6, cells := 0, slots := 0, locals := 145 }) [.ref (e 0 0), .int (x)] (tsW y e A R Q b0 b1 nx kp Gr K t len) ((beR (R 1) x).1) (tsW y e A (upG (upG R 2 (R 1)) 1 ((beR (R 1) x).2)) Q b0 b1 (rcN nx ((beR (R 1) x).1)) (rcP kp ((beR (R 1) x).1)) (rcG Gr nx (R 1) ((beR (R 1) x).1)) K t len) := by
  refine zMi.mk (cc := cX5_breathe) (maxL := 2) (lv := [(0, .ref (e 0 0)), (1, .int (x))]) (by decide) rfl (Nat.le_of_ble_eq_true rfl) rfl (fun X G hE => ?_)
  have hin := in_X5_breathe_X5
  unfold tsW at hE ⊢
  refine z_aload_n G dX5_breathe_0 0 rfl ?_
  refine z_get G (hin) 0 rfl rfl 1 (by decide) (List.mem_of_getElem? (i := 1) rfl) rfl dX5_breathe_1 ?_
  refine z_aload_n G dX5_breathe_4 0 rfl ?_
  refine z_get G (hin) 0 rfl rfl 0 (by decide) (List.mem_of_getElem? (i := 2) rfl) rfl dX5_breathe_5 ?_
  refine z_pVv (As := [_]) G _ _ (fun l => c_X3_copyFrom l D y (e 2) (e 1) (R 2) (Q 2) (R 1) (Q 1)) k_X3_copyFrom gX5_breathe_X3_copyFrom 0 3 rfl rfl rfl dX5_breathe_8 ⟨by decide, by decide⟩ ⟨rfl, rfl⟩ ⟨Nat.zero_le _, Nat.zero_le _⟩ rfl (Nat.le_of_ble_eq_true rfl) rfl (fl_two (j := 2) (k := 1) rfl rfl) (fl_two2 (j := 2) (k := 1) rfl rfl) ?_
  refine z_aload_n G dX5_breathe_11 0 rfl ?_
  refine z_aload_n G dX5_breathe_12 0 rfl ?_
  refine z_get G (hin) 0 rfl rfl 0 (by decide) (List.mem_of_getElem? (i := 2) rfl) rfl dX5_breathe_13 ?_
  refine z_iload_n G dX5_breathe_16 1 rfl ?_
  refine z_pVi (As := [_]) G _ _ _ (fun l => c_X3_breatheOn l D y (e 1) (R 1) (Q 1) h.pf x) k_X3_breatheOn gX5_breathe_X3_breatheOn 0 3 rfl rfl rfl dX5_breathe_17 ⟨by decide, by decide⟩ ⟨rfl, rfl⟩ ⟨Nat.zero_le _, Nat.zero_le _⟩ rfl (Nat.le_of_ble_eq_true rfl) rfl (fl_pick (k := 1) rfl) (fl_put (k := 1) rfl) ?_
  refine z_world (ws' := tsW y e A (upG (upG R 2 (R 1)) 1 ((beR (R 1) x).2)) Q b0 b1 nx kp Gr K t len) rfl ?_
  refine z_dVi (As := [_]) G _ _ (fun l => c_X5_recorded l D y e A (upG (upG R 2 (R 1)) 1 ((beR (R 1) x).2)) Q b0 b1 nx kp Gr K t len hn hk ((beR (R 1) x).1)) k_X5_recorded gX5_breathe_X5_recorded 0 5 rfl rfl rfl dX5_breathe_20 ⟨by decide, by decide⟩ ⟨rfl, rfl⟩ ⟨Nat.zero_le _, Nat.zero_le _⟩ rfl (Nat.le_of_ble_eq_true rfl) rfl ?_
  exact hE _ _ _ _ dX5_breathe_23 rfl ⟨rfl, rfl⟩

theorem k_X5_round : zCal yX5_round wsX5_round cX5_round 1 (some .int) 0 := ⟨⟨_, rfl⟩, by decide +kernel⟩
theorem in_X5_round_X5 : ∀ w ∈ wsX50, w ∈ wsX5_round := fun _ h => List.mem_cons_of_mem _ (List.mem_append_left _ (List.mem_append_left _ (List.mem_append_left _ (List.mem_append_right _ h))))
set_option maxHeartbeats 4000000 in
set_option maxRecDepth 100000 in
theorem c_X5_round (l : Launch) (D : va_G) (y : Nat → ClassId) (e A : Nat → Nat → Nat) (R Q : Nat → Nat → Int32) (b0 b1 : Bool) (nx kp : Nat) (Gr K : Nat → Nat → Int32) (t : Nat → Int32) (len : Nat) (h : IV (R 1)) (hn : nx < 6) (hk : kp ≤ 6) : zDi l D y yX5_round wsX5_round ({ frames := 6, cells := 0, slots := 0, locals := 145 }) [.ref (e 0 0)] (tsW y e A R Q b0 b1 nx kp Gr K t len) ((roR (R 1) (cu (R 1))).1) (tsW y e A (upG (upG R 2 (R 1)) 1 ((roR (R 1) (cu (R 1))).2)) (upG Q 1 (if ng (R 1) = 0 ∨ nI 9900 < R 1 4 then Q 1 else rkA (cpH (R 1) (cu (R 1)) (ng (R 1))).1)) b0 b1 (rcN nx ((roR (R 1) (cu (R 1))).1)) (rcP kp ((roR (R 1) (cu (R 1))).1)) (rcG Gr nx (R 1) ((roR (R 1) (cu (R 1))).1)) K t len) := by
  refine zMi.mk (cc := cX5_round) (maxL := 1) (lv := [(0, .ref (e 0 0))]) (by decide) rfl (Nat.le_of_ble_eq_true rfl) rfl (fun X G hE => ?_)
  have hin := in_X5_round_X5
  unfold tsW at hE ⊢
  refine z_aload_n G dX5_round_0 0 rfl ?_
  refine z_get G (hin) 0 rfl rfl 1 (by decide) (List.mem_of_getElem? (i := 1) rfl) rfl dX5_round_1 ?_
  refine z_aload_n G dX5_round_4 0 rfl ?_
  refine z_get G (hin) 0 rfl rfl 0 (by decide) (List.mem_of_getElem? (i := 2) rfl) rfl dX5_round_5 ?_
  refine z_pVv (As := [_]) G _ _ (fun l => c_X3_copyFrom l D y (e 2) (e 1) (R 2) (Q 2) (R 1) (Q 1)) k_X3_copyFrom gX5_round_X3_copyFrom 0 3 rfl rfl rfl dX5_round_8 ⟨by decide, by decide⟩ ⟨rfl, rfl⟩ ⟨Nat.zero_le _, Nat.zero_le _⟩ rfl (Nat.le_of_ble_eq_true rfl) rfl (fl_two (j := 2) (k := 1) rfl rfl) (fl_two2 (j := 2) (k := 1) rfl rfl) ?_
  refine z_aload_n G dX5_round_11 0 rfl ?_
  refine z_aload_n G dX5_round_12 0 rfl ?_
  refine z_get G (hin) 0 rfl rfl 0 (by decide) (List.mem_of_getElem? (i := 2) rfl) rfl dX5_round_13 ?_
  refine z_pVi (As := []) G _ _ _ (fun l => c_X3_holdRound l D y (e 1) (R 1) (Q 1) h.pf h.su h.sj h.hc h.hcm) k_X3_holdRound gX5_round_X3_holdRound 0 3 rfl rfl rfl dX5_round_16 ⟨by decide, by decide⟩ ⟨rfl, rfl⟩ ⟨Nat.zero_le _, Nat.zero_le _⟩ rfl (Nat.le_of_ble_eq_true rfl) rfl (fl_pick (k := 1) rfl) (fl_put (k := 1) rfl) ?_
  refine z_world (ws' := tsW y e A (upG (upG R 2 (R 1)) 1 ((roR (R 1) (cu (R 1))).2)) (upG Q 1 (if ng (R 1) = 0 ∨ nI 9900 < R 1 4 then Q 1 else rkA (cpH (R 1) (cu (R 1)) (ng (R 1))).1)) b0 b1 nx kp Gr K t len) rfl ?_
  refine z_dVi (As := [_]) G _ _ (fun l => c_X5_recorded l D y e A (upG (upG R 2 (R 1)) 1 ((roR (R 1) (cu (R 1))).2)) (upG Q 1 (if ng (R 1) = 0 ∨ nI 9900 < R 1 4 then Q 1 else rkA (cpH (R 1) (cu (R 1)) (ng (R 1))).1)) b0 b1 nx kp Gr K t len hn hk ((roR (R 1) (cu (R 1))).1)) k_X5_recorded gX5_round_X5_recorded 0 5 rfl rfl rfl dX5_round_19 ⟨by decide, by decide⟩ ⟨rfl, rfl⟩ ⟨Nat.zero_le _, Nat.zero_le _⟩ rfl (Nat.le_of_ble_eq_true rfl) rfl ?_
  exact hE _ _ _ _ dX5_round_22 rfl ⟨rfl, rfl⟩

theorem k_X5_seatAnew : zCal yX5_seatAnew wsX5_seatAnew cX5_seatAnew 1 (some .int) 0 := ⟨⟨_, rfl⟩, by decide +kernel⟩
theorem in_X5_seatAnew_X5 : ∀ w ∈ wsX50, w ∈ wsX5_seatAnew := fun _ h => List.mem_cons_of_mem _ (List.mem_append_left _ (List.mem_append_left _ (List.mem_append_left _ (List.mem_append_right _ h))))
set_option maxHeartbeats 4000000 in
set_option maxRecDepth 100000 in
theorem c_X5_seatAnew (l : Launch) (D : va_G) (y : Nat → ClassId) (e A : Nat → Nat → Nat) (R Q : Nat → Nat → Int32) (b0 b1 : Bool) (nx kp : Nat) (Gr K : Nat → Nat → Int32) (t : Nat → Int32) (len : Nat) (h : IV (R 1)) (hn : nx < 6) (hk : kp ≤ 6) : zDi l D y yX5_seatAnew wsX5_seatAnew ({ frames := 6, cells := 0, slots := 0, locals := 145 }) [.ref (e 0 0)] (tsW y e A R Q b0 b1 nx kp Gr K t len) (nI (cnt (stCP (R 1)) 9)) (tsW y e A (upG (upG R 2 (R 1)) 1 (stF (R 1) 9)) (upG Q 1 (rkA (R 1))) b0 b1 (rcN nx (nI (cnt (stCP (R 1)) 9))) (rcP kp (nI (cnt (stCP (R 1)) 9))) (rcG Gr nx (R 1) (nI (cnt (stCP (R 1)) 9))) K t len) := by
  refine zMi.mk (cc := cX5_seatAnew) (maxL := 1) (lv := [(0, .ref (e 0 0))]) (by decide) rfl (Nat.le_of_ble_eq_true rfl) rfl (fun X G hE => ?_)
  have hin := in_X5_seatAnew_X5
  unfold tsW at hE ⊢
  refine z_aload_n G dX5_seatAnew_0 0 rfl ?_
  refine z_get G (hin) 0 rfl rfl 1 (by decide) (List.mem_of_getElem? (i := 1) rfl) rfl dX5_seatAnew_1 ?_
  refine z_aload_n G dX5_seatAnew_4 0 rfl ?_
  refine z_get G (hin) 0 rfl rfl 0 (by decide) (List.mem_of_getElem? (i := 2) rfl) rfl dX5_seatAnew_5 ?_
  refine z_pVv (As := [_]) G _ _ (fun l => c_X3_copyFrom l D y (e 2) (e 1) (R 2) (Q 2) (R 1) (Q 1)) k_X3_copyFrom gX5_seatAnew_X3_copyFrom 0 3 rfl rfl rfl dX5_seatAnew_8 ⟨by decide, by decide⟩ ⟨rfl, rfl⟩ ⟨Nat.zero_le _, Nat.zero_le _⟩ rfl (Nat.le_of_ble_eq_true rfl) rfl (fl_two (j := 2) (k := 1) rfl rfl) (fl_two2 (j := 2) (k := 1) rfl rfl) ?_
  refine z_aload_n G dX5_seatAnew_11 0 rfl ?_
  refine z_aload_n G dX5_seatAnew_12 0 rfl ?_
  refine z_get G (hin) 0 rfl rfl 0 (by decide) (List.mem_of_getElem? (i := 2) rfl) rfl dX5_seatAnew_13 ?_
  refine z_pVi (As := []) G _ _ _ (fun l => c_X3_seatByRank l D y (e 1) (R 1) (Q 1) h.pf) k_X3_seatByRank gX5_seatAnew_X3_seatByRank 0 3 rfl rfl rfl dX5_seatAnew_16 ⟨by decide, by decide⟩ ⟨rfl, rfl⟩ ⟨Nat.zero_le _, Nat.zero_le _⟩ rfl (Nat.le_of_ble_eq_true rfl) rfl (fl_pick (k := 1) rfl) (fl_put (k := 1) rfl) ?_
  refine z_world (ws' := tsW y e A (upG (upG R 2 (R 1)) 1 (stF (R 1) 9)) (upG Q 1 (rkA (R 1))) b0 b1 nx kp Gr K t len) rfl ?_
  refine z_dVi (As := [_]) G _ _ (fun l => c_X5_recorded l D y e A (upG (upG R 2 (R 1)) 1 (stF (R 1) 9)) (upG Q 1 (rkA (R 1))) b0 b1 nx kp Gr K t len hn hk (nI (cnt (stCP (R 1)) 9))) k_X5_recorded gX5_seatAnew_X5_recorded 0 5 rfl rfl rfl dX5_seatAnew_19 ⟨by decide, by decide⟩ ⟨rfl, rfl⟩ ⟨Nat.zero_le _, Nat.zero_le _⟩ rfl (Nat.le_of_ble_eq_true rfl) rfl ?_
  exact hE _ _ _ _ dX5_seatAnew_22 rfl ⟨rfl, rfl⟩
