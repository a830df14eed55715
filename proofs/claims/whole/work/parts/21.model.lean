theorem k_X6_in : zCal yX6_in wsX6_in cX6_in 3 (some .boolean) 3 := ⟨⟨_, rfl⟩, by decide +kernel⟩
set_option maxHeartbeats 4000000 in
set_option maxRecDepth 100000 in
theorem c_X6_in (l : Launch) (D : va_G) (y : Nat → ClassId) (x lo hi : Int32) : zDi l D y yX6_in wsX6_in ({ frames := 0, cells := 0, slots := 0, locals := 0 }) [.int (x), .int (lo), .int (hi)] ([]) (bI (inB x lo hi)) ([]) := by
  refine zMi.mk (cc := cX6_in) (maxL := 3) (lv := [(0, .int (x)), (1, .int (lo)), (2, .int (hi))]) (by decide) rfl (Nat.le_of_ble_eq_true rfl) rfl (fun X G hE => ?_)
  refine z_iload_n G dX6_in_0 0 rfl ?_
  refine z_iload_n G dX6_in_1 1 rfl ?_
  refine z_icmp_lt G dX6_in_2 14 (by decide) (fun c2 => ?_) (fun c2 => ?_)
  · refine z_iconst (v := nI 0) G dX6_in_14 rfl ?_
    exact hE _ _ _ _ dX6_in_15 rfl ⟨by first | exact bI_t (by rw [inB, decide_eq_true (Int32.not_lt.mp c2), decide_eq_true (Int32.not_lt.mp c7)]; rfl) | exact bI_f (by rw [inB, decide_eq_false (Int32.not_le.mpr c2)]; rfl) | exact bI_f (by rw [inB, decide_eq_false (Int32.not_le.mpr c7)]; exact Bool.and_false _), rfl⟩
  · refine z_iload_n G dX6_in_5 0 rfl ?_
    refine z_iload_n G dX6_in_6 2 rfl ?_
    refine z_icmp_gt G dX6_in_7 14 (by decide) (fun c7 => ?_) (fun c7 => ?_)
    · refine z_iconst (v := nI 0) G dX6_in_14 rfl ?_
      exact hE _ _ _ _ dX6_in_15 rfl ⟨by first | exact bI_t (by rw [inB, decide_eq_true (Int32.not_lt.mp c2), decide_eq_true (Int32.not_lt.mp c7)]; rfl) | exact bI_f (by rw [inB, decide_eq_false (Int32.not_le.mpr c2)]; rfl) | exact bI_f (by rw [inB, decide_eq_false (Int32.not_le.mpr c7)]; exact Bool.and_false _), rfl⟩
    · refine z_iconst (v := nI 1) G dX6_in_10 rfl ?_
      refine z_goto (tgt := 15) G dX6_in_11 (by decide) ?_
      exact hE _ _ _ _ dX6_in_15 rfl ⟨by first | exact bI_t (by rw [inB, decide_eq_true (Int32.not_lt.mp c2), decide_eq_true (Int32.not_lt.mp c7)]; rfl) | exact bI_f (by rw [inB, decide_eq_false (Int32.not_le.mpr c2)]; rfl) | exact bI_f (by rw [inB, decide_eq_false (Int32.not_le.mpr c7)]; exact Bool.and_false _), rfl⟩

theorem k_X6_g : zCal yX6_g wsX6_g cX6_g 1 (some .int) 1 := ⟨⟨_, rfl⟩, by decide +kernel⟩
set_option maxHeartbeats 4000000 in
set_option maxRecDepth 100000 in
theorem c_X6_g (l : Launch) (D : va_G) (y : Nat → ClassId) (g : Nat) : zDi l D y yX6_g wsX6_g ({ frames := 0, cells := 0, slots := 0, locals := 0 }) [.int (nI (g))] ([]) (nI (13 + 17 * g)) ([]) := by
  refine zMi.mk (cc := cX6_g) (maxL := 1) (lv := [(0, .int (nI (g)))]) (by decide) rfl (Nat.le_of_ble_eq_true rfl) rfl (fun X G hE => ?_)
  refine z_bipush (v := nI 13) G dX6_g_0 rfl ?_
  refine z_bipush (v := nI 17) G dX6_g_2 rfl ?_
  refine z_iload_n G dX6_g_4 0 rfl ?_
  refine z_imulN G dX6_g_5 (17 * g) (by omega) ?_
  refine z_iaddN G dX6_g_6 (13 + 17 * g) (by omega) ?_
  exact hE _ _ _ _ dX6_g_7 rfl ⟨rfl, rfl⟩

theorem k_X6_isGuest : zCal yX6_isGuest wsX6_isGuest cX6_isGuest 2 (some .boolean) 1 := ⟨⟨_, rfl⟩, by decide +kernel⟩
theorem in_X6_isGuest_X6 : ∀ w ∈ wsX60, w ∈ wsX6_isGuest := fun _ h => List.mem_cons_of_mem _ (List.mem_append_right _ h)
set_option maxHeartbeats 4000000 in
set_option maxRecDepth 100000 in
theorem c_X6_isGuest (l : Launch) (D : va_G) (y : Nat → ClassId) (b : Nat → Nat) (s : Nat → Int32) (q : mdQ) (x : Int32) : zDi l D y yX6_isGuest wsX6_isGuest ({ frames := 1, cells := 0, slots := 0, locals := 22 }) [.ref (b 0), .int (x)] (mdW y b s q) (bI (hx s x)) (mdW y b s q) := by
  refine zMi.mk (cc := cX6_isGuest) (maxL := 2) (lv := [(0, .ref (b 0)), (1, .int (x))]) (by decide) rfl (Nat.le_of_ble_eq_true rfl) rfl (fun X G hE => ?_)
  have hin := in_X6_isGuest_X6
  refine z_iload_n G dX6_isGuest_0 1 rfl ?_
  refine z_iconst (v := nI 0) G dX6_isGuest_1 rfl ?_
  refine z_bipush (v := nI 8) G dX6_isGuest_2 rfl ?_
  refine z_pSi (As := [_, _, _]) G _ _ _ (fun l => c_X6_in l D y x (nI 0) (nI 8)) k_X6_in gX6_isGuest_X6_in dX6_isGuest_4 ⟨by decide, by decide⟩ ⟨rfl, rfl⟩ ⟨Nat.zero_le _, Nat.zero_le _⟩ rfl (Nat.le_of_ble_eq_true rfl) rfl (List.Perm.refl _) (List.Perm.refl _) ?_
  refine z_if_eq G dX6_isGuest_7 27 (by decide) (fun c7 => ?_) (fun c7 => ?_)
  · refine z_iconst (v := nI 0) G dX6_isGuest_27 rfl ?_
    exact hE _ _ _ _ dX6_isGuest_28 rfl ⟨by first | exact bI_t ((hx_n hg).trans (decide_eq_true c20)) | exact bI_t ((hx_n hg).trans (decide_eq_true (Decidable.of_not_not c20))) | exact bI_f ((hx_n hg).trans (decide_eq_false c20)) | exact bI_f (in8_f (bI_0 c7)), rfl⟩
  · obtain ⟨g, hg, rfl⟩ := in8_t (bI_n c7)
    refine z_aload_n G dX6_isGuest_10 0 rfl ?_
    refine mg_s G hin (List.mem_of_getElem? (i := 1) rfl) dX6_isGuest_11 ?_
    refine z_iload_n G dX6_isGuest_14 1 rfl ?_
    refine z_pSi (As := [_]) G _ _ _ (fun l => c_X6_g l D y (g)) k_X6_g gX6_isGuest_X6_g dX6_isGuest_15 ⟨by decide, by decide⟩ ⟨rfl, rfl⟩ ⟨Nat.zero_le _, Nat.zero_le _⟩ rfl (Nat.le_of_ble_eq_true rfl) rfl (List.Perm.refl _) (List.Perm.refl _) ?_
    refine ml_s G (by omega) dX6_isGuest_18 ?_
    refine z_iconst (v := nI 1) G dX6_isGuest_19 rfl ?_
    refine z_icmp_ne G dX6_isGuest_20 27 (by decide) (fun c20 => ?_) (fun c20 => ?_)
    · refine z_iconst (v := nI 0) G dX6_isGuest_27 rfl ?_
      exact hE _ _ _ _ dX6_isGuest_28 rfl ⟨by first | exact bI_t ((hx_n hg).trans (decide_eq_true c20)) | exact bI_t ((hx_n hg).trans (decide_eq_true (Decidable.of_not_not c20))) | exact bI_f ((hx_n hg).trans (decide_eq_false c20)) | exact bI_f (in8_f (bI_0 c7)), rfl⟩
    · refine z_iconst (v := nI 1) G dX6_isGuest_23 rfl ?_
      refine z_goto (tgt := 28) G dX6_isGuest_24 (by decide) ?_
      exact hE _ _ _ _ dX6_isGuest_28 rfl ⟨by first | exact bI_t ((hx_n hg).trans (decide_eq_true c20)) | exact bI_t ((hx_n hg).trans (decide_eq_true (Decidable.of_not_not c20))) | exact bI_f ((hx_n hg).trans (decide_eq_false c20)) | exact bI_f (in8_f (bI_0 c7)), rfl⟩

theorem c_X6_isGuest_n (l : Launch) (D : va_G) (y : Nat → ClassId) (b : Nat → Nat) (s : Nat → Int32) (q : mdQ) {g : Nat} (hg : g < 9) : zDi l D y yX6_isGuest wsX6_isGuest (({ frames := 1, cells := 0, slots := 0, locals := 22 })) [.ref (b 0), .int (nI g)] (mdW y b s q) (bI (gs s g)) (mdW y b s q) := by
  have h := c_X6_isGuest l D y b s q (nI g)
  rwa [hx_n hg] at h

theorem k_X6_guests : zCal yX6_guests wsX6_guests cX6_guests 3 (some .int) 0 := ⟨⟨_, rfl⟩, by decide +kernel⟩
theorem in_X6_guests_X6 : ∀ w ∈ wsX60, w ∈ wsX6_guests := fun _ h => List.mem_cons_of_mem _ (List.mem_append_right _ h)
set_option maxHeartbeats 4000000 in
set_option maxRecDepth 100000 in
theorem c_X6_guests (l : Launch) (D : va_G) (y : Nat → ClassId) (b : Nat → Nat) (s : Nat → Int32) (q : mdQ) (hp : PF s) : zDi l D y yX6_guests wsX6_guests ({ frames := 1, cells := 0, slots := 0, locals := 20 }) [.ref (b 0)] (mdW y b s q) (nI (ng s)) (mdW y b s q) := by
  refine zMi.mk (cc := cX6_guests) (maxL := 3) (lv := [(0, .ref (b 0))]) (by decide) rfl (Nat.le_of_ble_eq_true rfl) rfl (fun X G hE => ?_)
  have hin := in_X6_guests_X6
  refine z_iconst (v := nI 0) G dX6_guests_0 rfl ?_
  refine z_istore_nA G dX6_guests_1 rfl (by decide) rfl ?_
  refine z_iconst (v := nI 0) G dX6_guests_2 rfl ?_
  refine z_istore_nA G dX6_guests_3 rfl (by decide) rfl ?_
  have lo : ∀ nj j : Nat, nj + j = 9 → zV D X (mdW y b s q) 0 0 4 [(0, .ref (b 0)), (1, .int (nI (cnt (gs s) (j)))), (2, .int (nI (j)))] [] := by
    intro nj
    induction nj with
    | zero =>
      intro j hj
      obtain rfl : j = 9 := by omega
      refine z_iload_n G dX6_guests_4 2 rfl ?_
      refine z_bipush (v := nI 9) G dX6_guests_5 rfl ?_
      refine z_icmp_geT G dX6_guests_7 28 (by decide) (nI_le (Nat.le_refl _) (by decide)) ?_
      refine z_iload_n G dX6_guests_28 1 rfl ?_
      exact hE _ _ _ _ dX6_guests_29 rfl ⟨rfl, rfl⟩
    | succ nj ihj =>
      intro j hj
      have lj : j < 9 := by omega
      refine z_iload_n G dX6_guests_4 2 rfl ?_
      refine z_bipush (v := nI 9) G dX6_guests_5 rfl ?_
      refine z_icmp_geF G dX6_guests_7 28 (by decide) (nI_ge lj (by decide)) ?_
      refine z_iload_n G dX6_guests_10 1 rfl ?_
      refine z_aload_n G dX6_guests_11 0 rfl ?_
      refine mg_s G hin (List.mem_of_getElem? (i := 1) rfl) dX6_guests_12 ?_
      refine z_iload_n G dX6_guests_15 2 rfl ?_
      refine z_pSi (As := [_]) G _ _ _ (fun l => c_X6_g l D y (j)) k_X6_g gX6_guests_X6_g dX6_guests_16 ⟨by decide, by decide⟩ ⟨rfl, rfl⟩ ⟨Nat.zero_le _, Nat.zero_le _⟩ rfl (Nat.le_of_ble_eq_true rfl) rfl (List.Perm.refl _) (List.Perm.refl _) ?_
      refine ml_s G (by omega) dX6_guests_19 ?_
      refine z_iadd G dX6_guests_20 ?_
      refine z_top (w := .int (nI (cnt (gs s) (j + 1)))) (congrArg Value.int (fl_add hp lj)) ?_
      refine z_istore_n G dX6_guests_21 rfl (by decide) 1 rfl ?_
      refine z_iinc G dX6_guests_22 2 rfl (nI (j + 1)) (nI_inc _) (by decide) rfl ?_
      refine z_goto (tgt := 4) G dX6_guests_25 (by decide) ?_
      exact ihj (j + 1) (by omega)
  exact lo 9 0 rfl

theorem k_X6_owed : zCal yX6_owed wsX6_owed cX6_owed 4 (some .int) 1 := ⟨⟨_, rfl⟩, by decide +kernel⟩
theorem in_X6_owed_X6 : ∀ w ∈ wsX60, w ∈ wsX6_owed := fun _ h => List.mem_cons_of_mem _ (List.mem_append_right _ h)
set_option maxHeartbeats 4000000 in
set_option maxRecDepth 100000 in
theorem c_X6_owed (l : Launch) (D : va_G) (y : Nat → ClassId) (b : Nat → Nat) (s : Nat → Int32) (q : mdQ) {g : Nat} (hg : g < 9) : zDi l D y yX6_owed wsX6_owed ({ frames := 1, cells := 0, slots := 0, locals := 20 }) [.ref (b 0), .int (nI (g))] (mdW y b s q) (owd s g) (mdW y b s q) := by
  refine zMi.mk (cc := cX6_owed) (maxL := 4) (lv := [(0, .ref (b 0)), (1, .int (nI (g)))]) (by decide) rfl (Nat.le_of_ble_eq_true rfl) rfl (fun X G hE => ?_)
  have hin := in_X6_owed_X6
  refine z_iconst (v := nI 0) G dX6_owed_0 rfl ?_
  refine z_istore_nA G dX6_owed_1 rfl (by decide) rfl ?_
  refine z_iconst (v := nI 0) G dX6_owed_2 rfl ?_
  refine z_istore_nA G dX6_owed_3 rfl (by decide) rfl ?_
  have lo : ∀ nj j : Nat, nj + j = 9 → zV D X (mdW y b s q) 0 0 4 [(0, .ref (b 0)), (1, .int (nI (g))), (2, .int (sumI (fun o => s (21 + 17 * g + o)) (j))), (3, .int (nI (j)))] [] := by
    intro nj
    induction nj with
    | zero =>
      intro j hj
      obtain rfl : j = 9 := by omega
      refine z_iload_n G dX6_owed_4 3 rfl ?_
      refine z_bipush (v := nI 9) G dX6_owed_5 rfl ?_
      refine z_icmp_geT G dX6_owed_7 33 (by decide) (nI_le (Nat.le_refl _) (by decide)) ?_
      refine z_iload_n G dX6_owed_33 2 rfl ?_
      exact hE _ _ _ _ dX6_owed_34 rfl ⟨rfl, rfl⟩
    | succ nj ihj =>
      intro j hj
      have lj : j < 9 := by omega
      refine z_iload_n G dX6_owed_4 3 rfl ?_
      refine z_bipush (v := nI 9) G dX6_owed_5 rfl ?_
      refine z_icmp_geF G dX6_owed_7 33 (by decide) (nI_ge lj (by decide)) ?_
      refine z_iload_n G dX6_owed_10 2 rfl ?_
      refine z_aload_n G dX6_owed_11 0 rfl ?_
      refine mg_s G hin (List.mem_of_getElem? (i := 1) rfl) dX6_owed_12 ?_
      refine z_iload_n G dX6_owed_15 1 rfl ?_
      refine z_pSi (As := [_]) G _ _ _ (fun l => c_X6_g l D y (g)) k_X6_g gX6_owed_X6_g dX6_owed_16 ⟨by decide, by decide⟩ ⟨rfl, rfl⟩ ⟨Nat.zero_le _, Nat.zero_le _⟩ rfl (Nat.le_of_ble_eq_true rfl) rfl (List.Perm.refl _) (List.Perm.refl _) ?_
      refine z_bipush (v := nI 8) G dX6_owed_19 rfl ?_
      refine z_iaddN G dX6_owed_21 (21 + 17 * g) (by omega) ?_
      refine z_iload_n G dX6_owed_22 3 rfl ?_
      refine z_iaddN G dX6_owed_23 (21 + 17 * g + j) (by omega) ?_
      refine ml_s G (by omega) dX6_owed_24 ?_
      refine z_iadd G dX6_owed_25 ?_
      refine z_istore_n G dX6_owed_26 rfl (by decide) 2 rfl ?_
      refine z_iinc G dX6_owed_27 3 rfl (nI (j + 1)) (nI_inc _) (by decide) rfl ?_
      refine z_goto (tgt := 4) G dX6_owed_30 (by decide) ?_
      exact ihj (j + 1) (by omega)
  exact lo 9 0 rfl

theorem k_X6_owedTo : zCal yX6_owedTo wsX6_owedTo cX6_owedTo 4 (some .int) 1 := ⟨⟨_, rfl⟩, by decide +kernel⟩
theorem in_X6_owedTo_X6 : ∀ w ∈ wsX60, w ∈ wsX6_owedTo := fun _ h => List.mem_cons_of_mem _ (List.mem_append_right _ h)
set_option maxHeartbeats 4000000 in
set_option maxRecDepth 100000 in
theorem c_X6_owedTo (l : Launch) (D : va_G) (y : Nat → ClassId) (b : Nat → Nat) (s : Nat → Int32) (q : mdQ) {g : Nat} (hg : g < 9) : zDi l D y yX6_owedTo wsX6_owedTo ({ frames := 1, cells := 0, slots := 0, locals := 20 }) [.ref (b 0), .int (nI (g))] (mdW y b s q) (owt s g) (mdW y b s q) := by
  refine zMi.mk (cc := cX6_owedTo) (maxL := 4) (lv := [(0, .ref (b 0)), (1, .int (nI (g)))]) (by decide) rfl (Nat.le_of_ble_eq_true rfl) rfl (fun X G hE => ?_)
  have hin := in_X6_owedTo_X6
  refine z_iconst (v := nI 0) G dX6_owedTo_0 rfl ?_
  refine z_istore_nA G dX6_owedTo_1 rfl (by decide) rfl ?_
  refine z_iconst (v := nI 0) G dX6_owedTo_2 rfl ?_
  refine z_istore_nA G dX6_owedTo_3 rfl (by decide) rfl ?_
  have lo : ∀ nj j : Nat, nj + j = 9 → zV D X (mdW y b s q) 0 0 4 [(0, .ref (b 0)), (1, .int (nI (g))), (2, .int (sumI (fun o => s (21 + 17 * o + g)) (j))), (3, .int (nI (j)))] [] := by
    intro nj
    induction nj with
    | zero =>
      intro j hj
      obtain rfl : j = 9 := by omega
      refine z_iload_n G dX6_owedTo_4 3 rfl ?_
      refine z_bipush (v := nI 9) G dX6_owedTo_5 rfl ?_
      refine z_icmp_geT G dX6_owedTo_7 33 (by decide) (nI_le (Nat.le_refl _) (by decide)) ?_
      refine z_iload_n G dX6_owedTo_33 2 rfl ?_
      exact hE _ _ _ _ dX6_owedTo_34 rfl ⟨rfl, rfl⟩
    | succ nj ihj =>
      intro j hj
      have lj : j < 9 := by omega
      refine z_iload_n G dX6_owedTo_4 3 rfl ?_
      refine z_bipush (v := nI 9) G dX6_owedTo_5 rfl ?_
      refine z_icmp_geF G dX6_owedTo_7 33 (by decide) (nI_ge lj (by decide)) ?_
      refine z_iload_n G dX6_owedTo_10 2 rfl ?_
      refine z_aload_n G dX6_owedTo_11 0 rfl ?_
      refine mg_s G hin (List.mem_of_getElem? (i := 1) rfl) dX6_owedTo_12 ?_
      refine z_iload_n G dX6_owedTo_15 3 rfl ?_
      refine z_pSi (As := [_]) G _ _ _ (fun l => c_X6_g l D y (j)) k_X6_g gX6_owedTo_X6_g dX6_owedTo_16 ⟨by decide, by decide⟩ ⟨rfl, rfl⟩ ⟨Nat.zero_le _, Nat.zero_le _⟩ rfl (Nat.le_of_ble_eq_true rfl) rfl (List.Perm.refl _) (List.Perm.refl _) ?_
      refine z_bipush (v := nI 8) G dX6_owedTo_19 rfl ?_
      refine z_iaddN G dX6_owedTo_21 (21 + 17 * j) (by omega) ?_
      refine z_iload_n G dX6_owedTo_22 1 rfl ?_
      refine z_iaddN G dX6_owedTo_23 (21 + 17 * j + g) (by omega) ?_
      refine ml_s G (by omega) dX6_owedTo_24 ?_
      refine z_iadd G dX6_owedTo_25 ?_
      refine z_istore_n G dX6_owedTo_26 rfl (by decide) 2 rfl ?_
      refine z_iinc G dX6_owedTo_27 3 rfl (nI (j + 1)) (nI_inc _) (by decide) rfl ?_
      refine z_goto (tgt := 4) G dX6_owedTo_30 (by decide) ?_
      exact ihj (j + 1) (by omega)
  exact lo 9 0 rfl

theorem k_X6_isAhead : zCal yX6_isAhead wsX6_isAhead cX6_isAhead 6 (some .boolean) 2 := ⟨⟨_, rfl⟩, by decide +kernel⟩
theorem in_X6_isAhead_X6 : ∀ w ∈ wsX60, w ∈ wsX6_isAhead := fun _ h => List.mem_cons_of_mem _ (List.mem_append_right _ h)
set_option maxHeartbeats 4000000 in
set_option maxRecDepth 100000 in
theorem c_X6_isAhead (l : Launch) (D : va_G) (y : Nat → ClassId) (b : Nat → Nat) (s : Nat → Int32) (q : mdQ) (hb : OB s) {g o : Nat} (hg : g < 9) (ho : o < 9) : zDi l D y yX6_isAhead wsX6_isAhead ({ frames := 2, cells := 0, slots := 0, locals := 43 }) [.ref (b 0), .int (nI (g)), .int (nI (o))] (mdW y b s q) (bI (ahd s g o)) (mdW y b s q) := by
  refine zMi.mk (cc := cX6_isAhead) (maxL := 6) (lv := [(0, .ref (b 0)), (1, .int (nI (g))), (2, .int (nI (o)))]) (by decide) rfl (Nat.le_of_ble_eq_true rfl) rfl (fun X G hE => ?_)
  have hin := in_X6_isAhead_X6
  refine z_iload_n G dX6_isAhead_0 1 rfl ?_
  refine z_pSi (As := [_]) G _ _ _ (fun l => c_X6_g l D y (g)) k_X6_g gX6_isAhead_X6_g dX6_isAhead_1 ⟨by decide, by decide⟩ ⟨rfl, rfl⟩ ⟨Nat.zero_le _, Nat.zero_le _⟩ rfl (Nat.le_of_ble_eq_true rfl) rfl (List.Perm.refl _) (List.Perm.refl _) ?_
  refine z_istore_nA G dX6_isAhead_4 rfl (by decide) rfl ?_
  refine z_iload_n G dX6_isAhead_5 2 rfl ?_
  refine z_pSi (As := [_]) G _ _ _ (fun l => c_X6_g l D y (o)) k_X6_g gX6_isAhead_X6_g dX6_isAhead_6 ⟨by decide, by decide⟩ ⟨rfl, rfl⟩ ⟨Nat.zero_le _, Nat.zero_le _⟩ rfl (Nat.le_of_ble_eq_true rfl) rfl (List.Perm.refl _) (List.Perm.refl _) ?_
  refine z_istoreA G dX6_isAhead_9 (by decide) rfl ?_
  refine z_aload_n G dX6_isAhead_11 0 rfl ?_
  refine mg_s G hin (List.mem_of_getElem? (i := 1) rfl) dX6_isAhead_12 ?_
  refine z_iload_n G dX6_isAhead_15 3 rfl ?_
  refine z_iconst (v := nI 3) G dX6_isAhead_16 rfl ?_
  refine z_iaddN G dX6_isAhead_17 (16 + 17 * g) (by omega) ?_
  refine ml_s G (by omega) dX6_isAhead_18 ?_
  refine z_aload_n G dX6_isAhead_19 0 rfl ?_
  refine mg_s G hin (List.mem_of_getElem? (i := 1) rfl) dX6_isAhead_20 ?_
  refine z_iload G dX6_isAhead_23 4 rfl ?_
  refine z_iconst (v := nI 3) G dX6_isAhead_25 rfl ?_
  refine z_iaddN G dX6_isAhead_26 (16 + 17 * o) (by omega) ?_
  refine ml_s G (by omega) dX6_isAhead_27 ?_
  refine z_icmp_eq G dX6_isAhead_28 57 (by decide) (fun c28 => ?_) (fun c28 => ?_)
  · refine z_aload_n G dX6_isAhead_57 0 rfl ?_
    refine mg_s G hin (List.mem_of_getElem? (i := 1) rfl) dX6_isAhead_58 ?_
    refine z_iload_n G dX6_isAhead_61 3 rfl ?_
    refine z_iconst (v := nI 4) G dX6_isAhead_62 rfl ?_
    refine z_iaddN G dX6_isAhead_63 (17 + 17 * g) (by omega) ?_
    refine ml_s G (by omega) dX6_isAhead_64 ?_
    refine z_aload_n G dX6_isAhead_65 0 rfl ?_
    refine mg_s G hin (List.mem_of_getElem? (i := 1) rfl) dX6_isAhead_66 ?_
    refine z_iload G dX6_isAhead_69 4 rfl ?_
    refine z_iconst (v := nI 4) G dX6_isAhead_71 rfl ?_
    refine z_iaddN G dX6_isAhead_72 (17 + 17 * o) (by omega) ?_
    refine ml_s G (by omega) dX6_isAhead_73 ?_
    refine z_icmp_eq G dX6_isAhead_74 103 (by decide) (fun c74 => ?_) (fun c74 => ?_)
    · refine z_aload_n G dX6_isAhead_103 0 rfl ?_
      refine z_iload_n G dX6_isAhead_104 1 rfl ?_
      refine z_dVi (As := [_]) G _ _ (fun l => c_X6_owed l D y b s q hg) k_X6_owed gX6_isAhead_X6_owed 0 6 rfl rfl rfl dX6_isAhead_105 ⟨by decide, by decide⟩ ⟨rfl, rfl⟩ ⟨Nat.zero_le _, Nat.zero_le _⟩ rfl (Nat.le_of_ble_eq_true rfl) rfl ?_
      refine z_aload_n G dX6_isAhead_108 0 rfl ?_
      refine z_iload_n G dX6_isAhead_109 2 rfl ?_
      refine z_dVi (As := [_]) G _ _ (fun l => c_X6_owed l D y b s q ho) k_X6_owed gX6_isAhead_X6_owed 0 6 rfl rfl rfl dX6_isAhead_110 ⟨by decide, by decide⟩ ⟨rfl, rfl⟩ ⟨Nat.zero_le _, Nat.zero_le _⟩ rfl (Nat.le_of_ble_eq_true rfl) rfl ?_
      refine z_isub G dX6_isAhead_113 ?_
      refine z_istoreA G dX6_isAhead_114 (by decide) rfl ?_
      refine z_iload G dX6_isAhead_116 5 rfl ?_
      refine z_if_lt G dX6_isAhead_118 146 (by decide) (fun c118 => ?_) (fun c118 => ?_)
      · refine z_iconst (v := nI 1) G dX6_isAhead_146 rfl ?_
        refine z_goto (tgt := 151) G dX6_isAhead_147 (by decide) ?_
        exact hE _ _ _ _ dX6_isAhead_151 rfl ⟨bI_t (by rw [ahd, if_pos c28, if_pos c74, if_neg (fun z => absurd ((ob_lt hb hg ho).mp c118) (by rw [z]; exact Int32.not_lt.mpr (Int32.le_refl _)))]; exact decide_eq_true ((ob_lt hb hg ho).mp c118)), rfl⟩
      · refine z_iload G dX6_isAhead_121 5 rfl ?_
        refine z_if_ne G dX6_isAhead_123 150 (by decide) (fun c123 => ?_) (fun c123 => ?_)
        · refine z_iconst (v := nI 0) G dX6_isAhead_150 rfl ?_
          exact hE _ _ _ _ dX6_isAhead_151 rfl ⟨bI_f (by rw [ahd, if_pos c28, if_pos c74, if_neg (fun z => c123 ((ob_eq hb hg ho).mpr z))]; exact decide_eq_false (fun z => c118 ((ob_lt hb hg ho).mpr z))), rfl⟩
        · refine z_aload_n G dX6_isAhead_126 0 rfl ?_
          refine mg_s G hin (List.mem_of_getElem? (i := 1) rfl) dX6_isAhead_127 ?_
          refine z_iload_n G dX6_isAhead_130 3 rfl ?_
          refine z_iconst (v := nI 1) G dX6_isAhead_131 rfl ?_
          refine z_iaddN G dX6_isAhead_132 (14 + 17 * g) (by omega) ?_
          refine ml_s G (by omega) dX6_isAhead_133 ?_
          refine z_aload_n G dX6_isAhead_134 0 rfl ?_
          refine mg_s G hin (List.mem_of_getElem? (i := 1) rfl) dX6_isAhead_135 ?_
          refine z_iload G dX6_isAhead_138 4 rfl ?_
          refine z_iconst (v := nI 1) G dX6_isAhead_140 rfl ?_
          refine z_iaddN G dX6_isAhead_141 (14 + 17 * o) (by omega) ?_
          refine ml_s G (by omega) dX6_isAhead_142 ?_
          refine z_icmp_ge G dX6_isAhead_143 150 (by decide) (fun c143 => ?_) (fun c143 => ?_)
          · refine z_iconst (v := nI 0) G dX6_isAhead_150 rfl ?_
            exact hE _ _ _ _ dX6_isAhead_151 rfl ⟨bI_f (by rw [ahd, if_pos c28, if_pos c74, if_pos ((ob_eq hb hg ho).mp c123)]; exact decide_eq_false (Int32.not_lt.mpr c143)), rfl⟩
          · refine z_iconst (v := nI 1) G dX6_isAhead_146 rfl ?_
            refine z_goto (tgt := 151) G dX6_isAhead_147 (by decide) ?_
            exact hE _ _ _ _ dX6_isAhead_151 rfl ⟨bI_t (by rw [ahd, if_pos c28, if_pos c74, if_pos ((ob_eq hb hg ho).mp c123)]; exact decide_eq_true (Int32.not_le.mp c143)), rfl⟩
    · refine z_aload_n G dX6_isAhead_77 0 rfl ?_
      refine mg_s G hin (List.mem_of_getElem? (i := 1) rfl) dX6_isAhead_78 ?_
      refine z_iload_n G dX6_isAhead_81 3 rfl ?_
      refine z_iconst (v := nI 4) G dX6_isAhead_82 rfl ?_
      refine z_iaddN G dX6_isAhead_83 (17 + 17 * g) (by omega) ?_
      refine ml_s G (by omega) dX6_isAhead_84 ?_
      refine z_aload_n G dX6_isAhead_85 0 rfl ?_
      refine mg_s G hin (List.mem_of_getElem? (i := 1) rfl) dX6_isAhead_86 ?_
      refine z_iload G dX6_isAhead_89 4 rfl ?_
      refine z_iconst (v := nI 4) G dX6_isAhead_91 rfl ?_
      refine z_iaddN G dX6_isAhead_92 (17 + 17 * o) (by omega) ?_
      refine ml_s G (by omega) dX6_isAhead_93 ?_
      refine z_icmp_ge G dX6_isAhead_94 101 (by decide) (fun c94 => ?_) (fun c94 => ?_)
      · refine z_iconst (v := nI 0) G dX6_isAhead_101 rfl ?_
        exact hE _ _ _ _ dX6_isAhead_102 rfl ⟨bI_f (by rw [ahd, if_pos c28, if_neg c74]; exact decide_eq_false (Int32.not_lt.mpr c94)), rfl⟩
      · refine z_iconst (v := nI 1) G dX6_isAhead_97 rfl ?_
        refine z_goto (tgt := 102) G dX6_isAhead_98 (by decide) ?_
        exact hE _ _ _ _ dX6_isAhead_102 rfl ⟨bI_t (by rw [ahd, if_pos c28, if_neg c74]; exact decide_eq_true (Int32.not_le.mp c94)), rfl⟩
  · refine z_aload_n G dX6_isAhead_31 0 rfl ?_
    refine mg_s G hin (List.mem_of_getElem? (i := 1) rfl) dX6_isAhead_32 ?_
    refine z_iload_n G dX6_isAhead_35 3 rfl ?_
    refine z_iconst (v := nI 3) G dX6_isAhead_36 rfl ?_
    refine z_iaddN G dX6_isAhead_37 (16 + 17 * g) (by omega) ?_
    refine ml_s G (by omega) dX6_isAhead_38 ?_
    refine z_aload_n G dX6_isAhead_39 0 rfl ?_
    refine mg_s G hin (List.mem_of_getElem? (i := 1) rfl) dX6_isAhead_40 ?_
    refine z_iload G dX6_isAhead_43 4 rfl ?_
    refine z_iconst (v := nI 3) G dX6_isAhead_45 rfl ?_
    refine z_iaddN G dX6_isAhead_46 (16 + 17 * o) (by omega) ?_
    refine ml_s G (by omega) dX6_isAhead_47 ?_
    refine z_icmp_le G dX6_isAhead_48 55 (by decide) (fun c48 => ?_) (fun c48 => ?_)
    · refine z_iconst (v := nI 0) G dX6_isAhead_55 rfl ?_
      exact hE _ _ _ _ dX6_isAhead_56 rfl ⟨bI_f (by rw [ahd, if_neg c28]; exact decide_eq_false (Int32.not_lt.mpr c48)), rfl⟩
    · refine z_iconst (v := nI 1) G dX6_isAhead_51 rfl ?_
      refine z_goto (tgt := 56) G dX6_isAhead_52 (by decide) ?_
      exact hE _ _ _ _ dX6_isAhead_56 rfl ⟨bI_t (by rw [ahd, if_neg c28]; exact decide_eq_true (Int32.not_le.mp c48)), rfl⟩

theorem k_X6_rankOf : zCal yX6_rankOf wsX6_rankOf cX6_rankOf 4 (some .int) 1 := ⟨⟨_, rfl⟩, by decide +kernel⟩
theorem in_X6_rankOf_X6 : ∀ w ∈ wsX60, w ∈ wsX6_rankOf := fun _ h => List.mem_cons_of_mem _ (List.mem_append_right _ h)
set_option maxHeartbeats 4000000 in
set_option maxRecDepth 100000 in
theorem c_X6_rankOf (l : Launch) (D : va_G) (y : Nat → ClassId) (b : Nat → Nat) (s : Nat → Int32) (q : mdQ) (hb : OB s) {g : Nat} (hg : g < 9) : zDi l D y yX6_rankOf wsX6_rankOf ({ frames := 3, cells := 0, slots := 0, locals := 68 }) [.ref (b 0), .int (nI (g))] (mdW y b s q) (nI (rk s g)) (mdW y b s q) := by
  refine zMi.mk (cc := cX6_rankOf) (maxL := 4) (lv := [(0, .ref (b 0)), (1, .int (nI (g)))]) (by decide) rfl (Nat.le_of_ble_eq_true rfl) rfl (fun X G hE => ?_)
  have hin := in_X6_rankOf_X6
  refine z_iconst (v := nI 0) G dX6_rankOf_0 rfl ?_
  refine z_istore_nA G dX6_rankOf_1 rfl (by decide) rfl ?_
  refine z_iconst (v := nI 0) G dX6_rankOf_2 rfl ?_
  refine z_istore_nA G dX6_rankOf_3 rfl (by decide) rfl ?_
  have lo : ∀ nj j : Nat, nj + j = 9 → zV D X (mdW y b s q) 0 0 4 [(0, .ref (b 0)), (1, .int (nI (g))), (2, .int (nI (cnt (rkP s g) (j)))), (3, .int (nI (j)))] [] := by
    intro nj
    induction nj with
    | zero =>
      intro j hj
      obtain rfl : j = 9 := by omega
      refine z_iload_n G dX6_rankOf_4 3 rfl ?_
      refine z_bipush (v := nI 9) G dX6_rankOf_5 rfl ?_
      refine z_icmp_geT G dX6_rankOf_7 46 (by decide) (nI_le (Nat.le_refl _) (by decide)) ?_
      refine z_iload_n G dX6_rankOf_46 2 rfl ?_
      exact hE _ _ _ _ dX6_rankOf_47 rfl ⟨rfl, rfl⟩
    | succ nj ihj =>
      intro j hj
      have lj : j < 9 := by omega
      refine z_iload_n G dX6_rankOf_4 3 rfl ?_
      refine z_bipush (v := nI 9) G dX6_rankOf_5 rfl ?_
      refine z_icmp_geF G dX6_rankOf_7 46 (by decide) (nI_ge lj (by decide)) ?_
      refine z_iload_n G dX6_rankOf_10 2 rfl ?_
      refine z_aload_n G dX6_rankOf_11 0 rfl ?_
      refine z_iload_n G dX6_rankOf_12 3 rfl ?_
      refine z_dVi (As := [_]) G _ _ (fun l => c_X6_isGuest_n l D y b _ _ lj) k_X6_isGuest gX6_rankOf_X6_isGuest 0 6 rfl rfl rfl dX6_rankOf_13 ⟨by decide, by decide⟩ ⟨rfl, rfl⟩ ⟨Nat.zero_le _, Nat.zero_le _⟩ rfl (Nat.le_of_ble_eq_true rfl) rfl ?_
      refine z_if_eq G dX6_rankOf_16 37 (by decide) (fun c16 => ?_) (fun c16 => ?_)
      · refine z_iconst (v := nI 0) G dX6_rankOf_37 rfl ?_
        refine z_iaddN G dX6_rankOf_38 (cnt (rkP s g) (j)) (by omega) ?_
        refine z_top (w := .int (nI (cnt (rkP s g) (j + 1)))) (congrArg Value.int (congrArg nI (cnt_f (by rw [rkP, bI_0 c16]; rfl)).symm)) ?_
        refine z_istore_n G dX6_rankOf_39 rfl (by decide) 2 rfl ?_
        refine z_iinc G dX6_rankOf_40 3 rfl (nI (j + 1)) (nI_inc _) (by decide) rfl ?_
        refine z_goto (tgt := 4) G dX6_rankOf_43 (by decide) ?_
        exact ihj (j + 1) (by omega)
      · refine z_iload_n G dX6_rankOf_19 3 rfl ?_
        refine z_iload_n G dX6_rankOf_20 1 rfl ?_
        refine z_icmp_eq G dX6_rankOf_21 37 (by decide) (fun c21 => ?_) (fun c21 => ?_)
        · refine z_iconst (v := nI 0) G dX6_rankOf_37 rfl ?_
          refine z_iaddN G dX6_rankOf_38 (cnt (rkP s g) (j)) (by omega) ?_
          refine z_top (w := .int (nI (cnt (rkP s g) (j + 1)))) (congrArg Value.int (congrArg nI (cnt_f (by rw [rkP, (nI_eq (by omega) (by omega)).mp c21]; simp)).symm)) ?_
          refine z_istore_n G dX6_rankOf_39 rfl (by decide) 2 rfl ?_
          refine z_iinc G dX6_rankOf_40 3 rfl (nI (j + 1)) (nI_inc _) (by decide) rfl ?_
          refine z_goto (tgt := 4) G dX6_rankOf_43 (by decide) ?_
          exact ihj (j + 1) (by omega)
        · refine z_aload_n G dX6_rankOf_24 0 rfl ?_
          refine z_iload_n G dX6_rankOf_25 3 rfl ?_
          refine z_iload_n G dX6_rankOf_26 1 rfl ?_
          refine z_dVi (As := [_, _]) G _ _ (fun l => c_X6_isAhead l D y b s q hb lj hg) k_X6_isAhead gX6_rankOf_X6_isAhead 0 6 rfl rfl rfl dX6_rankOf_27 ⟨by decide, by decide⟩ ⟨rfl, rfl⟩ ⟨Nat.zero_le _, Nat.zero_le _⟩ rfl (Nat.le_of_ble_eq_true rfl) rfl ?_
          refine z_if_eq G dX6_rankOf_30 37 (by decide) (fun c30 => ?_) (fun c30 => ?_)
          · refine z_iconst (v := nI 0) G dX6_rankOf_37 rfl ?_
            refine z_iaddN G dX6_rankOf_38 (cnt (rkP s g) (j)) (by omega) ?_
            refine z_top (w := .int (nI (cnt (rkP s g) (j + 1)))) (congrArg Value.int (congrArg nI (cnt_f (by rw [rkP, bI_0 c30]; simp)).symm)) ?_
            refine z_istore_n G dX6_rankOf_39 rfl (by decide) 2 rfl ?_
            refine z_iinc G dX6_rankOf_40 3 rfl (nI (j + 1)) (nI_inc _) (by decide) rfl ?_
            refine z_goto (tgt := 4) G dX6_rankOf_43 (by decide) ?_
            exact ihj (j + 1) (by omega)
          · refine z_iconst (v := nI 1) G dX6_rankOf_33 rfl ?_
            refine z_goto (tgt := 38) G dX6_rankOf_34 (by decide) ?_
            refine z_iaddN G dX6_rankOf_38 (cnt (rkP s g) (j) + 1) (by omega) ?_
            refine z_top (w := .int (nI (cnt (rkP s g) (j + 1)))) (congrArg Value.int (congrArg nI (cnt_t (by rw [rkP, bI_n c16, bI_n c30]; simp only [Bool.true_and, Bool.and_true, decide_eq_true_eq]; exact fun e => c21 (by rw [e]))).symm)) ?_
            refine z_istore_n G dX6_rankOf_39 rfl (by decide) 2 rfl ?_
            refine z_iinc G dX6_rankOf_40 3 rfl (nI (j + 1)) (nI_inc _) (by decide) rfl ?_
            refine z_goto (tgt := 4) G dX6_rankOf_43 (by decide) ?_
            exact ihj (j + 1) (by omega)
  exact lo 9 0 rfl

theorem k_X6_guestAt : zCal yX6_guestAt wsX6_guestAt cX6_guestAt 4 (some .int) 1 := ⟨⟨_, rfl⟩, by decide +kernel⟩
theorem in_X6_guestAt_X6 : ∀ w ∈ wsX60, w ∈ wsX6_guestAt := fun _ h => List.mem_cons_of_mem _ (List.mem_append_right _ h)
set_option maxHeartbeats 4000000 in
set_option maxRecDepth 100000 in
theorem c_X6_guestAt (l : Launch) (D : va_G) (y : Nat → ClassId) (b : Nat → Nat) (s : Nat → Int32) (q : mdQ) (x : Int32) : zDi l D y yX6_guestAt wsX6_guestAt ({ frames := 2, cells := 0, slots := 0, locals := 43 }) [.ref (b 0), .int (x)] (mdW y b s q) (lst (stP s x) 9) (mdW y b s q) := by
  refine zMi.mk (cc := cX6_guestAt) (maxL := 4) (lv := [(0, .ref (b 0)), (1, .int (x))]) (by decide) rfl (Nat.le_of_ble_eq_true rfl) rfl (fun X G hE => ?_)
  have hin := in_X6_guestAt_X6
  refine z_iconst (v := (-1)) G dX6_guestAt_0 rfl ?_
  refine z_istore_nA G dX6_guestAt_1 rfl (by decide) rfl ?_
  refine z_iconst (v := nI 0) G dX6_guestAt_2 rfl ?_
  refine z_istore_nA G dX6_guestAt_3 rfl (by decide) rfl ?_
  have lo : ∀ nj j : Nat, nj + j = 9 → zV D X (mdW y b s q) 0 0 4 [(0, .ref (b 0)), (1, .int (x)), (2, .int (lst (stP s x) (j))), (3, .int (nI (j)))] [] := by
    intro nj
    induction nj with
    | zero =>
      intro j hj
      obtain rfl : j = 9 := by omega
      refine z_iload_n G dX6_guestAt_4 3 rfl ?_
      refine z_bipush (v := nI 9) G dX6_guestAt_5 rfl ?_
      refine z_icmp_geT G dX6_guestAt_7 45 (by decide) (nI_le (Nat.le_refl _) (by decide)) ?_
      refine z_iload_n G dX6_guestAt_45 2 rfl ?_
      exact hE _ _ _ _ dX6_guestAt_46 rfl ⟨rfl, rfl⟩
    | succ nj ihj =>
      intro j hj
      have lj : j < 9 := by omega
      refine z_iload_n G dX6_guestAt_4 3 rfl ?_
      refine z_bipush (v := nI 9) G dX6_guestAt_5 rfl ?_
      refine z_icmp_geF G dX6_guestAt_7 45 (by decide) (nI_ge lj (by decide)) ?_
      refine z_aload_n G dX6_guestAt_10 0 rfl ?_
      refine z_iload_n G dX6_guestAt_11 3 rfl ?_
      refine z_dVi (As := [_]) G _ _ (fun l => c_X6_isGuest_n l D y b _ _ lj) k_X6_isGuest gX6_guestAt_X6_isGuest 0 6 rfl rfl rfl dX6_guestAt_12 ⟨by decide, by decide⟩ ⟨rfl, rfl⟩ ⟨Nat.zero_le _, Nat.zero_le _⟩ rfl (Nat.le_of_ble_eq_true rfl) rfl ?_
      refine z_if_eq G dX6_guestAt_15 37 (by decide) (fun c15 => ?_) (fun c15 => ?_)
      · refine z_iload_n G dX6_guestAt_37 2 rfl ?_
        refine z_top (w := .int (lst (stP s x) (j + 1))) (congrArg Value.int (by rw [lst, show stP s x j = false by rw [stP, bI_0 c15]; rfl]; rfl)) ?_
        refine z_istore_n G dX6_guestAt_38 rfl (by decide) 2 rfl ?_
        refine z_iinc G dX6_guestAt_39 3 rfl (nI (j + 1)) (nI_inc _) (by decide) rfl ?_
        refine z_goto (tgt := 4) G dX6_guestAt_42 (by decide) ?_
        exact ihj (j + 1) (by omega)
      · refine z_aload_n G dX6_guestAt_18 0 rfl ?_
        refine mg_s G hin (List.mem_of_getElem? (i := 1) rfl) dX6_guestAt_19 ?_
        refine z_iload_n G dX6_guestAt_22 3 rfl ?_
        refine z_pSi (As := [_]) G _ _ _ (fun l => c_X6_g l D y (j)) k_X6_g gX6_guestAt_X6_g dX6_guestAt_23 ⟨by decide, by decide⟩ ⟨rfl, rfl⟩ ⟨Nat.zero_le _, Nat.zero_le _⟩ rfl (Nat.le_of_ble_eq_true rfl) rfl (List.Perm.refl _) (List.Perm.refl _) ?_
        refine z_iconst (v := nI 1) G dX6_guestAt_26 rfl ?_
        refine z_iaddN G dX6_guestAt_27 (14 + 17 * j) (by omega) ?_
        refine ml_s G (by omega) dX6_guestAt_28 ?_
        refine z_iload_n G dX6_guestAt_29 1 rfl ?_
        refine z_icmp_ne G dX6_guestAt_30 37 (by decide) (fun c30 => ?_) (fun c30 => ?_)
        · refine z_iload_n G dX6_guestAt_37 2 rfl ?_
          refine z_top (w := .int (lst (stP s x) (j + 1))) (congrArg Value.int (by rw [lst, show stP s x j = false by rw [stP, decide_eq_false c30]; exact Bool.and_false _]; rfl)) ?_
          refine z_istore_n G dX6_guestAt_38 rfl (by decide) 2 rfl ?_
          refine z_iinc G dX6_guestAt_39 3 rfl (nI (j + 1)) (nI_inc _) (by decide) rfl ?_
          refine z_goto (tgt := 4) G dX6_guestAt_42 (by decide) ?_
          exact ihj (j + 1) (by omega)
        · refine z_iload_n G dX6_guestAt_33 3 rfl ?_
          refine z_goto (tgt := 38) G dX6_guestAt_34 (by decide) ?_
          refine z_top (w := .int (lst (stP s x) (j + 1))) (congrArg Value.int (by rw [lst, if_pos (show stP s x j = true by rw [stP, bI_n c15, decide_eq_true c30]; rfl)])) ?_
          refine z_istore_n G dX6_guestAt_38 rfl (by decide) 2 rfl ?_
          refine z_iinc G dX6_guestAt_39 3 rfl (nI (j + 1)) (nI_inc _) (by decide) rfl ?_
          refine z_goto (tgt := 4) G dX6_guestAt_42 (by decide) ?_
          exact ihj (j + 1) (by omega)
  exact lo 9 0 rfl

theorem k_X6_guestRanked : zCal yX6_guestRanked wsX6_guestRanked cX6_guestRanked 4 (some .int) 1 := ⟨⟨_, rfl⟩, by decide +kernel⟩
theorem in_X6_guestRanked_X6 : ∀ w ∈ wsX60, w ∈ wsX6_guestRanked := fun _ h => List.mem_cons_of_mem _ (List.mem_append_right _ h)
set_option maxHeartbeats 4000000 in
set_option maxRecDepth 100000 in
theorem c_X6_guestRanked (l : Launch) (D : va_G) (y : Nat → ClassId) (b : Nat → Nat) (s : Nat → Int32) (q : mdQ) (hb : OB s) (x : Int32) : zDi l D y yX6_guestRanked wsX6_guestRanked ({ frames := 4, cells := 0, slots := 0, locals := 91 }) [.ref (b 0), .int (x)] (mdW y b s q) (lst (rnP s x) 9) (mdW y b s q) := by
  refine zMi.mk (cc := cX6_guestRanked) (maxL := 4) (lv := [(0, .ref (b 0)), (1, .int (x))]) (by decide) rfl (Nat.le_of_ble_eq_true rfl) rfl (fun X G hE => ?_)
  have hin := in_X6_guestRanked_X6
  refine z_iconst (v := (-1)) G dX6_guestRanked_0 rfl ?_
  refine z_istore_nA G dX6_guestRanked_1 rfl (by decide) rfl ?_
  refine z_iconst (v := nI 0) G dX6_guestRanked_2 rfl ?_
  refine z_istore_nA G dX6_guestRanked_3 rfl (by decide) rfl ?_
  have lo : ∀ nj j : Nat, nj + j = 9 → zV D X (mdW y b s q) 0 0 4 [(0, .ref (b 0)), (1, .int (x)), (2, .int (lst (rnP s x) (j))), (3, .int (nI (j)))] [] := by
    intro nj
    induction nj with
    | zero =>
      intro j hj
      obtain rfl : j = 9 := by omega
      refine z_iload_n G dX6_guestRanked_4 3 rfl ?_
      refine z_bipush (v := nI 9) G dX6_guestRanked_5 rfl ?_
      refine z_icmp_geT G dX6_guestRanked_7 39 (by decide) (nI_le (Nat.le_refl _) (by decide)) ?_
      refine z_iload_n G dX6_guestRanked_39 2 rfl ?_
      exact hE _ _ _ _ dX6_guestRanked_40 rfl ⟨rfl, rfl⟩
    | succ nj ihj =>
      intro j hj
      have lj : j < 9 := by omega
      refine z_iload_n G dX6_guestRanked_4 3 rfl ?_
      refine z_bipush (v := nI 9) G dX6_guestRanked_5 rfl ?_
      refine z_icmp_geF G dX6_guestRanked_7 39 (by decide) (nI_ge lj (by decide)) ?_
      refine z_aload_n G dX6_guestRanked_10 0 rfl ?_
      refine z_iload_n G dX6_guestRanked_11 3 rfl ?_
      refine z_dVi (As := [_]) G _ _ (fun l => c_X6_isGuest_n l D y b _ _ lj) k_X6_isGuest gX6_guestRanked_X6_isGuest 0 6 rfl rfl rfl dX6_guestRanked_12 ⟨by decide, by decide⟩ ⟨rfl, rfl⟩ ⟨Nat.zero_le _, Nat.zero_le _⟩ rfl (Nat.le_of_ble_eq_true rfl) rfl ?_
      refine z_if_eq G dX6_guestRanked_15 31 (by decide) (fun c15 => ?_) (fun c15 => ?_)
      · refine z_iload_n G dX6_guestRanked_31 2 rfl ?_
        refine z_top (w := .int (lst (rnP s x) (j + 1))) (congrArg Value.int (by rw [lst, show rnP s x j = false by rw [rnP, bI_0 c15]; rfl]; rfl)) ?_
        refine z_istore_n G dX6_guestRanked_32 rfl (by decide) 2 rfl ?_
        refine z_iinc G dX6_guestRanked_33 3 rfl (nI (j + 1)) (nI_inc _) (by decide) rfl ?_
        refine z_goto (tgt := 4) G dX6_guestRanked_36 (by decide) ?_
        exact ihj (j + 1) (by omega)
      · refine z_aload_n G dX6_guestRanked_18 0 rfl ?_
        refine z_iload_n G dX6_guestRanked_19 3 rfl ?_
        refine z_dVi (As := [_]) G _ _ (fun l => c_X6_rankOf l D y b s q hb lj) k_X6_rankOf gX6_guestRanked_X6_rankOf 0 6 rfl rfl rfl dX6_guestRanked_20 ⟨by decide, by decide⟩ ⟨rfl, rfl⟩ ⟨Nat.zero_le _, Nat.zero_le _⟩ rfl (Nat.le_of_ble_eq_true rfl) rfl ?_
        refine z_iload_n G dX6_guestRanked_23 1 rfl ?_
        refine z_icmp_ne G dX6_guestRanked_24 31 (by decide) (fun c24 => ?_) (fun c24 => ?_)
        · refine z_iload_n G dX6_guestRanked_31 2 rfl ?_
          refine z_top (w := .int (lst (rnP s x) (j + 1))) (congrArg Value.int (by rw [lst, show rnP s x j = false by rw [rnP, decide_eq_false c24]; exact Bool.and_false _]; rfl)) ?_
          refine z_istore_n G dX6_guestRanked_32 rfl (by decide) 2 rfl ?_
          refine z_iinc G dX6_guestRanked_33 3 rfl (nI (j + 1)) (nI_inc _) (by decide) rfl ?_
          refine z_goto (tgt := 4) G dX6_guestRanked_36 (by decide) ?_
          exact ihj (j + 1) (by omega)
        · refine z_iload_n G dX6_guestRanked_27 3 rfl ?_
          refine z_goto (tgt := 32) G dX6_guestRanked_28 (by decide) ?_
          refine z_top (w := .int (lst (rnP s x) (j + 1))) (congrArg Value.int (by rw [lst, if_pos (show rnP s x j = true by rw [rnP, bI_n c15, decide_eq_true c24]; rfl)])) ?_
          refine z_istore_n G dX6_guestRanked_32 rfl (by decide) 2 rfl ?_
          refine z_iinc G dX6_guestRanked_33 3 rfl (nI (j + 1)) (nI_inc _) (by decide) rfl ?_
          refine z_goto (tgt := 4) G dX6_guestRanked_36 (by decide) ?_
          exact ihj (j + 1) (by omega)
  exact lo 9 0 rfl

theorem k_X6_reason : zCal yX6_reason wsX6_reason cX6_reason 2 (some .int) 1 := ⟨⟨_, rfl⟩, by decide +kernel⟩
theorem in_X6_reason_X6 : ∀ w ∈ wsX60, w ∈ wsX6_reason := fun _ h => List.mem_cons_of_mem _ (List.mem_append_right _ h)
set_option maxHeartbeats 4000000 in
set_option maxRecDepth 100000 in
theorem c_X6_reason (l : Launch) (D : va_G) (y : Nat → ClassId) (b : Nat → Nat) (s : Nat → Int32) (q : mdQ) {g : Nat} (hg : g < 9) : zDi l D y yX6_reason wsX6_reason ({ frames := 2, cells := 0, slots := 0, locals := 43 }) [.ref (b 0), .int (nI (g))] (mdW y b s q) (rsn s g) (mdW y b s q) := by
  refine zMi.mk (cc := cX6_reason) (maxL := 2) (lv := [(0, .ref (b 0)), (1, .int (nI (g)))]) (by decide) rfl (Nat.le_of_ble_eq_true rfl) rfl (fun X G hE => ?_)
  have hin := in_X6_reason_X6
  refine z_aload_n G dX6_reason_0 0 rfl ?_
  refine mg_s G hin (List.mem_of_getElem? (i := 1) rfl) dX6_reason_1 ?_
  refine z_iload_n G dX6_reason_4 1 rfl ?_
  refine z_pSi (As := [_]) G _ _ _ (fun l => c_X6_g l D y (g)) k_X6_g gX6_reason_X6_g dX6_reason_5 ⟨by decide, by decide⟩ ⟨rfl, rfl⟩ ⟨Nat.zero_le _, Nat.zero_le _⟩ rfl (Nat.le_of_ble_eq_true rfl) rfl (List.Perm.refl _) (List.Perm.refl _) ?_
  refine z_iconst (v := nI 4) G dX6_reason_8 rfl ?_
  refine z_iaddN G dX6_reason_9 (17 + 17 * g) (by omega) ?_
  refine ml_s G (by omega) dX6_reason_10 ?_
  refine z_aload_n G dX6_reason_11 0 rfl ?_
  refine mg_s G hin (List.mem_of_getElem? (i := 1) rfl) dX6_reason_12 ?_
  refine z_iconst (v := nI 2) G dX6_reason_15 rfl ?_
  refine ml_s G (by omega) dX6_reason_16 ?_
  refine z_icmp_lt G dX6_reason_17 24 (by decide) (fun c17 => ?_) (fun c17 => ?_)
  · refine z_aload_n G dX6_reason_24 0 rfl ?_
    refine z_iload_n G dX6_reason_25 1 rfl ?_
    refine z_dVi (As := [_]) G _ _ (fun l => c_X6_owed l D y b s q hg) k_X6_owed gX6_reason_X6_owed 0 6 rfl rfl rfl dX6_reason_26 ⟨by decide, by decide⟩ ⟨rfl, rfl⟩ ⟨Nat.zero_le _, Nat.zero_le _⟩ rfl (Nat.le_of_ble_eq_true rfl) rfl ?_
    refine z_aload_n G dX6_reason_29 0 rfl ?_
    refine mg_s G hin (List.mem_of_getElem? (i := 1) rfl) dX6_reason_30 ?_
    refine z_iconst (v := nI 1) G dX6_reason_33 rfl ?_
    refine ml_s G (by omega) dX6_reason_34 ?_
    refine z_icmp_lt G dX6_reason_35 42 (by decide) (fun c35 => ?_) (fun c35 => ?_)
    · refine z_iconst (v := nI 0) G dX6_reason_42 rfl ?_
      exact hE _ _ _ _ dX6_reason_43 rfl ⟨by first | rw [rsn, if_pos (Int32.not_lt.mp c17)] | rw [rsn, if_neg (Int32.not_le.mpr c17), if_neg (Int32.not_le.mpr c35)] | rw [rsn, if_neg (Int32.not_le.mpr c17), if_pos (Int32.not_lt.mp c35)], rfl⟩
    · refine z_iconst (v := nI 2) G dX6_reason_38 rfl ?_
      refine z_goto (tgt := 43) G dX6_reason_39 (by decide) ?_
      exact hE _ _ _ _ dX6_reason_43 rfl ⟨by first | rw [rsn, if_pos (Int32.not_lt.mp c17)] | rw [rsn, if_neg (Int32.not_le.mpr c17), if_neg (Int32.not_le.mpr c35)] | rw [rsn, if_neg (Int32.not_le.mpr c17), if_pos (Int32.not_lt.mp c35)], rfl⟩
  · refine z_iconst (v := nI 1) G dX6_reason_20 rfl ?_
    refine z_goto (tgt := 43) G dX6_reason_21 (by decide) ?_
    exact hE _ _ _ _ dX6_reason_43 rfl ⟨by first | rw [rsn, if_pos (Int32.not_lt.mp c17)] | rw [rsn, if_neg (Int32.not_le.mpr c17), if_neg (Int32.not_le.mpr c35)] | rw [rsn, if_neg (Int32.not_le.mpr c17), if_pos (Int32.not_lt.mp c35)], rfl⟩
