theorem k_X5_obey : zCal yX5_obey wsX5_obey cX5_obey 4 (some .int) 1 := ⟨⟨_, rfl⟩, by decide +kernel⟩
theorem in_X5_obey_X5 : ∀ w ∈ wsX50, w ∈ wsX5_obey := fun _ h => List.mem_cons_of_mem _ (List.mem_append_left _ (List.mem_append_left _ (List.mem_append_left _ (List.mem_append_right _ h))))
set_option maxHeartbeats 4000000 in
set_option maxRecDepth 100000 in
theorem c_X5_obey (l : Launch) (D : va_G) (y : Nat → ClassId) (e A : Nat → Nat → Nat) (R Q : Nat → Nat → Int32) (b0 b1 : Bool) (nx kp : Nat) (Gr K : Nat → Nat → Int32) (t : Nat → Int32) (len : Nat) (h : IV (R 1)) (h80 : len ≤ 80) {i : Nat} (hi : i < 2 ^ 28) : zMi l D y yX5_obey wsX5_obey ({ frames := 5, cells := 0, slots := 0, locals := 114 }) [.ref (e 0 0), .int (nI (i))] (tsW y e A R Q b0 b1 nx kp Gr K t len) (fun r w => r = (obR (R 1) (sgA t len i) (nuM t len (i + 1)) (dgA t len (i + 1)) (dgA t len (i + 2))).1 ∧ ∃ q1, w = tsW y e A (upG R 1 (obR (R 1) (sgA t len i) (nuM t len (i + 1)) (dgA t len (i + 1)) (dgA t len (i + 2))).2) (upG Q 1 q1) b0 b1 nx kp Gr K t len) := by
  refine zMi.mk (cc := cX5_obey) (maxL := 4) (lv := [(0, .ref (e 0 0)), (1, .int (nI (i)))]) (by decide) rfl (Nat.le_of_ble_eq_true rfl) rfl (fun X G hE => ?_)
  have hin := in_X5_obey_X5
  unfold tsW at hE ⊢
  refine z_aload_n G dX5_obey_0 0 rfl ?_
  refine z_get G (hin) 0 rfl rfl 6 (by decide) (List.mem_of_getElem? (i := 1) rfl) rfl dX5_obey_1 ?_
  refine z_iload_n G dX5_obey_4 1 rfl ?_
  refine z_iconst (v := nI 1) G dX5_obey_5 rfl ?_
  refine z_iaddN G dX5_obey_6 (i + 1) (by omega) ?_
  refine z_pVi (As := [_]) G _ _ _ (fun l => c_X2_digitAt l D y (e 9) t h80 (i := i + 1) (by omega)) k_X2_digitAt gX5_obey_X2_digitAt 0 2 rfl rfl rfl dX5_obey_7 ⟨by decide, by decide⟩ ⟨rfl, rfl⟩ ⟨Nat.zero_le _, Nat.zero_le _⟩ rfl (Nat.le_of_ble_eq_true rfl) rfl (fl_pick (k := 10) rfl) (fl_put (k := 10) rfl) ?_
  refine z_istore_nA G dX5_obey_10 rfl (by decide) rfl ?_
  refine z_aload_n G dX5_obey_11 0 rfl ?_
  refine z_get G (hin) 0 rfl rfl 6 (by decide) (List.mem_of_getElem? (i := 1) rfl) rfl dX5_obey_12 ?_
  refine z_iload_n G dX5_obey_15 1 rfl ?_
  refine z_iconst (v := nI 2) G dX5_obey_16 rfl ?_
  refine z_iaddN G dX5_obey_17 (i + 2) (by omega) ?_
  refine z_pVi (As := [_]) G _ _ _ (fun l => c_X2_digitAt l D y (e 9) t h80 (i := i + 2) (by omega)) k_X2_digitAt gX5_obey_X2_digitAt 0 2 rfl rfl rfl dX5_obey_18 ⟨by decide, by decide⟩ ⟨rfl, rfl⟩ ⟨Nat.zero_le _, Nat.zero_le _⟩ rfl (Nat.le_of_ble_eq_true rfl) rfl (fl_pick (k := 10) rfl) (fl_put (k := 10) rfl) ?_
  refine z_istore_nA G dX5_obey_21 rfl (by decide) rfl ?_
  refine z_aload_n G dX5_obey_22 0 rfl ?_
  refine z_get G (hin) 0 rfl rfl 6 (by decide) (List.mem_of_getElem? (i := 1) rfl) rfl dX5_obey_23 ?_
  refine z_iload_n G dX5_obey_26 1 rfl ?_
  refine z_pVi (As := [_]) G _ _ _ (fun l => c_X2_signAt l D y (e 9) t h80 (i := i) (by omega)) k_X2_signAt gX5_obey_X2_signAt 0 2 rfl rfl rfl dX5_obey_27 ⟨by decide, by decide⟩ ⟨rfl, rfl⟩ ⟨Nat.zero_le _, Nat.zero_le _⟩ rfl (Nat.le_of_ble_eq_true rfl) rfl (fl_pick (k := 10) rfl) (fl_put (k := 10) rfl) ?_
  generalize hop : sgA t len i = op at hE ⊢
  rcases x_sw2 98 120 (by decide) op with hsw | ⟨k, hk1, hk2, rfl⟩
  · refine z_tableOut G 218 dX5_obey_30 hsw (by decide) ?_
    refine z_bipush (v := (-3)) G dX5_obey_218 rfl ?_
    exact hE _ _ _ _ dX5_obey_220 rfl ⟨(by rw [obR_out hsw]), Q 1, (by rw [obR_out hsw, upG_self, upG_self]; rfl)⟩
  · rcases (by omega : k = 98 ∨ k = 99 ∨ k = 100 ∨ k = 101 ∨ k = 102 ∨ k = 103 ∨ k = 104 ∨ k = 105 ∨ k = 106 ∨ k = 107 ∨ k = 108 ∨ k = 109 ∨ k = 110 ∨ k = 111 ∨ k = 112 ∨ k = 113 ∨ k = 114 ∨ k = 115 ∨ k = 116 ∨ k = 117 ∨ k = 118 ∨ k = 119 ∨ k = 120) with rfl | rfl | rfl | rfl | rfl | rfl | rfl | rfl | rfl | rfl | rfl | rfl | rfl | rfl | rfl | rfl | rfl | rfl | rfl | rfl | rfl | rfl | rfl
    · refine z_tableIn G 172 dX5_obey_30 (by decide) (by decide) rfl (by decide) ?_
      refine z_aload_n G dX5_obey_172 0 rfl ?_
      refine z_get G (hin) 0 rfl rfl 0 (by decide) (List.mem_of_getElem? (i := 2) rfl) rfl dX5_obey_173 ?_
      refine z_iload_n G dX5_obey_176 2 rfl ?_
      refine z_iload_n G dX5_obey_177 3 rfl ?_
      refine z_pVi (As := [_, _]) G _ _ _ (fun l => c_X3_makeBow l D y (e 1) (R 1) (Q 1) h.pf (dgA t len (i + 1)) (dgA t len (i + 2))) k_X3_makeBow gX5_obey_X3_makeBow 0 3 rfl rfl rfl dX5_obey_178 ⟨by decide, by decide⟩ ⟨rfl, rfl⟩ ⟨Nat.zero_le _, Nat.zero_le _⟩ rfl (Nat.le_of_ble_eq_true rfl) rfl (fl_pick (k := 1) rfl) (fl_put (k := 1) rfl) ?_
      exact hE _ _ _ _ dX5_obey_181 rfl ⟨rfl, Q 1, (by rw [upG_self]; rfl)⟩
    · refine z_tableIn G 218 dX5_obey_30 (by decide) (by decide) rfl (by decide) ?_
      refine z_bipush (v := (-3)) G dX5_obey_218 rfl ?_
      exact hE _ _ _ _ dX5_obey_220 rfl ⟨rfl, Q 1, (by rw [upG_self, show (obR (R 1) (nI 99) (nuM t len (i + 1)) (dgA t len (i + 1)) (dgA t len (i + 2))).2 = R 1 from rfl, upG_self]; rfl)⟩
    · refine z_tableIn G 218 dX5_obey_30 (by decide) (by decide) rfl (by decide) ?_
      refine z_bipush (v := (-3)) G dX5_obey_218 rfl ?_
      exact hE _ _ _ _ dX5_obey_220 rfl ⟨rfl, Q 1, (by rw [upG_self, show (obR (R 1) (nI 100) (nuM t len (i + 1)) (dgA t len (i + 1)) (dgA t len (i + 2))).2 = R 1 from rfl, upG_self]; rfl)⟩
    · refine z_tableIn G 218 dX5_obey_30 (by decide) (by decide) rfl (by decide) ?_
      refine z_bipush (v := (-3)) G dX5_obey_218 rfl ?_
      exact hE _ _ _ _ dX5_obey_220 rfl ⟨rfl, Q 1, (by rw [upG_self, show (obR (R 1) (nI 101) (nuM t len (i + 1)) (dgA t len (i + 1)) (dgA t len (i + 2))).2 = R 1 from rfl, upG_self]; rfl)⟩
    · refine z_tableIn G 218 dX5_obey_30 (by decide) (by decide) rfl (by decide) ?_
      refine z_bipush (v := (-3)) G dX5_obey_218 rfl ?_
      exact hE _ _ _ _ dX5_obey_220 rfl ⟨rfl, Q 1, (by rw [upG_self, show (obR (R 1) (nI 102) (nuM t len (i + 1)) (dgA t len (i + 1)) (dgA t len (i + 2))).2 = R 1 from rfl, upG_self]; rfl)⟩
    · refine z_tableIn G 136 dX5_obey_30 (by decide) (by decide) rfl (by decide) ?_
      refine z_aload_n G dX5_obey_136 0 rfl ?_
      refine z_get G (hin) 0 rfl rfl 0 (by decide) (List.mem_of_getElem? (i := 2) rfl) rfl dX5_obey_137 ?_
      refine z_aload_n G dX5_obey_140 0 rfl ?_
      refine z_get G (hin) 0 rfl rfl 6 (by decide) (List.mem_of_getElem? (i := 1) rfl) rfl dX5_obey_141 ?_
      refine z_iload_n G dX5_obey_144 1 rfl ?_
      refine z_iconst (v := nI 1) G dX5_obey_145 rfl ?_
      refine z_iaddN G dX5_obey_146 (i + 1) (by omega) ?_
      refine z_pVi (As := [_]) G _ _ _ (fun l => c_X2_numberAt l D y (e 9) t h80 (i := i + 1) (by omega)) k_X2_numberAt gX5_obey_X2_numberAt 0 2 rfl rfl rfl dX5_obey_147 ⟨by decide, by decide⟩ ⟨rfl, rfl⟩ ⟨Nat.zero_le _, Nat.zero_le _⟩ rfl (Nat.le_of_ble_eq_true rfl) rfl (fl_pick (k := 10) rfl) (fl_put (k := 10) rfl) ?_
      refine z_pVi (As := [_]) G _ _ _ (fun l => c_X3_welcome l D y (e 1) (R 1) (Q 1) h.pf (nuM t len (i + 1))) k_X3_welcome gX5_obey_X3_welcome 0 3 rfl rfl rfl dX5_obey_150 ⟨by decide, by decide⟩ ⟨rfl, rfl⟩ ⟨Nat.zero_le _, Nat.zero_le _⟩ rfl (Nat.le_of_ble_eq_true rfl) rfl (fl_pick (k := 1) rfl) (fl_put (k := 1) rfl) ?_
      exact hE _ _ _ _ dX5_obey_153 rfl ⟨rfl, Q 1, (by rw [upG_self]; rfl)⟩
    · refine z_tableIn G 218 dX5_obey_30 (by decide) (by decide) rfl (by decide) ?_
      refine z_bipush (v := (-3)) G dX5_obey_218 rfl ?_
      exact hE _ _ _ _ dX5_obey_220 rfl ⟨rfl, Q 1, (by rw [upG_self, show (obR (R 1) (nI 104) (nuM t len (i + 1)) (dgA t len (i + 1)) (dgA t len (i + 2))).2 = R 1 from rfl, upG_self]; rfl)⟩
    · refine z_tableIn G 218 dX5_obey_30 (by decide) (by decide) rfl (by decide) ?_
      refine z_bipush (v := (-3)) G dX5_obey_218 rfl ?_
      exact hE _ _ _ _ dX5_obey_220 rfl ⟨rfl, Q 1, (by rw [upG_self, show (obR (R 1) (nI 105) (nuM t len (i + 1)) (dgA t len (i + 1)) (dgA t len (i + 2))).2 = R 1 from rfl, upG_self]; rfl)⟩
    · refine z_tableIn G 218 dX5_obey_30 (by decide) (by decide) rfl (by decide) ?_
      refine z_bipush (v := (-3)) G dX5_obey_218 rfl ?_
      exact hE _ _ _ _ dX5_obey_220 rfl ⟨rfl, Q 1, (by rw [upG_self, show (obR (R 1) (nI 106) (nuM t len (i + 1)) (dgA t len (i + 1)) (dgA t len (i + 2))).2 = R 1 from rfl, upG_self]; rfl)⟩
    · refine z_tableIn G 218 dX5_obey_30 (by decide) (by decide) rfl (by decide) ?_
      refine z_bipush (v := (-3)) G dX5_obey_218 rfl ?_
      exact hE _ _ _ _ dX5_obey_220 rfl ⟨rfl, Q 1, (by rw [upG_self, show (obR (R 1) (nI 107) (nuM t len (i + 1)) (dgA t len (i + 1)) (dgA t len (i + 2))).2 = R 1 from rfl, upG_self]; rfl)⟩
    · refine z_tableIn G 218 dX5_obey_30 (by decide) (by decide) rfl (by decide) ?_
      refine z_bipush (v := (-3)) G dX5_obey_218 rfl ?_
      exact hE _ _ _ _ dX5_obey_220 rfl ⟨rfl, Q 1, (by rw [upG_self, show (obR (R 1) (nI 108) (nuM t len (i + 1)) (dgA t len (i + 1)) (dgA t len (i + 2))).2 = R 1 from rfl, upG_self]; rfl)⟩
    · refine z_tableIn G 218 dX5_obey_30 (by decide) (by decide) rfl (by decide) ?_
      refine z_bipush (v := (-3)) G dX5_obey_218 rfl ?_
      exact hE _ _ _ _ dX5_obey_220 rfl ⟨rfl, Q 1, (by rw [upG_self, show (obR (R 1) (nI 109) (nuM t len (i + 1)) (dgA t len (i + 1)) (dgA t len (i + 2))).2 = R 1 from rfl, upG_self]; rfl)⟩
    · refine z_tableIn G 218 dX5_obey_30 (by decide) (by decide) rfl (by decide) ?_
      refine z_bipush (v := (-3)) G dX5_obey_218 rfl ?_
      exact hE _ _ _ _ dX5_obey_220 rfl ⟨rfl, Q 1, (by rw [upG_self, show (obR (R 1) (nI 110) (nuM t len (i + 1)) (dgA t len (i + 1)) (dgA t len (i + 2))).2 = R 1 from rfl, upG_self]; rfl)⟩
    · refine z_tableIn G 208 dX5_obey_30 (by decide) (by decide) rfl (by decide) ?_
      refine z_aload_n G dX5_obey_208 0 rfl ?_
      refine z_get G (hin) 0 rfl rfl 0 (by decide) (List.mem_of_getElem? (i := 2) rfl) rfl dX5_obey_209 ?_
      refine z_iload_n G dX5_obey_212 2 rfl ?_
      refine z_iload_n G dX5_obey_213 3 rfl ?_
      refine z_pVi (As := [_, _]) G _ _ _ (fun l => c_X3_offerCup l D y (e 1) (R 1) (Q 1) h.pf (dgA t len (i + 1)) (dgA t len (i + 2)) h.hc h.hcm) k_X3_offerCup gX5_obey_X3_offerCup 0 3 rfl rfl rfl dX5_obey_214 ⟨by decide, by decide⟩ ⟨rfl, rfl⟩ ⟨Nat.zero_le _, Nat.zero_le _⟩ rfl (Nat.le_of_ble_eq_true rfl) rfl (fl_pick (k := 1) rfl) (fl_put (k := 1) rfl) ?_
      exact hE _ _ _ _ dX5_obey_217 rfl ⟨rfl, Q 1, (by rw [upG_self]; rfl)⟩
    · refine z_tableIn G 218 dX5_obey_30 (by decide) (by decide) rfl (by decide) ?_
      refine z_bipush (v := (-3)) G dX5_obey_218 rfl ?_
      exact hE _ _ _ _ dX5_obey_220 rfl ⟨rfl, Q 1, (by rw [upG_self, show (obR (R 1) (nI 112) (nuM t len (i + 1)) (dgA t len (i + 1)) (dgA t len (i + 2))).2 = R 1 from rfl, upG_self]; rfl)⟩
    · refine z_tableIn G 218 dX5_obey_30 (by decide) (by decide) rfl (by decide) ?_
      refine z_bipush (v := (-3)) G dX5_obey_218 rfl ?_
      exact hE _ _ _ _ dX5_obey_220 rfl ⟨rfl, Q 1, (by rw [upG_self, show (obR (R 1) (nI 113) (nuM t len (i + 1)) (dgA t len (i + 1)) (dgA t len (i + 2))).2 = R 1 from rfl, upG_self]; rfl)⟩
    · refine z_tableIn G 200 dX5_obey_30 (by decide) (by decide) rfl (by decide) ?_
      refine z_aload_n G dX5_obey_200 0 rfl ?_
      refine z_get G (hin) 0 rfl rfl 0 (by decide) (List.mem_of_getElem? (i := 2) rfl) rfl dX5_obey_201 ?_
      refine z_pVi (As := []) G _ _ _ (fun l => c_X3_holdRound l D y (e 1) (R 1) (Q 1) h.pf h.su h.sj h.hc h.hcm) k_X3_holdRound gX5_obey_X3_holdRound 0 3 rfl rfl rfl dX5_obey_204 ⟨by decide, by decide⟩ ⟨rfl, rfl⟩ ⟨Nat.zero_le _, Nat.zero_le _⟩ rfl (Nat.le_of_ble_eq_true rfl) rfl (fl_pick (k := 1) rfl) (fl_put (k := 1) rfl) ?_
      exact hE _ _ _ _ dX5_obey_207 rfl ⟨rfl, _, rfl⟩
    · refine z_tableIn G 218 dX5_obey_30 (by decide) (by decide) rfl (by decide) ?_
      refine z_bipush (v := (-3)) G dX5_obey_218 rfl ?_
      exact hE _ _ _ _ dX5_obey_220 rfl ⟨rfl, Q 1, (by rw [upG_self, show (obR (R 1) (nI 115) (nuM t len (i + 1)) (dgA t len (i + 1)) (dgA t len (i + 2))).2 = R 1 from rfl, upG_self]; rfl)⟩
    · refine z_tableIn G 182 dX5_obey_30 (by decide) (by decide) rfl (by decide) ?_
      refine z_aload_n G dX5_obey_182 0 rfl ?_
      refine z_get G (hin) 0 rfl rfl 0 (by decide) (List.mem_of_getElem? (i := 2) rfl) rfl dX5_obey_183 ?_
      refine z_aload_n G dX5_obey_186 0 rfl ?_
      refine z_get G (hin) 0 rfl rfl 6 (by decide) (List.mem_of_getElem? (i := 1) rfl) rfl dX5_obey_187 ?_
      refine z_iload_n G dX5_obey_190 1 rfl ?_
      refine z_iconst (v := nI 1) G dX5_obey_191 rfl ?_
      refine z_iaddN G dX5_obey_192 (i + 1) (by omega) ?_
      refine z_pVi (As := [_]) G _ _ _ (fun l => c_X2_numberAt l D y (e 9) t h80 (i := i + 1) (by omega)) k_X2_numberAt gX5_obey_X2_numberAt 0 2 rfl rfl rfl dX5_obey_193 ⟨by decide, by decide⟩ ⟨rfl, rfl⟩ ⟨Nat.zero_le _, Nat.zero_le _⟩ rfl (Nat.le_of_ble_eq_true rfl) rfl (fl_pick (k := 10) rfl) (fl_put (k := 10) rfl) ?_
      refine z_pVi (As := [_]) G _ _ _ (fun l => c_X3_breatheOn l D y (e 1) (R 1) (Q 1) h.pf (nuM t len (i + 1))) k_X3_breatheOn gX5_obey_X3_breatheOn 0 3 rfl rfl rfl dX5_obey_196 ⟨by decide, by decide⟩ ⟨rfl, rfl⟩ ⟨Nat.zero_le _, Nat.zero_le _⟩ rfl (Nat.le_of_ble_eq_true rfl) rfl (fl_pick (k := 1) rfl) (fl_put (k := 1) rfl) ?_
      exact hE _ _ _ _ dX5_obey_199 rfl ⟨rfl, Q 1, (by rw [upG_self]; rfl)⟩
    · refine z_tableIn G 218 dX5_obey_30 (by decide) (by decide) rfl (by decide) ?_
      refine z_bipush (v := (-3)) G dX5_obey_218 rfl ?_
      exact hE _ _ _ _ dX5_obey_220 rfl ⟨rfl, Q 1, (by rw [upG_self, show (obR (R 1) (nI 117) (nuM t len (i + 1)) (dgA t len (i + 1)) (dgA t len (i + 2))).2 = R 1 from rfl, upG_self]; rfl)⟩
    · refine z_tableIn G 218 dX5_obey_30 (by decide) (by decide) rfl (by decide) ?_
      refine z_bipush (v := (-3)) G dX5_obey_218 rfl ?_
      exact hE _ _ _ _ dX5_obey_220 rfl ⟨rfl, Q 1, (by rw [upG_self, show (obR (R 1) (nI 118) (nuM t len (i + 1)) (dgA t len (i + 1)) (dgA t len (i + 2))).2 = R 1 from rfl, upG_self]; rfl)⟩
    · refine z_tableIn G 163 dX5_obey_30 (by decide) (by decide) rfl (by decide) ?_
      refine z_aload_n G dX5_obey_163 0 rfl ?_
      refine z_get G (hin) 0 rfl rfl 0 (by decide) (List.mem_of_getElem? (i := 2) rfl) rfl dX5_obey_164 ?_
      refine z_iload_n G dX5_obey_167 2 rfl ?_
      refine z_pVi (As := [_]) G _ _ _ (fun l => c_X3_hearWord l D y (e 1) (R 1) (Q 1) h.pf (dgA t len (i + 1))) k_X3_hearWord gX5_obey_X3_hearWord 0 3 rfl rfl rfl dX5_obey_168 ⟨by decide, by decide⟩ ⟨rfl, rfl⟩ ⟨Nat.zero_le _, Nat.zero_le _⟩ rfl (Nat.le_of_ble_eq_true rfl) rfl (fl_pick (k := 1) rfl) (fl_put (k := 1) rfl) ?_
      exact hE _ _ _ _ dX5_obey_171 rfl ⟨rfl, Q 1, (by rw [upG_self]; rfl)⟩
    · refine z_tableIn G 154 dX5_obey_30 (by decide) (by decide) rfl (by decide) ?_
      refine z_aload_n G dX5_obey_154 0 rfl ?_
      refine z_get G (hin) 0 rfl rfl 0 (by decide) (List.mem_of_getElem? (i := 2) rfl) rfl dX5_obey_155 ?_
      refine z_iload_n G dX5_obey_158 2 rfl ?_
      refine z_pVi (As := [_]) G _ _ _ (fun l => c_X3_seeOff l D y (e 1) (R 1) (Q 1) h.pf (dgA t len (i + 1))) k_X3_seeOff gX5_obey_X3_seeOff 0 3 rfl rfl rfl dX5_obey_159 ⟨by decide, by decide⟩ ⟨rfl, rfl⟩ ⟨Nat.zero_le _, Nat.zero_le _⟩ rfl (Nat.le_of_ble_eq_true rfl) rfl (fl_pick (k := 1) rfl) (fl_put (k := 1) rfl) ?_
      exact hE _ _ _ _ dX5_obey_162 rfl ⟨rfl, Q 1, (by rw [upG_self]; rfl)⟩
