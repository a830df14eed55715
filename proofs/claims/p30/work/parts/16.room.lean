theorem k_X3_settingCounted : zCal yX3_settingCounted wsX3_settingCounted cX3_settingCounted 2 (some .int) 1 := ⟨⟨_, rfl⟩, by decide +kernel⟩
theorem in_X3_settingCounted_X3 : ∀ w ∈ wsX30, w ∈ wsX3_settingCounted := fun _ h => List.mem_cons_of_mem _ (List.mem_append_right _ h)
set_option maxHeartbeats 4000000 in
set_option maxRecDepth 100000 in
theorem c_X3_settingCounted (l : Launch) (D : va_G) (y : Nat → ClassId) (a : Nat → Nat) (f rk0 : Nat → Int32) (x : Int32) : zDi l D y yX3_settingCounted wsX3_settingCounted ({ frames := 0, cells := 0, slots := 0, locals := 0 }) [.ref (a 0), .int (x)] (rmW y a f rk0) (setR f x) (rmW y a f rk0) := by
  refine zMi.mk (cc := cX3_settingCounted) (maxL := 2) (lv := [(0, .ref (a 0)), (1, .int (x))]) (by decide) rfl (Nat.le_of_ble_eq_true rfl) rfl (fun X G hE => ?_)
  have hin := in_X3_settingCounted_X3
  refine z_iload_n G dX3_settingCounted_0 1 rfl ?_
  refine z_bipush (v := nI 13) G dX3_settingCounted_1 rfl ?_
  refine z_icmp_lt G dX3_settingCounted_3 18 (by decide) (fun c3 => ?_) (fun c3 => ?_)
  · refine z_bipush (v := (-2)) G dX3_settingCounted_18 rfl ?_
    exact hE _ _ _ _ dX3_settingCounted_20 rfl ⟨by first | rw [setR, if_neg (fun q => absurd c3 (Int32.not_lt.mpr q.1))] | rw [setR, if_neg (fun q => set_no c3 c15 q.2)], rfl⟩
  · refine z_iload_n G dX3_settingCounted_6 1 rfl ?_
    refine z_bipush (v := nI 13) G dX3_settingCounted_7 rfl ?_
    refine z_isub G dX3_settingCounted_9 ?_
    refine z_aload_n G dX3_settingCounted_10 0 rfl ?_
    refine rg_settings G hin (List.mem_of_getElem? (i := 1) rfl) dX3_settingCounted_11 ?_
    refine z_alen (v := nI 4) G 1 0 rfl rfl rfl dX3_settingCounted_14 ?_
    refine z_icmp_lt G dX3_settingCounted_15 21 (by decide) (fun c15 => ?_) (fun c15 => ?_)
    · obtain ⟨j, hj, rfl⟩ := set_ix c3 c15
      refine z_aload_n G dX3_settingCounted_21 0 rfl ?_
      refine rg_settings G hin (List.mem_of_getElem? (i := 1) rfl) dX3_settingCounted_22 ?_
      refine z_iload_n G dX3_settingCounted_25 1 rfl ?_
      refine z_bipush (v := nI 13) G dX3_settingCounted_26 rfl ?_
      refine z_isubN G dX3_settingCounted_28 (by omega) (j) (by omega) ?_
      refine rl_settings G (by omega) dX3_settingCounted_29 ?_
      exact hE _ _ _ _ dX3_settingCounted_30 rfl ⟨(by rw [setR, if_pos ⟨nI_le (by omega) (by omega), nI_lt (by omega) (by decide)⟩, nI_clamp (by omega), show 13 + j - 13 = j by omega]), rfl⟩
    · refine z_bipush (v := (-2)) G dX3_settingCounted_18 rfl ?_
      exact hE _ _ _ _ dX3_settingCounted_20 rfl ⟨by first | rw [setR, if_neg (fun q => absurd c3 (Int32.not_lt.mpr q.1))] | rw [setR, if_neg (fun q => set_no c3 c15 q.2)], rfl⟩

theorem k_X3_factOf : zCal yX3_factOf wsX3_factOf cX3_factOf 3 (some .int) 2 := ⟨⟨_, rfl⟩, by decide +kernel⟩
theorem in_X3_factOf_X3 : ∀ w ∈ wsX30, w ∈ wsX3_factOf := fun _ h => List.mem_cons_of_mem _ (List.mem_append_left _ (List.mem_append_right _ h))
set_option maxHeartbeats 4000000 in
set_option maxRecDepth 100000 in
theorem c_X3_factOf (l : Launch) (D : va_G) (y : Nat → ClassId) (a : Nat → Nat) (f rk0 : Nat → Int32) (hp : PF f) (x z : Int32) : zDi l D y yX3_factOf wsX3_factOf ({ frames := 3, cells := 0, slots := 0, locals := 71 }) [.ref (a 0), .int (x), .int (z)] (rmW y a f rk0) (ofR1 f x z) (rmW y a f rk0) := by
  refine zMi.mk (cc := cX3_factOf) (maxL := 3) (lv := [(0, .ref (a 0)), (1, .int (x)), (2, .int (z))]) (by decide) rfl (Nat.le_of_ble_eq_true rfl) rfl (fun X G hE => ?_)
  have hin := in_X3_factOf_X3
  refine z_aload_n G dX3_factOf_0 0 rfl ?_
  refine z_iload_n G dX3_factOf_1 1 rfl ?_
  refine z_dVi (As := [_]) G _ _ (fun l => c_X3_isHere l D y a f rk0 hp x) k_X3_isHere gX3_factOf_X3_isHere 0 3 rfl rfl rfl dX3_factOf_2 ⟨by decide, by decide⟩ ⟨rfl, rfl⟩ ⟨Nat.zero_le _, Nat.zero_le _⟩ rfl (Nat.le_of_ble_eq_true rfl) rfl ?_
  refine z_if_ne G dX3_factOf_5 10 (by decide) (fun c5 => ?_) (fun c5 => ?_)
  · obtain ⟨g, hg, rfl, sg⟩ := hx_t (bI_n c5)
    refine z_iload_n G dX3_factOf_10 2 rfl ?_
    rcases x_sw 9 (by decide) (z) with hsw | ⟨k, hk, rfl⟩
    · refine z_tableOut G 139 dX3_factOf_11 hsw (by decide) ?_
      refine z_bipush (v := (-2)) G dX3_factOf_139 rfl ?_
      exact hE _ _ _ _ dX3_factOf_141 rfl ⟨(by rw [ofR1, hx_n hg, if_pos sg, nI_clamp (by omega), faR, if_neg (x_out hsw (k := 0) (by decide) (by decide)), if_neg (x_out hsw (k := 1) (by decide) (by decide)), if_neg (x_out hsw (k := 2) (by decide) (by decide)), if_neg (x_out hsw (k := 3) (by decide) (by decide)), if_neg (x_out hsw (k := 4) (by decide) (by decide)), if_neg (x_out hsw (k := 5) (by decide) (by decide)), if_neg (x_out hsw (k := 6) (by decide) (by decide)), if_neg (x_out hsw (k := 7) (by decide) (by decide)), if_neg (x_out hsw (k := 8) (by decide) (by decide)), if_neg (x_out hsw (k := 9) (by decide) (by decide))]), rfl⟩
    · rcases (by omega : k = 0 ∨ k = 1 ∨ k = 2 ∨ k = 3 ∨ k = 4 ∨ k = 5 ∨ k = 6 ∨ k = 7 ∨ k = 8 ∨ k = 9) with rfl | rfl | rfl | rfl | rfl | rfl | rfl | rfl | rfl | rfl
      · refine z_tableIn G 64 dX3_factOf_11 (by decide) (by decide) rfl (by decide) ?_
        refine z_aload_n G dX3_factOf_64 0 rfl ?_
        refine rg_seats G hin (List.mem_of_getElem? (i := 1) rfl) dX3_factOf_65 ?_
        refine z_iload_n G dX3_factOf_68 1 rfl ?_
        refine rl_seats G (by omega) dX3_factOf_69 ?_
        exact hE _ _ _ _ dX3_factOf_70 rfl ⟨(by rw [ofR1, hx_n hg, if_pos sg, nI_clamp (by omega), faR, if_pos rfl]), rfl⟩
      · refine z_tableIn G 71 dX3_factOf_11 (by decide) (by decide) rfl (by decide) ?_
        refine z_aload_n G dX3_factOf_71 0 rfl ?_
        refine rg_patience G hin (List.mem_of_getElem? (i := 2) rfl) dX3_factOf_72 ?_
        refine z_iload_n G dX3_factOf_75 1 rfl ?_
        refine rl_patience G (by omega) dX3_factOf_76 ?_
        exact hE _ _ _ _ dX3_factOf_77 rfl ⟨(by rw [ofR1, hx_n hg, if_pos sg, nI_clamp (by omega), faR, if_neg (show ¬ nI 1 = nI 0 by decide), if_pos rfl]), rfl⟩
      · refine z_tableIn G 78 dX3_factOf_11 (by decide) (by decide) rfl (by decide) ?_
        refine z_aload_n G dX3_factOf_78 0 rfl ?_
        refine rg_silence G hin (List.mem_of_getElem? (i := 3) rfl) dX3_factOf_79 ?_
        refine z_iload_n G dX3_factOf_82 1 rfl ?_
        refine rl_silence G (by omega) dX3_factOf_83 ?_
        exact hE _ _ _ _ dX3_factOf_84 rfl ⟨(by rw [ofR1, hx_n hg, if_pos sg, nI_clamp (by omega), faR, if_neg (show ¬ nI 2 = nI 0 by decide), if_neg (show ¬ nI 2 = nI 1 by decide), if_pos rfl]), rfl⟩
      · refine z_tableIn G 85 dX3_factOf_11 (by decide) (by decide) rfl (by decide) ?_
        refine z_aload_n G dX3_factOf_85 0 rfl ?_
        refine rg_cups G hin (List.mem_of_getElem? (i := 4) rfl) dX3_factOf_86 ?_
        refine z_iload_n G dX3_factOf_89 1 rfl ?_
        refine rl_cups G (by omega) dX3_factOf_90 ?_
        exact hE _ _ _ _ dX3_factOf_91 rfl ⟨(by rw [ofR1, hx_n hg, if_pos sg, nI_clamp (by omega), faR, if_neg (show ¬ nI 3 = nI 0 by decide), if_neg (show ¬ nI 3 = nI 1 by decide), if_neg (show ¬ nI 3 = nI 2 by decide), if_pos rfl]), rfl⟩
      · refine z_tableIn G 92 dX3_factOf_11 (by decide) (by decide) rfl (by decide) ?_
        refine z_aload_n G dX3_factOf_92 0 rfl ?_
        refine rg_sighs G hin (List.mem_of_getElem? (i := 5) rfl) dX3_factOf_93 ?_
        refine z_iload_n G dX3_factOf_96 1 rfl ?_
        refine rl_sighs G (by omega) dX3_factOf_97 ?_
        exact hE _ _ _ _ dX3_factOf_98 rfl ⟨(by rw [ofR1, hx_n hg, if_pos sg, nI_clamp (by omega), faR, if_neg (show ¬ nI 4 = nI 0 by decide), if_neg (show ¬ nI 4 = nI 1 by decide), if_neg (show ¬ nI 4 = nI 2 by decide), if_neg (show ¬ nI 4 = nI 3 by decide), if_pos rfl]), rfl⟩
      · refine z_tableIn G 99 dX3_factOf_11 (by decide) (by decide) rfl (by decide) ?_
        refine z_aload_n G dX3_factOf_99 0 rfl ?_
        refine rg_words G hin (List.mem_of_getElem? (i := 6) rfl) dX3_factOf_100 ?_
        refine z_iload_n G dX3_factOf_103 1 rfl ?_
        refine rl_words G (by omega) dX3_factOf_104 ?_
        exact hE _ _ _ _ dX3_factOf_105 rfl ⟨(by rw [ofR1, hx_n hg, if_pos sg, nI_clamp (by omega), faR, if_neg (show ¬ nI 5 = nI 0 by decide), if_neg (show ¬ nI 5 = nI 1 by decide), if_neg (show ¬ nI 5 = nI 2 by decide), if_neg (show ¬ nI 5 = nI 3 by decide), if_neg (show ¬ nI 5 = nI 4 by decide), if_pos rfl]), rfl⟩
      · refine z_tableIn G 106 dX3_factOf_11 (by decide) (by decide) rfl (by decide) ?_
        refine z_aload_n G dX3_factOf_106 0 rfl ?_
        refine rg_bows G hin (List.mem_of_getElem? (i := 7) rfl) dX3_factOf_107 ?_
        refine z_iload_n G dX3_factOf_110 1 rfl ?_
        refine z_pVi (As := [_]) G _ _ _ (fun l => c_X0_owedBy l D y a f hg) k_X0_owedBy gX3_factOf_X0_owedBy 0 0 rfl rfl rfl dX3_factOf_111 ⟨by decide, by decide⟩ ⟨rfl, rfl⟩ ⟨Nat.zero_le _, Nat.zero_le _⟩ rfl (Nat.le_of_ble_eq_true rfl) rfl (rm_perm _ _ _ _) (bw_perm rfl) ?_
        exact hE _ _ _ _ dX3_factOf_114 rfl ⟨(by rw [ofR1, hx_n hg, if_pos sg, nI_clamp (by omega), faR, if_neg (show ¬ nI 6 = nI 0 by decide), if_neg (show ¬ nI 6 = nI 1 by decide), if_neg (show ¬ nI 6 = nI 2 by decide), if_neg (show ¬ nI 6 = nI 3 by decide), if_neg (show ¬ nI 6 = nI 4 by decide), if_neg (show ¬ nI 6 = nI 5 by decide), if_pos rfl]), rfl⟩
      · refine z_tableIn G 115 dX3_factOf_11 (by decide) (by decide) rfl (by decide) ?_
        refine z_aload_n G dX3_factOf_115 0 rfl ?_
        refine rg_bows G hin (List.mem_of_getElem? (i := 7) rfl) dX3_factOf_116 ?_
        refine z_iload_n G dX3_factOf_119 1 rfl ?_
        refine z_pVi (As := [_]) G _ _ _ (fun l => c_X0_owedToAll l D y a f hg) k_X0_owedToAll gX3_factOf_X0_owedToAll 0 0 rfl rfl rfl dX3_factOf_120 ⟨by decide, by decide⟩ ⟨rfl, rfl⟩ ⟨Nat.zero_le _, Nat.zero_le _⟩ rfl (Nat.le_of_ble_eq_true rfl) rfl (rm_perm _ _ _ _) (bw_perm rfl) ?_
        exact hE _ _ _ _ dX3_factOf_123 rfl ⟨(by rw [ofR1, hx_n hg, if_pos sg, nI_clamp (by omega), faR, if_neg (show ¬ nI 7 = nI 0 by decide), if_neg (show ¬ nI 7 = nI 1 by decide), if_neg (show ¬ nI 7 = nI 2 by decide), if_neg (show ¬ nI 7 = nI 3 by decide), if_neg (show ¬ nI 7 = nI 4 by decide), if_neg (show ¬ nI 7 = nI 5 by decide), if_neg (show ¬ nI 7 = nI 6 by decide), if_pos rfl]), rfl⟩
      · refine z_tableIn G 124 dX3_factOf_11 (by decide) (by decide) rfl (by decide) ?_
        refine z_aload_n G dX3_factOf_124 0 rfl ?_
        refine rg_bows G hin (List.mem_of_getElem? (i := 7) rfl) dX3_factOf_125 ?_
        refine z_iload_n G dX3_factOf_128 1 rfl ?_
        refine z_pVi (As := [_]) G _ _ _ (fun l => c_X0_madeBy l D y a f hg) k_X0_madeBy gX3_factOf_X0_madeBy 0 0 rfl rfl rfl dX3_factOf_129 ⟨by decide, by decide⟩ ⟨rfl, rfl⟩ ⟨Nat.zero_le _, Nat.zero_le _⟩ rfl (Nat.le_of_ble_eq_true rfl) rfl (rm_perm _ _ _ _) (bw_perm rfl) ?_
        exact hE _ _ _ _ dX3_factOf_132 rfl ⟨(by rw [ofR1, hx_n hg, if_pos sg, nI_clamp (by omega), faR, if_neg (show ¬ nI 8 = nI 0 by decide), if_neg (show ¬ nI 8 = nI 1 by decide), if_neg (show ¬ nI 8 = nI 2 by decide), if_neg (show ¬ nI 8 = nI 3 by decide), if_neg (show ¬ nI 8 = nI 4 by decide), if_neg (show ¬ nI 8 = nI 5 by decide), if_neg (show ¬ nI 8 = nI 6 by decide), if_neg (show ¬ nI 8 = nI 7 by decide), if_pos rfl]), rfl⟩
      · refine z_tableIn G 133 dX3_factOf_11 (by decide) (by decide) rfl (by decide) ?_
        refine z_aload_n G dX3_factOf_133 0 rfl ?_
        refine z_iload_n G dX3_factOf_134 1 rfl ?_
        refine z_dVi (As := [_]) G _ _ (fun l => c_X3_rankOf l D y a f rk0 hp hg) k_X3_rankOf gX3_factOf_X3_rankOf 0 3 rfl rfl rfl dX3_factOf_135 ⟨by decide, by decide⟩ ⟨rfl, rfl⟩ ⟨Nat.zero_le _, Nat.zero_le _⟩ rfl (Nat.le_of_ble_eq_true rfl) rfl ?_
        exact hE _ _ _ _ dX3_factOf_138 rfl ⟨(by rw [ofR1, hx_n hg, if_pos sg, nI_clamp (by omega), faR, if_neg (show ¬ nI 9 = nI 0 by decide), if_neg (show ¬ nI 9 = nI 1 by decide), if_neg (show ¬ nI 9 = nI 2 by decide), if_neg (show ¬ nI 9 = nI 3 by decide), if_neg (show ¬ nI 9 = nI 4 by decide), if_neg (show ¬ nI 9 = nI 5 by decide), if_neg (show ¬ nI 9 = nI 6 by decide), if_neg (show ¬ nI 9 = nI 7 by decide), if_neg (show ¬ nI 9 = nI 8 by decide), if_pos rfl]), rfl⟩
  · refine z_iconst (v := (-1)) G dX3_factOf_8 rfl ?_
    exact hE _ _ _ _ dX3_factOf_9 rfl ⟨(by rw [ofR1, bI_0 c5]; rfl), rfl⟩

theorem k_X3_counted : zCal yX3_counted wsX3_counted cX3_counted 2 (some .int) 1 := ⟨⟨_, rfl⟩, by decide +kernel⟩
theorem in_X3_counted_X3 : ∀ w ∈ wsX30, w ∈ wsX3_counted := fun _ h => List.mem_cons_of_mem _ (List.mem_append_left _ (List.mem_append_right _ h))
set_option maxHeartbeats 4000000 in
set_option maxRecDepth 100000 in
theorem c_X3_counted (l : Launch) (D : va_G) (y : Nat → ClassId) (a : Nat → Nat) (f rk0 : Nat → Int32) (hp : PF f) (x : Int32) : zDi l D y yX3_counted wsX3_counted ({ frames := 3, cells := 0, slots := 0, locals := 67 }) [.ref (a 0), .int (x)] (rmW y a f rk0) (coR1 f x) (rmW y a f rk0) := by
  refine zMi.mk (cc := cX3_counted) (maxL := 2) (lv := [(0, .ref (a 0)), (1, .int (x))]) (by decide) rfl (Nat.le_of_ble_eq_true rfl) rfl (fun X G hE => ?_)
  have hin := in_X3_counted_X3
  refine z_iload_n G dX3_counted_0 1 rfl ?_
  rcases x_sw 12 (by decide) (x) with hsw | ⟨k, hk, rfl⟩
  · refine z_tableOut G 148 dX3_counted_1 hsw (by decide) ?_
    refine z_aload_n G dX3_counted_148 0 rfl ?_
    refine z_iload_n G dX3_counted_149 1 rfl ?_
    refine z_dVi (As := [_]) G _ _ (fun l => c_X3_settingCounted l D y a f rk0 x) k_X3_settingCounted gX3_counted_X3_settingCounted 0 3 rfl rfl rfl dX3_counted_150 ⟨by decide, by decide⟩ ⟨rfl, rfl⟩ ⟨Nat.zero_le _, Nat.zero_le _⟩ rfl (Nat.le_of_ble_eq_true rfl) rfl ?_
    exact hE _ _ _ _ dX3_counted_153 rfl ⟨(by rw [coR1, if_neg (x_out hsw (k := 0) (by decide) (by decide)), if_neg (x_out hsw (k := 1) (by decide) (by decide)), if_neg (x_out hsw (k := 2) (by decide) (by decide)), if_neg (x_out hsw (k := 3) (by decide) (by decide)), if_neg (x_out hsw (k := 4) (by decide) (by decide)), if_neg (x_out hsw (k := 5) (by decide) (by decide)), if_neg (x_out hsw (k := 6) (by decide) (by decide)), if_neg (x_out hsw (k := 7) (by decide) (by decide)), if_neg (x_out hsw (k := 8) (by decide) (by decide)), if_neg (x_out hsw (k := 9) (by decide) (by decide)), if_neg (x_out hsw (k := 10) (by decide) (by decide)), if_neg (x_out hsw (k := 11) (by decide) (by decide)), if_neg (x_out hsw (k := 12) (by decide) (by decide))]), rfl⟩
  · rcases (by omega : k = 0 ∨ k = 1 ∨ k = 2 ∨ k = 3 ∨ k = 4 ∨ k = 5 ∨ k = 6 ∨ k = 7 ∨ k = 8 ∨ k = 9 ∨ k = 10 ∨ k = 11 ∨ k = 12) with rfl | rfl | rfl | rfl | rfl | rfl | rfl | rfl | rfl | rfl | rfl | rfl | rfl
    · refine z_tableIn G 68 dX3_counted_1 (by decide) (by decide) rfl (by decide) ?_
      refine z_aload_n G dX3_counted_68 0 rfl ?_
      refine rg_breathsSoFar G hin (List.mem_of_getElem? (i := 1) rfl) dX3_counted_69 ?_
      exact hE _ _ _ _ dX3_counted_72 rfl ⟨(by rw [coR1, if_pos rfl]), rfl⟩
    · refine z_tableIn G 73 dX3_counted_1 (by decide) (by decide) rfl (by decide) ?_
      refine z_aload_n G dX3_counted_73 0 rfl ?_
      refine z_dVi (As := []) G _ _ (fun l => c_X3_guests l D y a f rk0 hp) k_X3_guests gX3_counted_X3_guests 0 3 rfl rfl rfl dX3_counted_74 ⟨by decide, by decide⟩ ⟨rfl, rfl⟩ ⟨Nat.zero_le _, Nat.zero_le _⟩ rfl (Nat.le_of_ble_eq_true rfl) rfl ?_
      exact hE _ _ _ _ dX3_counted_77 rfl ⟨(by rw [coR1, if_neg (show ¬ nI 1 = nI 0 by decide), if_pos rfl]), rfl⟩
    · refine z_tableIn G 78 dX3_counted_1 (by decide) (by decide) rfl (by decide) ?_
      refine z_aload_n G dX3_counted_78 0 rfl ?_
      refine rg_roundsSoFar G hin (List.mem_of_getElem? (i := 2) rfl) dX3_counted_79 ?_
      exact hE _ _ _ _ dX3_counted_82 rfl ⟨(by rw [coR1, if_neg (show ¬ nI 2 = nI 0 by decide), if_neg (show ¬ nI 2 = nI 1 by decide), if_pos rfl]), rfl⟩
    · refine z_tableIn G 83 dX3_counted_1 (by decide) (by decide) rfl (by decide) ?_
      refine z_aload_n G dX3_counted_83 0 rfl ?_
      refine rg_cupsSoFar G hin (List.mem_of_getElem? (i := 3) rfl) dX3_counted_84 ?_
      exact hE _ _ _ _ dX3_counted_87 rfl ⟨(by rw [coR1, if_neg (show ¬ nI 3 = nI 0 by decide), if_neg (show ¬ nI 3 = nI 1 by decide), if_neg (show ¬ nI 3 = nI 2 by decide), if_pos rfl]), rfl⟩
    · refine z_tableIn G 88 dX3_counted_1 (by decide) (by decide) rfl (by decide) ?_
      refine z_aload_n G dX3_counted_88 0 rfl ?_
      refine rg_bows G hin (List.mem_of_getElem? (i := 4) rfl) dX3_counted_89 ?_
      refine z_pVi (As := []) G _ _ _ (fun l => c_X0_owedInAll l D y a f) k_X0_owedInAll gX3_counted_X0_owedInAll 0 0 rfl rfl rfl dX3_counted_92 ⟨by decide, by decide⟩ ⟨rfl, rfl⟩ ⟨Nat.zero_le _, Nat.zero_le _⟩ rfl (Nat.le_of_ble_eq_true rfl) rfl (rm_perm _ _ _ _) (bw_perm rfl) ?_
      exact hE _ _ _ _ dX3_counted_95 rfl ⟨(by rw [coR1, if_neg (show ¬ nI 4 = nI 0 by decide), if_neg (show ¬ nI 4 = nI 1 by decide), if_neg (show ¬ nI 4 = nI 2 by decide), if_neg (show ¬ nI 4 = nI 3 by decide), if_pos rfl]; rfl), rfl⟩
    · refine z_tableIn G 96 dX3_counted_1 (by decide) (by decide) rfl (by decide) ?_
      refine z_aload_n G dX3_counted_96 0 rfl ?_
      refine rg_bows G hin (List.mem_of_getElem? (i := 4) rfl) dX3_counted_97 ?_
      refine z_pVi (As := []) G _ _ _ (fun l => c_X0_madeSoFar l D y a f) k_X0_madeSoFar gX3_counted_X0_madeSoFar 0 0 rfl rfl rfl dX3_counted_100 ⟨by decide, by decide⟩ ⟨rfl, rfl⟩ ⟨Nat.zero_le _, Nat.zero_le _⟩ rfl (Nat.le_of_ble_eq_true rfl) rfl (rm_perm _ _ _ _) (bw_perm rfl) ?_
      exact hE _ _ _ _ dX3_counted_103 rfl ⟨(by rw [coR1, if_neg (show ¬ nI 5 = nI 0 by decide), if_neg (show ¬ nI 5 = nI 1 by decide), if_neg (show ¬ nI 5 = nI 2 by decide), if_neg (show ¬ nI 5 = nI 3 by decide), if_neg (show ¬ nI 5 = nI 4 by decide), if_pos rfl]), rfl⟩
    · refine z_tableIn G 104 dX3_counted_1 (by decide) (by decide) rfl (by decide) ?_
      refine z_aload_n G dX3_counted_104 0 rfl ?_
      refine rg_bows G hin (List.mem_of_getElem? (i := 4) rfl) dX3_counted_105 ?_
      refine z_pVi (As := []) G _ _ _ (fun l => c_X0_lostSoFar l D y a f) k_X0_lostSoFar gX3_counted_X0_lostSoFar 0 0 rfl rfl rfl dX3_counted_108 ⟨by decide, by decide⟩ ⟨rfl, rfl⟩ ⟨Nat.zero_le _, Nat.zero_le _⟩ rfl (Nat.le_of_ble_eq_true rfl) rfl (rm_perm _ _ _ _) (bw_perm rfl) ?_
      exact hE _ _ _ _ dX3_counted_111 rfl ⟨(by rw [coR1, if_neg (show ¬ nI 6 = nI 0 by decide), if_neg (show ¬ nI 6 = nI 1 by decide), if_neg (show ¬ nI 6 = nI 2 by decide), if_neg (show ¬ nI 6 = nI 3 by decide), if_neg (show ¬ nI 6 = nI 4 by decide), if_neg (show ¬ nI 6 = nI 5 by decide), if_pos rfl]), rfl⟩
    · refine z_tableIn G 112 dX3_counted_1 (by decide) (by decide) rfl (by decide) ?_
      refine z_aload_n G dX3_counted_112 0 rfl ?_
      refine rg_bows G hin (List.mem_of_getElem? (i := 4) rfl) dX3_counted_113 ?_
      refine z_pVi (As := []) G _ _ _ (fun l => c_X0_setOffSoFar l D y a f) k_X0_setOffSoFar gX3_counted_X0_setOffSoFar 0 0 rfl rfl rfl dX3_counted_116 ⟨by decide, by decide⟩ ⟨rfl, rfl⟩ ⟨Nat.zero_le _, Nat.zero_le _⟩ rfl (Nat.le_of_ble_eq_true rfl) rfl (rm_perm _ _ _ _) (bw_perm rfl) ?_
      exact hE _ _ _ _ dX3_counted_119 rfl ⟨(by rw [coR1, if_neg (show ¬ nI 7 = nI 0 by decide), if_neg (show ¬ nI 7 = nI 1 by decide), if_neg (show ¬ nI 7 = nI 2 by decide), if_neg (show ¬ nI 7 = nI 3 by decide), if_neg (show ¬ nI 7 = nI 4 by decide), if_neg (show ¬ nI 7 = nI 5 by decide), if_neg (show ¬ nI 7 = nI 6 by decide), if_pos rfl]), rfl⟩
    · refine z_tableIn G 120 dX3_counted_1 (by decide) (by decide) rfl (by decide) ?_
      refine z_aload_n G dX3_counted_120 0 rfl ?_
      refine rg_bows G hin (List.mem_of_getElem? (i := 4) rfl) dX3_counted_121 ?_
      refine z_pVi (As := []) G _ _ _ (fun l => c_X0_laidSoFar l D y a f) k_X0_laidSoFar gX3_counted_X0_laidSoFar 0 0 rfl rfl rfl dX3_counted_124 ⟨by decide, by decide⟩ ⟨rfl, rfl⟩ ⟨Nat.zero_le _, Nat.zero_le _⟩ rfl (Nat.le_of_ble_eq_true rfl) rfl (rm_perm _ _ _ _) (bw_perm rfl) ?_
      exact hE _ _ _ _ dX3_counted_127 rfl ⟨(by rw [coR1, if_neg (show ¬ nI 8 = nI 0 by decide), if_neg (show ¬ nI 8 = nI 1 by decide), if_neg (show ¬ nI 8 = nI 2 by decide), if_neg (show ¬ nI 8 = nI 3 by decide), if_neg (show ¬ nI 8 = nI 4 by decide), if_neg (show ¬ nI 8 = nI 5 by decide), if_neg (show ¬ nI 8 = nI 6 by decide), if_neg (show ¬ nI 8 = nI 7 by decide), if_pos rfl]), rfl⟩
    · refine z_tableIn G 128 dX3_counted_1 (by decide) (by decide) rfl (by decide) ?_
      refine z_aload_n G dX3_counted_128 0 rfl ?_
      refine rg_wordsSoFar G hin (List.mem_of_getElem? (i := 5) rfl) dX3_counted_129 ?_
      exact hE _ _ _ _ dX3_counted_132 rfl ⟨(by rw [coR1, if_neg (show ¬ nI 9 = nI 0 by decide), if_neg (show ¬ nI 9 = nI 1 by decide), if_neg (show ¬ nI 9 = nI 2 by decide), if_neg (show ¬ nI 9 = nI 3 by decide), if_neg (show ¬ nI 9 = nI 4 by decide), if_neg (show ¬ nI 9 = nI 5 by decide), if_neg (show ¬ nI 9 = nI 6 by decide), if_neg (show ¬ nI 9 = nI 7 by decide), if_neg (show ¬ nI 9 = nI 8 by decide), if_pos rfl]), rfl⟩
    · refine z_tableIn G 133 dX3_counted_1 (by decide) (by decide) rfl (by decide) ?_
      refine z_aload_n G dX3_counted_133 0 rfl ?_
      refine rg_sighsSoFar G hin (List.mem_of_getElem? (i := 6) rfl) dX3_counted_134 ?_
      exact hE _ _ _ _ dX3_counted_137 rfl ⟨(by rw [coR1, if_neg (show ¬ nI 10 = nI 0 by decide), if_neg (show ¬ nI 10 = nI 1 by decide), if_neg (show ¬ nI 10 = nI 2 by decide), if_neg (show ¬ nI 10 = nI 3 by decide), if_neg (show ¬ nI 10 = nI 4 by decide), if_neg (show ¬ nI 10 = nI 5 by decide), if_neg (show ¬ nI 10 = nI 6 by decide), if_neg (show ¬ nI 10 = nI 7 by decide), if_neg (show ¬ nI 10 = nI 8 by decide), if_neg (show ¬ nI 10 = nI 9 by decide), if_pos rfl]), rfl⟩
    · refine z_tableIn G 138 dX3_counted_1 (by decide) (by decide) rfl (by decide) ?_
      refine z_aload_n G dX3_counted_138 0 rfl ?_
      refine z_dVi (As := []) G _ _ (fun l => c_X3_guestsAsSet l D y a f rk0 hp) k_X3_guestsAsSet gX3_counted_X3_guestsAsSet 0 3 rfl rfl rfl dX3_counted_139 ⟨by decide, by decide⟩ ⟨rfl, rfl⟩ ⟨Nat.zero_le _, Nat.zero_le _⟩ rfl (Nat.le_of_ble_eq_true rfl) rfl ?_
      exact hE _ _ _ _ dX3_counted_142 rfl ⟨(by rw [coR1, if_neg (show ¬ nI 11 = nI 0 by decide), if_neg (show ¬ nI 11 = nI 1 by decide), if_neg (show ¬ nI 11 = nI 2 by decide), if_neg (show ¬ nI 11 = nI 3 by decide), if_neg (show ¬ nI 11 = nI 4 by decide), if_neg (show ¬ nI 11 = nI 5 by decide), if_neg (show ¬ nI 11 = nI 6 by decide), if_neg (show ¬ nI 11 = nI 7 by decide), if_neg (show ¬ nI 11 = nI 8 by decide), if_neg (show ¬ nI 11 = nI 9 by decide), if_neg (show ¬ nI 11 = nI 10 by decide), if_pos rfl]), rfl⟩
    · refine z_tableIn G 143 dX3_counted_1 (by decide) (by decide) rfl (by decide) ?_
      refine z_aload_n G dX3_counted_143 0 rfl ?_
      refine z_dVi (As := []) G _ _ (fun l => c_X3_passedByAsSet l D y a f rk0 hp) k_X3_passedByAsSet gX3_counted_X3_passedByAsSet 0 3 rfl rfl rfl dX3_counted_144 ⟨by decide, by decide⟩ ⟨rfl, rfl⟩ ⟨Nat.zero_le _, Nat.zero_le _⟩ rfl (Nat.le_of_ble_eq_true rfl) rfl ?_
      exact hE _ _ _ _ dX3_counted_147 rfl ⟨(by rw [coR1, if_neg (show ¬ nI 12 = nI 0 by decide), if_neg (show ¬ nI 12 = nI 1 by decide), if_neg (show ¬ nI 12 = nI 2 by decide), if_neg (show ¬ nI 12 = nI 3 by decide), if_neg (show ¬ nI 12 = nI 4 by decide), if_neg (show ¬ nI 12 = nI 5 by decide), if_neg (show ¬ nI 12 = nI 6 by decide), if_neg (show ¬ nI 12 = nI 7 by decide), if_neg (show ¬ nI 12 = nI 8 by decide), if_neg (show ¬ nI 12 = nI 9 by decide), if_neg (show ¬ nI 12 = nI 10 by decide), if_neg (show ¬ nI 12 = nI 11 by decide), if_pos rfl]), rfl⟩

theorem k_X3_welcome : zCal yX3_welcome wsX3_welcome cX3_welcome 4 (some .int) 1 := ⟨⟨_, rfl⟩, by decide +kernel⟩
theorem in_X3_welcome_X3 : ∀ w ∈ wsX30, w ∈ wsX3_welcome := fun _ h => List.mem_cons_of_mem _ (List.mem_append_right _ h)
set_option maxHeartbeats 4000000 in
set_option maxRecDepth 100000 in
theorem c_X3_welcome (l : Launch) (D : va_G) (y : Nat → ClassId) (a : Nat → Nat) (f rk0 : Nat → Int32) (hp : PF f) (x : Int32) : zDi l D y yX3_welcome wsX3_welcome ({ frames := 2, cells := 0, slots := 0, locals := 42 }) [.ref (a 0), .int (x)] (rmW y a f rk0) ((coR f x).1) (rmW y a (coR f x).2 rk0) := by
  refine zMi.mk (cc := cX3_welcome) (maxL := 4) (lv := [(0, .ref (a 0)), (1, .int (x))]) (by decide) rfl (Nat.le_of_ble_eq_true rfl) rfl (fun X G hE => ?_)
  have hin := in_X3_welcome_X3
  refine z_iload_n G dX3_welcome_0 1 rfl ?_
  refine z_iconst (v := nI 1) G dX3_welcome_1 rfl ?_
  refine z_icmp_lt G dX3_welcome_2 11 (by decide) (fun c2 => ?_) (fun c2 => ?_)
  · refine z_bipush (v := (-2)) G dX3_welcome_11 rfl ?_
    exact hE _ _ _ _ dX3_welcome_13 rfl (by first | (rw [coR, if_pos (Or.inl c2)]; exact ⟨rfl, rfl⟩) | (rw [coR, if_pos (Or.inr (Int32.not_le.mp c8))]; exact ⟨rfl, rfl⟩))
  · refine z_iload_n G dX3_welcome_5 1 rfl ?_
    refine z_bipush (v := nI 30) G dX3_welcome_6 rfl ?_
    refine z_icmp_le G dX3_welcome_8 14 (by decide) (fun c8 => ?_) (fun c8 => ?_)
    · refine z_aload_n G dX3_welcome_14 0 rfl ?_
      refine z_dVi (As := []) G _ _ (fun l => c_X3_guests l D y a f rk0 hp) k_X3_guests gX3_welcome_X3_guests 0 3 rfl rfl rfl dX3_welcome_15 ⟨by decide, by decide⟩ ⟨rfl, rfl⟩ ⟨Nat.zero_le _, Nat.zero_le _⟩ rfl (Nat.le_of_ble_eq_true rfl) rfl ?_
      refine z_istore_nA G dX3_welcome_18 rfl (by decide) rfl ?_
      refine z_iconst (v := nI 0) G dX3_welcome_19 rfl ?_
      refine z_istore_nA G dX3_welcome_20 rfl (by decide) rfl ?_
      have lo : ∀ nj j : Nat, nj + j = 9 → (∀ i, i < j → gs f i = true) → zV D X (rmW y a f rk0) 0 0 21 [(0, .ref (a 0)), (1, .int (x)), (2, .int (nI (ng f))), (3, .int (nI (j)))] [] := by
        intro nj
        induction nj with
        | zero =>
          intro j hj hn
          obtain rfl : j = 9 := by omega
          refine z_iload_n G dX3_welcome_21 3 rfl ?_
          refine z_bipush (v := nI 9) G dX3_welcome_22 rfl ?_
          refine z_icmp_geT G dX3_welcome_24 58 (by decide) (nI_le (Nat.le_refl _) (by decide)) ?_
          refine z_bipush (v := (-4)) G dX3_welcome_58 rfl ?_
          exact hE _ _ _ _ dX3_welcome_60 rfl (by rw [coR, if_neg (fun q => q.elim c2 (fun z => absurd c8 (Int32.not_le.mpr z))), if_pos (show ng f = 9 from cnt_all 9 hn)]; exact ⟨rfl, rfl⟩)
        | succ nj ihj =>
          intro j hj hn
          have lj : j < 9 := by omega
          refine z_iload_n G dX3_welcome_21 3 rfl ?_
          refine z_bipush (v := nI 9) G dX3_welcome_22 rfl ?_
          refine z_icmp_geF G dX3_welcome_24 58 (by decide) (nI_ge lj (by decide)) ?_
          refine z_aload_n G dX3_welcome_27 0 rfl ?_
          refine rg_patience G hin (List.mem_of_getElem? (i := 1) rfl) dX3_welcome_28 ?_
          refine z_iload_n G dX3_welcome_31 3 rfl ?_
          refine rl_patience G (by omega) dX3_welcome_32 ?_
          refine z_if_ne G dX3_welcome_33 52 (by decide) (fun c33 => ?_) (fun c33 => ?_)
          · refine z_iinc G dX3_welcome_52 3 rfl (nI (j + 1)) (nI_inc _) (by decide) rfl ?_
            refine z_goto (tgt := 21) G dX3_welcome_55 (by decide) ?_
            exact ihj (j + 1) (by omega) (fun i hi => (Nat.lt_succ_iff_lt_or_eq.mp hi).elim (hn i) (fun e => by rw [e]; exact pf_n hp lj c33))
          · refine z_aload_n G dX3_welcome_36 0 rfl ?_
            refine rg_patience G hin (List.mem_of_getElem? (i := 1) rfl) dX3_welcome_37 ?_
            refine z_iload_n G dX3_welcome_40 3 rfl ?_
            refine z_iload_n G dX3_welcome_41 1 rfl ?_
            refine rs_patience G (by omega) dX3_welcome_42 ?_
            refine z_aload_n G dX3_welcome_43 0 rfl ?_
            refine rg_seats G hin (List.mem_of_getElem? (i := 2) rfl) dX3_welcome_44 ?_
            refine z_iload_n G dX3_welcome_47 3 rfl ?_
            refine z_iload_n G dX3_welcome_48 2 rfl ?_
            refine rs_seats G (by omega) dX3_welcome_49 ?_
            refine z_iload_n G dX3_welcome_50 3 rfl ?_
            have hj0 : gs f j = false := pf_z hp lj c33
            have hfr : fre f 9 0 = j := fre_is hj0 9 0 (fun i _ hi => hn i hi) (Nat.zero_le _) (by omega)
            have hng : ¬ ng f = 9 := by have := cnt_lt hj0 9 lj; rw [ng]; omega
            exact hE _ _ _ _ dX3_welcome_51 rfl (by rw [coR, if_neg (fun q => q.elim c2 (fun z => absurd c8 (Int32.not_le.mpr z))), if_neg hng, hfr]; exact ⟨rfl, rmW_eq (fun i hi hf => by unfold nfl at hf; simp only [nwF, upd]; (repeat' split) <;> first | rfl | omega) (fun _ _ => rfl)⟩)
      exact lo 9 0 rfl (fun i hi => absurd hi (Nat.not_lt_zero i))
    · refine z_bipush (v := (-2)) G dX3_welcome_11 rfl ?_
      exact hE _ _ _ _ dX3_welcome_13 rfl (by first | (rw [coR, if_pos (Or.inl c2)]; exact ⟨rfl, rfl⟩) | (rw [coR, if_pos (Or.inr (Int32.not_le.mp c8))]; exact ⟨rfl, rfl⟩))

theorem k_X3_seeOff : zCal yX3_seeOff wsX3_seeOff cX3_seeOff 4 (some .int) 1 := ⟨⟨_, rfl⟩, by decide +kernel⟩
theorem in_X3_seeOff_X3 : ∀ w ∈ wsX30, w ∈ wsX3_seeOff := fun _ h => List.mem_cons_of_mem _ (List.mem_append_left _ (List.mem_append_right _ h))
set_option maxHeartbeats 4000000 in
set_option maxRecDepth 100000 in
theorem c_X3_seeOff (l : Launch) (D : va_G) (y : Nat → ClassId) (a : Nat → Nat) (f rk0 : Nat → Int32) (hp : PF f) (x : Int32) : zDi l D y yX3_seeOff wsX3_seeOff ({ frames := 2, cells := 0, slots := 0, locals := 46 }) [.ref (a 0), .int (x)] (rmW y a f rk0) ((leR f x).1) (rmW y a (leR f x).2 rk0) := by
  refine zMi.mk (cc := cX3_seeOff) (maxL := 4) (lv := [(0, .ref (a 0)), (1, .int (x))]) (by decide) rfl (Nat.le_of_ble_eq_true rfl) rfl (fun X G hE => ?_)
  have hin := in_X3_seeOff_X3
  refine z_aload_n G dX3_seeOff_0 0 rfl ?_
  refine z_iload_n G dX3_seeOff_1 1 rfl ?_
  refine z_dVi (As := [_]) G _ _ (fun l => c_X3_isHere l D y a f rk0 hp x) k_X3_isHere gX3_seeOff_X3_isHere 0 3 rfl rfl rfl dX3_seeOff_2 ⟨by decide, by decide⟩ ⟨rfl, rfl⟩ ⟨Nat.zero_le _, Nat.zero_le _⟩ rfl (Nat.le_of_ble_eq_true rfl) rfl ?_
  refine z_if_ne G dX3_seeOff_5 10 (by decide) (fun c5 => ?_) (fun c5 => ?_)
  · obtain ⟨g, hg, rfl, sg⟩ := hx_t (bI_n c5)
    refine z_aload_n G dX3_seeOff_10 0 rfl ?_
    refine rg_seats G hin (List.mem_of_getElem? (i := 1) rfl) dX3_seeOff_11 ?_
    refine z_iload_n G dX3_seeOff_14 1 rfl ?_
    refine rl_seats G (by omega) dX3_seeOff_15 ?_
    refine z_istore_nA G dX3_seeOff_16 rfl (by decide) rfl ?_
    refine z_iconst (v := nI 0) G dX3_seeOff_17 rfl ?_
    refine z_istore_nA G dX3_seeOff_18 rfl (by decide) rfl ?_
    have lo : ∀ nj j : Nat, nj + j = 9 → zV D X (rmW y a (se0 f (f (14 + 17 * g)) (j)) rk0) 0 0 19 [(0, .ref (a 0)), (1, .int (nI (g))), (2, .int (f (14 + 17 * g))), (3, .int (nI (j)))] [] := by
      intro nj
      induction nj with
      | zero =>
        intro j hj
        obtain rfl : j = 9 := by omega
        refine z_iload_n G dX3_seeOff_19 3 rfl ?_
        refine z_bipush (v := nI 9) G dX3_seeOff_20 rfl ?_
        refine z_icmp_geT G dX3_seeOff_22 60 (by decide) (nI_le (Nat.le_refl _) (by decide)) ?_
        refine z_aload_n G dX3_seeOff_60 0 rfl ?_
        refine rg_bows G hin (List.mem_of_getElem? (i := 3) rfl) dX3_seeOff_61 ?_
        refine z_iload_n G dX3_seeOff_64 1 rfl ?_
        refine z_pVv (As := [_]) G _ _ (fun l => c_X0_forget l D y a _ hg) k_X0_forget gX3_seeOff_X0_forget 0 0 rfl rfl rfl dX3_seeOff_65 ⟨by decide, by decide⟩ ⟨rfl, rfl⟩ ⟨Nat.zero_le _, Nat.zero_le _⟩ rfl (Nat.le_of_ble_eq_true rfl) rfl (rm_perm _ _ _ _) (bw_perm (rmH_b (fgtF_h hg))) ?_
        refine z_aload_n G dX3_seeOff_68 0 rfl ?_
        refine rg_patience G hin (List.mem_of_getElem? (i := 2) rfl) dX3_seeOff_69 ?_
        refine z_iload_n G dX3_seeOff_72 1 rfl ?_
        refine z_iconst (v := nI 0) G dX3_seeOff_73 rfl ?_
        refine rs_patience G (by omega) dX3_seeOff_74 ?_
        refine z_aload_n G dX3_seeOff_75 0 rfl ?_
        refine rg_silence G hin (List.mem_of_getElem? (i := 4) rfl) dX3_seeOff_76 ?_
        refine z_iload_n G dX3_seeOff_79 1 rfl ?_
        refine z_iconst (v := nI 0) G dX3_seeOff_80 rfl ?_
        refine rs_silence G (by omega) dX3_seeOff_81 ?_
        refine z_aload_n G dX3_seeOff_82 0 rfl ?_
        refine rg_cups G hin (List.mem_of_getElem? (i := 5) rfl) dX3_seeOff_83 ?_
        refine z_iload_n G dX3_seeOff_86 1 rfl ?_
        refine z_iconst (v := nI 0) G dX3_seeOff_87 rfl ?_
        refine rs_cups G (by omega) dX3_seeOff_88 ?_
        refine z_aload_n G dX3_seeOff_89 0 rfl ?_
        refine rg_sighs G hin (List.mem_of_getElem? (i := 6) rfl) dX3_seeOff_90 ?_
        refine z_iload_n G dX3_seeOff_93 1 rfl ?_
        refine z_iconst (v := nI 0) G dX3_seeOff_94 rfl ?_
        refine rs_sighs G (by omega) dX3_seeOff_95 ?_
        refine z_aload_n G dX3_seeOff_96 0 rfl ?_
        refine rg_words G hin (List.mem_of_getElem? (i := 7) rfl) dX3_seeOff_97 ?_
        refine z_iload_n G dX3_seeOff_100 1 rfl ?_
        refine z_iconst (v := nI 0) G dX3_seeOff_101 rfl ?_
        refine rs_words G (by omega) dX3_seeOff_102 ?_
        refine z_aload_n G dX3_seeOff_103 0 rfl ?_
        refine rg_seats G hin (List.mem_of_getElem? (i := 1) rfl) dX3_seeOff_104 ?_
        refine z_iload_n G dX3_seeOff_107 1 rfl ?_
        refine z_iconst (v := nI 0) G dX3_seeOff_108 rfl ?_
        refine rs_seats G (by omega) dX3_seeOff_109 ?_
        refine z_iload_n G dX3_seeOff_110 2 rfl ?_
        exact hE _ _ _ _ dX3_seeOff_111 rfl (by rw [leR, hx_n hg, if_pos sg, nI_clamp (by omega)]; exact ⟨rfl, rmW_eq (fun i hi hf => by unfold nfl at hf; exact upd_cong (upd_cong (upd_cong (upd_cong (upd_cong (upd_cong (upd_ne (by omega)).symm)))))) (fun _ _ => rfl)⟩)
      | succ nj ihj =>
        intro j hj
        have lj : j < 9 := by omega
        refine z_iload_n G dX3_seeOff_19 3 rfl ?_
        refine z_bipush (v := nI 9) G dX3_seeOff_20 rfl ?_
        refine z_icmp_geF G dX3_seeOff_22 60 (by decide) (nI_ge lj (by decide)) ?_
        refine z_aload_n G dX3_seeOff_25 0 rfl ?_
        refine rg_patience G hin (List.mem_of_getElem? (i := 2) rfl) dX3_seeOff_26 ?_
        refine z_iload_n G dX3_seeOff_29 3 rfl ?_
        refine rl_patience G (by omega) dX3_seeOff_30 ?_
        refine z_if_le G dX3_seeOff_31 54 (by decide) (fun c31 => ?_) (fun c31 => ?_)
        · have n1 : f (15 + 17 * j) ≤ 0 := by rw [← se0_ne f (i := 15 + 17 * j) (v := f (14 + 17 * g)) j (fun g hg => by omega)]; exact c31
          refine z_iinc G dX3_seeOff_54 3 rfl (nI (j + 1)) (nI_inc _) (by decide) rfl ?_
          refine z_goto (tgt := 19) G dX3_seeOff_57 (by decide) ?_
          have e : se0 f (f (14 + 17 * g)) (j + 1) = se0 f (f (14 + 17 * g)) j := by rw [se0, if_neg (fun q => by have := pf_f hp lj n1; rw [this] at q; cases q.1)]
          rw [← e]
          exact ihj (j + 1) (by omega)
        · have n1 : ¬ f (15 + 17 * j) ≤ 0 := by rw [← se0_ne f (i := 15 + 17 * j) (v := f (14 + 17 * g)) j (fun g hg => by omega)]; exact c31
          have es : se0 f (f (14 + 17 * g)) j (14 + 17 * j) = f (14 + 17 * j) := se0_ne f j (fun g hg => by omega)
          refine z_aload_n G dX3_seeOff_34 0 rfl ?_
          refine rg_seats G hin (List.mem_of_getElem? (i := 1) rfl) dX3_seeOff_35 ?_
          refine z_iload_n G dX3_seeOff_38 3 rfl ?_
          refine rl_seats G (by omega) dX3_seeOff_39 ?_
          refine z_iload_n G dX3_seeOff_40 2 rfl ?_
          refine z_icmp_le G dX3_seeOff_41 54 (by decide) (fun c41 => ?_) (fun c41 => ?_)
          · rw [es] at c41
            refine z_iinc G dX3_seeOff_54 3 rfl (nI (j + 1)) (nI_inc _) (by decide) rfl ?_
            refine z_goto (tgt := 19) G dX3_seeOff_57 (by decide) ?_
            have e : se0 f (f (14 + 17 * g)) (j + 1) = se0 f (f (14 + 17 * g)) j := by rw [se0, if_neg (fun q => absurd q.2 (Int32.not_lt.mpr c41))]
            rw [← e]
            exact ihj (j + 1) (by omega)
          · rw [es] at c41
            have n2 := Int32.not_le.mp c41
            refine z_aload_n G dX3_seeOff_44 0 rfl ?_
            refine rg_seats G hin (List.mem_of_getElem? (i := 1) rfl) dX3_seeOff_45 ?_
            refine z_iload_n G dX3_seeOff_48 3 rfl ?_
            refine z_dup2 G dX3_seeOff_49 rfl rfl ?_
            refine rl_seats G (by omega) dX3_seeOff_50 ?_
            refine z_iconst (v := nI 1) G dX3_seeOff_51 rfl ?_
            refine z_isub G dX3_seeOff_52 ?_
            refine rs_seats G (by omega) dX3_seeOff_53 ?_
            refine z_iinc G dX3_seeOff_54 3 rfl (nI (j + 1)) (nI_inc _) (by decide) rfl ?_
            refine z_goto (tgt := 19) G dX3_seeOff_57 (by decide) ?_
            have e : se0 f (f (14 + 17 * g)) (j + 1) = upd (se0 f (f (14 + 17 * g)) j) (14 + 17 * j) (se0 f (f (14 + 17 * g)) j (14 + 17 * j) - nI 1) := by rw [se0, if_pos ⟨pf_t hp lj n1, n2⟩, es]
            rw [← e]
            exact ihj (j + 1) (by omega)
    exact lo 9 0 rfl
  · refine z_iconst (v := (-1)) G dX3_seeOff_8 rfl ?_
    exact hE _ _ _ _ dX3_seeOff_9 rfl (by rw [leR, bI_0 c5]; exact ⟨rfl, rfl⟩)

theorem k_X3_hearWord : zCal yX3_hearWord wsX3_hearWord cX3_hearWord 3 (some .int) 1 := ⟨⟨_, rfl⟩, by decide +kernel⟩
theorem in_X3_hearWord_X3 : ∀ w ∈ wsX30, w ∈ wsX3_hearWord := fun _ h => List.mem_cons_of_mem _ (List.mem_append_right _ h)
set_option maxHeartbeats 4000000 in
set_option maxRecDepth 100000 in
theorem c_X3_hearWord (l : Launch) (D : va_G) (y : Nat → ClassId) (a : Nat → Nat) (f rk0 : Nat → Int32) (hp : PF f) (x : Int32) : zDi l D y yX3_hearWord wsX3_hearWord ({ frames := 1, cells := 0, slots := 0, locals := 21 }) [.ref (a 0), .int (x)] (rmW y a f rk0) ((woR f x).1) (rmW y a (woR f x).2 rk0) := by
  refine zMi.mk (cc := cX3_hearWord) (maxL := 3) (lv := [(0, .ref (a 0)), (1, .int (x))]) (by decide) rfl (Nat.le_of_ble_eq_true rfl) rfl (fun X G hE => ?_)
  have hin := in_X3_hearWord_X3
  refine z_aload_n G dX3_hearWord_0 0 rfl ?_
  refine z_iload_n G dX3_hearWord_1 1 rfl ?_
  refine z_dVi (As := [_]) G _ _ (fun l => c_X3_isHere l D y a f rk0 hp x) k_X3_isHere gX3_hearWord_X3_isHere 0 3 rfl rfl rfl dX3_hearWord_2 ⟨by decide, by decide⟩ ⟨rfl, rfl⟩ ⟨Nat.zero_le _, Nat.zero_le _⟩ rfl (Nat.le_of_ble_eq_true rfl) rfl ?_
  refine z_if_ne G dX3_hearWord_5 10 (by decide) (fun c5 => ?_) (fun c5 => ?_)
  · obtain ⟨g, hg, rfl, sg⟩ := hx_t (bI_n c5)
    refine z_aload_n G dX3_hearWord_10 0 rfl ?_
    refine rg_silence G hin (List.mem_of_getElem? (i := 1) rfl) dX3_hearWord_11 ?_
    refine z_iload_n G dX3_hearWord_14 1 rfl ?_
    refine rl_silence G (by omega) dX3_hearWord_15 ?_
    refine z_istore_nA G dX3_hearWord_16 rfl (by decide) rfl ?_
    refine z_aload_n G dX3_hearWord_17 0 rfl ?_
    refine rg_silence G hin (List.mem_of_getElem? (i := 1) rfl) dX3_hearWord_18 ?_
    refine z_iload_n G dX3_hearWord_21 1 rfl ?_
    refine z_iconst (v := nI 0) G dX3_hearWord_22 rfl ?_
    refine rs_silence G (by omega) dX3_hearWord_23 ?_
    refine z_aload_n G dX3_hearWord_24 0 rfl ?_
    refine rg_words G hin (List.mem_of_getElem? (i := 2) rfl) dX3_hearWord_25 ?_
    refine z_iload_n G dX3_hearWord_28 1 rfl ?_
    refine z_dup2 G dX3_hearWord_29 rfl rfl ?_
    refine rl_words G (by omega) dX3_hearWord_30 ?_
    refine z_iconst (v := nI 1) G dX3_hearWord_31 rfl ?_
    refine z_iadd G dX3_hearWord_32 ?_
    refine rs_words G (by omega) dX3_hearWord_33 ?_
    refine z_aload_n G dX3_hearWord_34 0 rfl ?_
    refine z_dup G dX3_hearWord_35 rfl ?_
    refine rg_wordsSoFar G hin (List.mem_of_getElem? (i := 3) rfl) dX3_hearWord_36 ?_
    refine z_iconst (v := nI 1) G dX3_hearWord_39 rfl ?_
    refine z_iadd G dX3_hearWord_40 ?_
    refine rp_wordsSoFar G hin (List.mem_of_getElem? (i := 3) rfl) dX3_hearWord_41 ?_
    refine z_iload_n G dX3_hearWord_44 2 rfl ?_
    exact hE _ _ _ _ dX3_hearWord_45 rfl (by rw [woR, hx_n hg, if_pos sg, nI_clamp (by omega)]; exact ⟨rfl, rfl⟩)
  · refine z_iconst (v := (-1)) G dX3_hearWord_8 rfl ?_
    exact hE _ _ _ _ dX3_hearWord_9 rfl (by rw [woR, bI_0 c5]; exact ⟨rfl, rfl⟩)

theorem k_X3_makeBow : zCal yX3_makeBow wsX3_makeBow cX3_makeBow 4 (some .int) 2 := ⟨⟨_, rfl⟩, by decide +kernel⟩
theorem in_X3_makeBow_X3 : ∀ w ∈ wsX30, w ∈ wsX3_makeBow := fun _ h => List.mem_cons_of_mem _ (List.mem_append_left _ (List.mem_append_right _ h))
set_option maxHeartbeats 4000000 in
set_option maxRecDepth 100000 in
theorem c_X3_makeBow (l : Launch) (D : va_G) (y : Nat → ClassId) (a : Nat → Nat) (f rk0 : Nat → Int32) (hp : PF f) (x z : Int32) : zDi l D y yX3_makeBow wsX3_makeBow ({ frames := 2, cells := 0, slots := 0, locals := 43 }) [.ref (a 0), .int (x), .int (z)] (rmW y a f rk0) ((boR f x z).1) (rmW y a (boR f x z).2 rk0) := by
  refine zMi.mk (cc := cX3_makeBow) (maxL := 4) (lv := [(0, .ref (a 0)), (1, .int (x)), (2, .int (z))]) (by decide) rfl (Nat.le_of_ble_eq_true rfl) rfl (fun X G hE => ?_)
  have hin := in_X3_makeBow_X3
  refine z_aload_n G dX3_makeBow_0 0 rfl ?_
  refine z_iload_n G dX3_makeBow_1 1 rfl ?_
  refine z_iload_n G dX3_makeBow_2 2 rfl ?_
  refine z_dVi (As := [_, _]) G _ _ (fun l => c_X3_errorOfPair l D y a f rk0 hp x z) k_X3_errorOfPair gX3_makeBow_X3_errorOfPair 0 3 rfl rfl rfl dX3_makeBow_3 ⟨by decide, by decide⟩ ⟨rfl, rfl⟩ ⟨Nat.zero_le _, Nat.zero_le _⟩ rfl (Nat.le_of_ble_eq_true rfl) rfl ?_
  refine z_istore_nA G dX3_makeBow_6 rfl (by decide) rfl ?_
  refine z_iload_n G dX3_makeBow_7 3 rfl ?_
  refine z_if_ge G dX3_makeBow_8 13 (by decide) (fun c8 => ?_) (fun c8 => ?_)
  · obtain ⟨g, o, hg, ho, hgo, rfl, rfl, sg, so⟩ := pairE_ok c8
    refine z_aload_n G dX3_makeBow_13 0 rfl ?_
    refine rg_bows G hin (List.mem_of_getElem? (i := 1) rfl) dX3_makeBow_14 ?_
    refine z_iload_n G dX3_makeBow_17 1 rfl ?_
    refine z_iload_n G dX3_makeBow_18 2 rfl ?_
    refine z_pVi (As := [_, _]) G _ _ _ (fun l => c_X0_pay l D y a f hg ho) k_X0_pay gX3_makeBow_X0_pay 0 0 rfl rfl rfl dX3_makeBow_19 ⟨by decide, by decide⟩ ⟨rfl, rfl⟩ ⟨Nat.zero_le _, Nat.zero_le _⟩ rfl (Nat.le_of_ble_eq_true rfl) rfl (rm_perm _ _ _ _) (bw_perm (rmH_b (payF_h ho))) ?_
    refine z_if_eq G dX3_makeBow_22 37 (by decide) (fun c22 => ?_) (fun c22 => ?_)
    · refine z_bipush (v := (-5)) G dX3_makeBow_37 rfl ?_
      exact hE _ _ _ _ dX3_makeBow_39 rfl (by first | (have n := ite01 c22; rw [boR, if_neg (Int32.not_lt.mpr c8), nI_clamp (show g < 2 ^ 31 by omega), nI_clamp (show o < 2 ^ 31 by omega), if_pos n, payF, if_pos n]; exact ⟨rfl, rfl⟩) | (have n := ite01n c22; rw [boR, if_neg (Int32.not_lt.mpr c8), nI_clamp (show g < 2 ^ 31 by omega), nI_clamp (show o < 2 ^ 31 by omega), if_neg n]; exact ⟨by rw [payF, if_neg n, upd_ne (by omega), upd_ne (by omega), upd_at], rfl⟩))
    · refine z_aload_n G dX3_makeBow_25 0 rfl ?_
      refine rg_bows G hin (List.mem_of_getElem? (i := 1) rfl) dX3_makeBow_26 ?_
      refine z_iload_n G dX3_makeBow_29 1 rfl ?_
      refine z_iload_n G dX3_makeBow_30 2 rfl ?_
      refine z_pVi (As := [_, _]) G _ _ _ (fun l => c_X0_between l D y a _ hg ho) k_X0_between gX3_makeBow_X0_between 0 0 rfl rfl rfl dX3_makeBow_31 ⟨by decide, by decide⟩ ⟨rfl, rfl⟩ ⟨Nat.zero_le _, Nat.zero_le _⟩ rfl (Nat.le_of_ble_eq_true rfl) rfl (rm_perm _ _ _ _) (bw_perm rfl) ?_
      refine z_goto (tgt := 39) G dX3_makeBow_34 (by decide) ?_
      exact hE _ _ _ _ dX3_makeBow_39 rfl (by first | (have n := ite01 c22; rw [boR, if_neg (Int32.not_lt.mpr c8), nI_clamp (show g < 2 ^ 31 by omega), nI_clamp (show o < 2 ^ 31 by omega), if_pos n, payF, if_pos n]; exact ⟨rfl, rfl⟩) | (have n := ite01n c22; rw [boR, if_neg (Int32.not_lt.mpr c8), nI_clamp (show g < 2 ^ 31 by omega), nI_clamp (show o < 2 ^ 31 by omega), if_neg n]; exact ⟨by rw [payF, if_neg n, upd_ne (by omega), upd_ne (by omega), upd_at], rfl⟩))
  · refine z_iload_n G dX3_makeBow_11 3 rfl ?_
    exact hE _ _ _ _ dX3_makeBow_12 rfl (by rw [boR, if_pos (Int32.not_le.mp c8)]; exact ⟨rfl, rfl⟩)

theorem k_X3_sighsWithNextBreath : zCal yX3_sighsWithNextBreath wsX3_sighsWithNextBreath cX3_sighsWithNextBreath 2 (some .boolean) 1 := ⟨⟨_, rfl⟩, by decide +kernel⟩
theorem in_X3_sighsWithNextBreath_X3 : ∀ w ∈ wsX30, w ∈ wsX3_sighsWithNextBreath := fun _ h => List.mem_cons_of_mem _ (List.mem_append_right _ h)
set_option maxHeartbeats 4000000 in
set_option maxRecDepth 100000 in
theorem c_X3_sighsWithNextBreath (l : Launch) (D : va_G) (y : Nat → ClassId) (a : Nat → Nat) (f rk0 : Nat → Int32) {g : Nat} (hg : g < 9) : zDi l D y yX3_sighsWithNextBreath wsX3_sighsWithNextBreath ({ frames := 0, cells := 0, slots := 0, locals := 0 }) [.ref (a 0), .int (nI (g))] (rmW y a f rk0) (bI (sgT f g)) (rmW y a (sgF f g) rk0) := by
  refine zMi.mk (cc := cX3_sighsWithNextBreath) (maxL := 2) (lv := [(0, .ref (a 0)), (1, .int (nI (g)))]) (by decide) rfl (Nat.le_of_ble_eq_true rfl) rfl (fun X G hE => ?_)
  have hin := in_X3_sighsWithNextBreath_X3
  refine z_aload_n G dX3_sighsWithNextBreath_0 0 rfl ?_
  refine rg_silence G hin (List.mem_of_getElem? (i := 1) rfl) dX3_sighsWithNextBreath_1 ?_
  refine z_iload_n G dX3_sighsWithNextBreath_4 1 rfl ?_
  refine z_dup2 G dX3_sighsWithNextBreath_5 rfl rfl ?_
  refine rl_silence G (by omega) dX3_sighsWithNextBreath_6 ?_
  refine z_iconst (v := nI 1) G dX3_sighsWithNextBreath_7 rfl ?_
  refine z_iadd G dX3_sighsWithNextBreath_8 ?_
  refine rs_silence G (by omega) dX3_sighsWithNextBreath_9 ?_
  refine z_aload_n G dX3_sighsWithNextBreath_10 0 rfl ?_
  refine rg_silence G hin (List.mem_of_getElem? (i := 1) rfl) dX3_sighsWithNextBreath_11 ?_
  refine z_iload_n G dX3_sighsWithNextBreath_14 1 rfl ?_
  refine rl_silence G (by omega) dX3_sighsWithNextBreath_15 ?_
  refine z_aload_n G dX3_sighsWithNextBreath_16 0 rfl ?_
  refine rg_settings G hin (List.mem_of_getElem? (i := 2) rfl) dX3_sighsWithNextBreath_17 ?_
  refine z_iconst (v := nI 3) G dX3_sighsWithNextBreath_20 rfl ?_
  refine rl_settings G (by omega) dX3_sighsWithNextBreath_21 ?_
  refine z_aload_n G dX3_sighsWithNextBreath_22 0 rfl ?_
  refine rg_patience G hin (List.mem_of_getElem? (i := 3) rfl) dX3_sighsWithNextBreath_23 ?_
  refine z_iload_n G dX3_sighsWithNextBreath_26 1 rfl ?_
  refine rl_patience G (by omega) dX3_sighsWithNextBreath_27 ?_
  refine z_imul G dX3_sighsWithNextBreath_28 ?_
  refine z_icmp_ge G dX3_sighsWithNextBreath_29 34 (by decide) (fun c29 => ?_) (fun c29 => ?_)
  · refine z_aload_n G dX3_sighsWithNextBreath_34 0 rfl ?_
    refine rg_silence G hin (List.mem_of_getElem? (i := 1) rfl) dX3_sighsWithNextBreath_35 ?_
    refine z_iload_n G dX3_sighsWithNextBreath_38 1 rfl ?_
    refine z_aload_n G dX3_sighsWithNextBreath_39 0 rfl ?_
    refine rg_patience G hin (List.mem_of_getElem? (i := 3) rfl) dX3_sighsWithNextBreath_40 ?_
    refine z_iload_n G dX3_sighsWithNextBreath_43 1 rfl ?_
    refine rl_patience G (by omega) dX3_sighsWithNextBreath_44 ?_
    refine rs_silence G (by omega) dX3_sighsWithNextBreath_45 ?_
    refine z_aload_n G dX3_sighsWithNextBreath_46 0 rfl ?_
    refine rg_sighs G hin (List.mem_of_getElem? (i := 4) rfl) dX3_sighsWithNextBreath_47 ?_
    refine z_iload_n G dX3_sighsWithNextBreath_50 1 rfl ?_
    refine z_dup2 G dX3_sighsWithNextBreath_51 rfl rfl ?_
    refine rl_sighs G (by omega) dX3_sighsWithNextBreath_52 ?_
    refine z_iconst (v := nI 1) G dX3_sighsWithNextBreath_53 rfl ?_
    refine z_iadd G dX3_sighsWithNextBreath_54 ?_
    refine rs_sighs G (by omega) dX3_sighsWithNextBreath_55 ?_
    refine z_iconst (v := nI 1) G dX3_sighsWithNextBreath_56 rfl ?_
    exact hE _ _ _ _ dX3_sighsWithNextBreath_57 rfl ⟨bI_t (decide_eq_true (Int32.not_lt.mpr c29)), (by rw [sgF, if_pos (by rw [sgT]; exact decide_eq_true (Int32.not_lt.mpr c29))]; rfl)⟩
  · refine z_iconst (v := nI 0) G dX3_sighsWithNextBreath_32 rfl ?_
    exact hE _ _ _ _ dX3_sighsWithNextBreath_33 rfl ⟨bI_f (decide_eq_false (fun q => q (Int32.not_le.mp c29))), (by rw [sgF, if_neg (by rw [sgT, decide_eq_false (fun q => q (Int32.not_le.mp c29))]; decide)]; rfl)⟩

theorem k_X3_passBreaths : zCal yX3_passBreaths wsX3_passBreaths cX3_passBreaths 5 (some .int) 1 := ⟨⟨_, rfl⟩, by decide +kernel⟩
theorem in_X3_passBreaths_X3 : ∀ w ∈ wsX30, w ∈ wsX3_passBreaths := fun _ h => List.mem_cons_of_mem _ (List.mem_append_right _ h)
set_option maxHeartbeats 4000000 in
set_option maxRecDepth 100000 in
theorem c_X3_passBreaths (l : Launch) (D : va_G) (y : Nat → ClassId) (a : Nat → Nat) (f rk0 : Nat → Int32) (hp : PF f) {m : Nat} (hm : m < 2 ^ 31) : zDi l D y yX3_passBreaths wsX3_passBreaths ({ frames := 1, cells := 0, slots := 0, locals := 21 }) [.ref (a 0), .int (nI (m))] (rmW y a f rk0) (nI (brMC f m)) (rmW y a (psF f m) rk0) := by
  refine zMi.mk (cc := cX3_passBreaths) (maxL := 5) (lv := [(0, .ref (a 0)), (1, .int (nI (m)))]) (by decide) rfl (Nat.le_of_ble_eq_true rfl) rfl (fun X G hE => ?_)
  have hin := in_X3_passBreaths_X3
  refine z_iconst (v := nI 0) G dX3_passBreaths_0 rfl ?_
  refine z_istore_nA G dX3_passBreaths_1 rfl (by decide) rfl ?_
  refine z_iconst (v := nI 0) G dX3_passBreaths_2 rfl ?_
  refine z_istore_nA G dX3_passBreaths_3 rfl (by decide) rfl ?_
  have lk : ∀ nk k : Nat, nk + k = m → zV D X (rmW y a (brM f (k)) rk0) 0 0 4 [(0, .ref (a 0)), (1, .int (nI (m))), (2, .int (nI (brMC f (k)))), (3, .int (nI (k)))] [] := by
    intro nk
    induction nk with
    | zero =>
      intro k hk
      obtain rfl : k = m := by omega
      refine z_iload_n G dX3_passBreaths_4 3 rfl ?_
      refine z_iload_n G dX3_passBreaths_5 1 rfl ?_
      refine z_icmp_geT G dX3_passBreaths_6 53 (by decide) (nI_le (Nat.le_refl _) hm) ?_
      refine z_aload_n G dX3_passBreaths_53 0 rfl ?_
      refine z_dup G dX3_passBreaths_54 rfl ?_
      refine rg_breathsSoFar G hin (List.mem_of_getElem? (i := 2) rfl) dX3_passBreaths_55 ?_
      refine z_iload_n G dX3_passBreaths_58 1 rfl ?_
      refine z_iadd G dX3_passBreaths_59 ?_
      refine rp_breathsSoFar G hin (List.mem_of_getElem? (i := 2) rfl) dX3_passBreaths_60 ?_
      refine z_aload_n G dX3_passBreaths_63 0 rfl ?_
      refine z_dup G dX3_passBreaths_64 rfl ?_
      refine rg_sighsSoFar G hin (List.mem_of_getElem? (i := 3) rfl) dX3_passBreaths_65 ?_
      refine z_iload_n G dX3_passBreaths_68 2 rfl ?_
      refine z_iadd G dX3_passBreaths_69 ?_
      refine rp_sighsSoFar G hin (List.mem_of_getElem? (i := 3) rfl) dX3_passBreaths_70 ?_
      refine z_iload_n G dX3_passBreaths_73 2 rfl ?_
      exact hE _ _ _ _ dX3_passBreaths_74 rfl ⟨rfl, rfl⟩
    | succ nk ihk =>
      intro k hk
      have lk : k < m := by omega
      have lk1 : k < m := by omega
      refine z_iload_n G dX3_passBreaths_4 3 rfl ?_
      refine z_iload_n G dX3_passBreaths_5 1 rfl ?_
      refine z_icmp_geF G dX3_passBreaths_6 53 (by decide) (nI_ge lk1 hm) ?_
      refine z_iconst (v := nI 0) G dX3_passBreaths_9 rfl ?_
      refine z_istoreA G dX3_passBreaths_10 (by decide) rfl ?_
      have lj0 : ∀ nj j : Nat, nj + j = 9 → zV D X (rmW y a (brN (brM f k) (j)) rk0) 0 0 12 [(0, .ref (a 0)), (1, .int (nI (m))), (2, .int (nI (brMC f k + cnt (brP (brM f k)) (j)))), (3, .int (nI (k))), (4, .int (nI (j)))] [] := by
        intro nj
        induction nj with
        | zero =>
          intro j hj
          obtain rfl : j = 9 := by omega
          refine z_iload G dX3_passBreaths_12 4 rfl ?_
          refine z_bipush (v := nI 9) G dX3_passBreaths_14 rfl ?_
          refine z_icmp_geT G dX3_passBreaths_16 47 (by decide) (nI_le (Nat.le_refl _) (by decide)) ?_
          refine z_iinc G dX3_passBreaths_47 3 rfl (nI (k + 1)) (nI_inc _) (by decide) rfl ?_
          refine z_goto (tgt := 4) G dX3_passBreaths_50 (by decide) ?_
          refine z_loc G [(0, .ref (a 0)), (1, .int (nI m)), (2, .int (nI (brMC f (k + 1)))), (3, .int (nI (k + 1)))] [0, 1, 2, 3] rfl ?_
          exact ihk (k + 1) (by omega)
        | succ nj ihj =>
          intro j hj
          have lj : j < 9 := by omega
          refine z_iload G dX3_passBreaths_12 4 rfl ?_
          refine z_bipush (v := nI 9) G dX3_passBreaths_14 rfl ?_
          refine z_icmp_geF G dX3_passBreaths_16 47 (by decide) (nI_ge lj (by decide)) ?_
          refine z_aload_n G dX3_passBreaths_19 0 rfl ?_
          refine rg_patience G hin (List.mem_of_getElem? (i := 1) rfl) dX3_passBreaths_20 ?_
          refine z_iload G dX3_passBreaths_23 4 rfl ?_
          refine rl_patience G (by omega) dX3_passBreaths_25 ?_
          refine z_if_le G dX3_passBreaths_26 41 (by decide) (fun c26 => ?_) (fun c26 => ?_)
          · have g0 : gs (brM f k) j = false := by rw [← gs_congr (brN_ne (brM f k) (i := 13 + 17 * j) (by omega) j)]; exact pf_f (PF_brN (PF_brM hp k) j) lj c26
            refine z_iinc G dX3_passBreaths_41 4 rfl (nI (j + 1)) (nI_inc _) (by decide) rfl ?_
            refine z_goto (tgt := 12) G dX3_passBreaths_44 (by decide) ?_
            have e1 : brN (brM f k) (j + 1) = brN (brM f k) j := by rw [brN, if_neg (by rw [g0]; decide)]
            have e2 : cnt (brP (brM f k)) (j + 1) = cnt (brP (brM f k)) j := cnt_f (by rw [brP, g0]; rfl)
            rw [← e1, ← e2]
            exact ihj (j + 1) (by omega)
          · have g1 : gs (brM f k) j = true := by rw [← gs_congr (brN_ne (brM f k) (i := 13 + 17 * j) (by omega) j)]; exact pf_t (PF_brN (PF_brM hp k) j) lj c26
            refine z_aload_n G dX3_passBreaths_29 0 rfl ?_
            refine z_iload G dX3_passBreaths_30 4 rfl ?_
            refine z_dVi (As := [_]) G _ _ (fun l => c_X3_sighsWithNextBreath l D y a _ rk0 lj) k_X3_sighsWithNextBreath gX3_passBreaths_X3_sighsWithNextBreath 0 3 rfl rfl rfl dX3_passBreaths_32 ⟨by decide, by decide⟩ ⟨rfl, rfl⟩ ⟨Nat.zero_le _, Nat.zero_le _⟩ rfl (Nat.le_of_ble_eq_true rfl) rfl ?_
            refine z_if_eq G dX3_passBreaths_35 41 (by decide) (fun c35 => ?_) (fun c35 => ?_)
            · refine z_iinc G dX3_passBreaths_41 4 rfl (nI (j + 1)) (nI_inc _) (by decide) rfl ?_
              refine z_goto (tgt := 12) G dX3_passBreaths_44 (by decide) ?_
              have e1 : brN (brM f k) (j + 1) = sgF (brN (brM f k) j) j := by rw [brN, if_pos g1]
              have e2 : cnt (brP (brM f k)) (j + 1) = cnt (brP (brM f k)) j := cnt_f (by rw [brP, bI_0 c35]; simp)
              rw [← e1, ← e2]
              exact ihj (j + 1) (by omega)
            · refine z_iinc G dX3_passBreaths_38 2 rfl (nI (brMC f k + cnt (brP (brM f k)) (j + 1))) (by rw [cnt_t (by rw [brP, g1, bI_n c35]; rfl), ← Nat.add_assoc]; exact nI_1 _) (by decide) rfl ?_
              refine z_iinc G dX3_passBreaths_41 4 rfl (nI (j + 1)) (nI_inc _) (by decide) rfl ?_
              refine z_goto (tgt := 12) G dX3_passBreaths_44 (by decide) ?_
              have e1 : brN (brM f k) (j + 1) = sgF (brN (brM f k) j) j := by rw [brN, if_pos g1]
              rw [← e1]
              exact ihj (j + 1) (by omega)
      exact lj0 9 0 rfl
  exact lk m 0 rfl

theorem k_X3_drink : zCal yX3_drink wsX3_drink cX3_drink 2 none 1 := ⟨⟨_, rfl⟩, by decide +kernel⟩
theorem in_X3_drink_X3 : ∀ w ∈ wsX30, w ∈ wsX3_drink := fun _ h => List.mem_cons_of_mem _ (List.mem_append_right _ h)
set_option maxHeartbeats 4000000 in
set_option maxRecDepth 100000 in
theorem c_X3_drink (l : Launch) (D : va_G) (y : Nat → ClassId) (a : Nat → Nat) (f rk0 : Nat → Int32) (hp : PF f) {g c : Nat} (hg : g < 9) (hc : f 0 = nI c) (hcm : c < 2 ^ 31) : zDv l D y yX3_drink wsX3_drink ({ frames := 2, cells := 0, slots := 0, locals := 45 }) [.ref (a 0), .int (nI (g))] (rmW y a f rk0) (rmW y a (drF f g c) rk0) := by
  refine zMv.mk (cc := cX3_drink) (maxL := 2) (lv := [(0, .ref (a 0)), (1, .int (nI (g)))]) (by decide) rfl (Nat.le_of_ble_eq_true rfl) rfl (fun X G hE => ?_)
  have hin := in_X3_drink_X3
  refine z_aload_n G dX3_drink_0 0 rfl ?_
  refine rg_cups G hin (List.mem_of_getElem? (i := 1) rfl) dX3_drink_1 ?_
  refine z_iload_n G dX3_drink_4 1 rfl ?_
  refine z_dup2 G dX3_drink_5 rfl rfl ?_
  refine rl_cups G (by omega) dX3_drink_6 ?_
  refine z_iconst (v := nI 1) G dX3_drink_7 rfl ?_
  refine z_iadd G dX3_drink_8 ?_
  refine rs_cups G (by omega) dX3_drink_9 ?_
  refine z_aload_n G dX3_drink_10 0 rfl ?_
  refine z_dup G dX3_drink_11 rfl ?_
  refine rg_cupsSoFar G hin (List.mem_of_getElem? (i := 2) rfl) dX3_drink_12 ?_
  refine z_iconst (v := nI 1) G dX3_drink_15 rfl ?_
  refine z_iadd G dX3_drink_16 ?_
  refine rp_cupsSoFar G hin (List.mem_of_getElem? (i := 2) rfl) dX3_drink_17 ?_
  refine z_aload_n G dX3_drink_20 0 rfl ?_
  refine z_aload_n G dX3_drink_21 0 rfl ?_
  refine rg_settings G hin (List.mem_of_getElem? (i := 3) rfl) dX3_drink_22 ?_
  refine z_iconst (v := nI 0) G dX3_drink_25 rfl ?_
  refine rl_settings G (by omega) dX3_drink_26 ?_
  refine z_top (w := .int (nI (c))) (congrArg Value.int ((dr2_ne (by omega) (by omega)).trans hc)) ?_
  refine z_dVi (As := [_]) G _ _ (fun l => c_X3_passBreaths l D y a _ rk0 (PF_dr2 hp g) hcm) k_X3_passBreaths gX3_drink_X3_passBreaths 0 3 rfl rfl rfl dX3_drink_27 ⟨by decide, by decide⟩ ⟨rfl, rfl⟩ ⟨Nat.zero_le _, Nat.zero_le _⟩ rfl (Nat.le_of_ble_eq_true rfl) rfl ?_
  refine z_pop G dX3_drink_30 rfl ?_
  exact hE _ _ _ dX3_drink_31 rfl

theorem k_X3_offerCup : zCal yX3_offerCup wsX3_offerCup cX3_offerCup 4 (some .int) 2 := ⟨⟨_, rfl⟩, by decide +kernel⟩
theorem in_X3_offerCup_X3 : ∀ w ∈ wsX30, w ∈ wsX3_offerCup := fun _ h => List.mem_cons_of_mem _ (List.mem_append_left _ (List.mem_append_right _ h))
set_option maxHeartbeats 4000000 in
set_option maxRecDepth 100000 in
theorem c_X3_offerCup (l : Launch) (D : va_G) (y : Nat → ClassId) (a : Nat → Nat) (f rk0 : Nat → Int32) (hp : PF f) (x z : Int32) {c : Nat} (hc : f 0 = nI c) (hcm : c < 2 ^ 31) : zDi l D y yX3_offerCup wsX3_offerCup ({ frames := 3, cells := 0, slots := 0, locals := 66 }) [.ref (a 0), .int (x), .int (z)] (rmW y a f rk0) ((ofR f x z c).1) (rmW y a (ofR f x z c).2 rk0) := by
  refine zMi.mk (cc := cX3_offerCup) (maxL := 4) (lv := [(0, .ref (a 0)), (1, .int (x)), (2, .int (z))]) (by decide) rfl (Nat.le_of_ble_eq_true rfl) rfl (fun X G hE => ?_)
  have hin := in_X3_offerCup_X3
  refine z_aload_n G dX3_offerCup_0 0 rfl ?_
  refine z_iload_n G dX3_offerCup_1 1 rfl ?_
  refine z_iload_n G dX3_offerCup_2 2 rfl ?_
  refine z_dVi (As := [_, _]) G _ _ (fun l => c_X3_errorOfPair l D y a f rk0 hp x z) k_X3_errorOfPair gX3_offerCup_X3_errorOfPair 0 3 rfl rfl rfl dX3_offerCup_3 ⟨by decide, by decide⟩ ⟨rfl, rfl⟩ ⟨Nat.zero_le _, Nat.zero_le _⟩ rfl (Nat.le_of_ble_eq_true rfl) rfl ?_
  refine z_istore_nA G dX3_offerCup_6 rfl (by decide) rfl ?_
  refine z_iload_n G dX3_offerCup_7 3 rfl ?_
  refine z_if_ge G dX3_offerCup_8 13 (by decide) (fun c8 => ?_) (fun c8 => ?_)
  · obtain ⟨g, o, hg, ho, hgo, rfl, rfl, sg, so⟩ := pairE_ok c8
    refine z_aload_n G dX3_offerCup_13 0 rfl ?_
    refine z_iload_n G dX3_offerCup_14 2 rfl ?_
    refine z_dVi (As := [_]) G _ _ (fun l => c_X3_reasonToPassBy l D y a f rk0 ho) k_X3_reasonToPassBy gX3_offerCup_X3_reasonToPassBy 0 3 rfl rfl rfl dX3_offerCup_15 ⟨by decide, by decide⟩ ⟨rfl, rfl⟩ ⟨Nat.zero_le _, Nat.zero_le _⟩ rfl (Nat.le_of_ble_eq_true rfl) rfl ?_
    refine z_if_ne G dX3_offerCup_18 38 (by decide) (fun c18 => ?_) (fun c18 => ?_)
    · refine z_bipush (v := (-5)) G dX3_offerCup_38 rfl ?_
      exact hE _ _ _ _ dX3_offerCup_40 rfl (by first | (rw [ofR, if_neg (Int32.not_lt.mpr c8), nI_clamp (show g < 2 ^ 31 by omega), nI_clamp (show o < 2 ^ 31 by omega), if_pos (Or.inl c18)]; exact ⟨rfl, rfl⟩) | (rw [ofR, if_neg (Int32.not_lt.mpr c8), nI_clamp (show g < 2 ^ 31 by omega), nI_clamp (show o < 2 ^ 31 by omega), if_pos (Or.inr (Int32.not_le.mp c35))]; exact ⟨rfl, rfl⟩))
    · refine z_aload_n G dX3_offerCup_21 0 rfl ?_
      refine rg_breathsSoFar G hin (List.mem_of_getElem? (i := 1) rfl) dX3_offerCup_22 ?_
      refine z_aload_n G dX3_offerCup_25 0 rfl ?_
      refine rg_settings G hin (List.mem_of_getElem? (i := 2) rfl) dX3_offerCup_26 ?_
      refine z_iconst (v := nI 0) G dX3_offerCup_29 rfl ?_
      refine rl_settings G (by omega) dX3_offerCup_30 ?_
      refine z_iadd G dX3_offerCup_31 ?_
      refine z_sipush (v := nI 9999) G dX3_offerCup_32 rfl ?_
      refine z_icmp_le G dX3_offerCup_35 41 (by decide) (fun c35 => ?_) (fun c35 => ?_)
      · refine z_aload_n G dX3_offerCup_41 0 rfl ?_
        refine z_iload_n G dX3_offerCup_42 2 rfl ?_
        refine z_dVv (As := [_]) G _ (fun l => c_X3_drink l D y a f rk0 hp ho hc hcm) k_X3_drink gX3_offerCup_X3_drink 0 3 rfl rfl rfl dX3_offerCup_43 ⟨by decide, by decide⟩ ⟨rfl, rfl⟩ ⟨Nat.zero_le _, Nat.zero_le _⟩ rfl (Nat.le_of_ble_eq_true rfl) rfl ?_
        refine z_aload_n G dX3_offerCup_46 0 rfl ?_
        refine rg_bows G hin (List.mem_of_getElem? (i := 3) rfl) dX3_offerCup_47 ?_
        refine z_iload_n G dX3_offerCup_50 2 rfl ?_
        refine z_iload_n G dX3_offerCup_51 1 rfl ?_
        refine z_iconst (v := nI 2) G dX3_offerCup_52 rfl ?_
        refine z_pVv (As := [_, _, _]) G _ _ (fun l => c_X0_lay l D y a _ ho hg _) k_X0_lay gX3_offerCup_X0_lay 0 0 rfl rfl rfl dX3_offerCup_53 ⟨by decide, by decide⟩ ⟨rfl, rfl⟩ ⟨Nat.zero_le _, Nat.zero_le _⟩ rfl (Nat.le_of_ble_eq_true rfl) rfl (rm_perm _ _ _ _) (bw_perm (rmH_b (layF_h hg))) ?_
        refine z_aload_n G dX3_offerCup_56 0 rfl ?_
        refine rg_bows G hin (List.mem_of_getElem? (i := 3) rfl) dX3_offerCup_57 ?_
        refine z_iload_n G dX3_offerCup_60 1 rfl ?_
        refine z_iload_n G dX3_offerCup_61 2 rfl ?_
        refine z_pVv (As := [_, _]) G _ _ (fun l => c_X0_setOffBoth l D y a _ hg ho hgo) k_X0_setOffBoth gX3_offerCup_X0_setOffBoth 0 0 rfl rfl rfl dX3_offerCup_62 ⟨by decide, by decide⟩ ⟨rfl, rfl⟩ ⟨Nat.zero_le _, Nat.zero_le _⟩ rfl (Nat.le_of_ble_eq_true rfl) rfl (rm_perm _ _ _ _) (bw_perm (rmH_b (offF_h hg ho))) ?_
        refine z_aload_n G dX3_offerCup_65 0 rfl ?_
        refine rg_bows G hin (List.mem_of_getElem? (i := 3) rfl) dX3_offerCup_66 ?_
        refine z_iload_n G dX3_offerCup_69 2 rfl ?_
        refine z_iload_n G dX3_offerCup_70 1 rfl ?_
        refine z_pVi (As := [_, _]) G _ _ _ (fun l => c_X0_between l D y a _ ho hg) k_X0_between gX3_offerCup_X0_between 0 0 rfl rfl rfl dX3_offerCup_71 ⟨by decide, by decide⟩ ⟨rfl, rfl⟩ ⟨Nat.zero_le _, Nat.zero_le _⟩ rfl (Nat.le_of_ble_eq_true rfl) rfl (rm_perm _ _ _ _) (bw_perm rfl) ?_
        exact hE _ _ _ _ dX3_offerCup_74 rfl (by rw [ofR, if_neg (Int32.not_lt.mpr c8), nI_clamp (show g < 2 ^ 31 by omega), nI_clamp (show o < 2 ^ 31 by omega), if_neg (fun q => q.elim (fun z => z c18) (fun z => absurd c35 (Int32.not_le.mpr z)))]; exact ⟨rfl, rfl⟩)
      · refine z_bipush (v := (-5)) G dX3_offerCup_38 rfl ?_
        exact hE _ _ _ _ dX3_offerCup_40 rfl (by first | (rw [ofR, if_neg (Int32.not_lt.mpr c8), nI_clamp (show g < 2 ^ 31 by omega), nI_clamp (show o < 2 ^ 31 by omega), if_pos (Or.inl c18)]; exact ⟨rfl, rfl⟩) | (rw [ofR, if_neg (Int32.not_lt.mpr c8), nI_clamp (show g < 2 ^ 31 by omega), nI_clamp (show o < 2 ^ 31 by omega), if_pos (Or.inr (Int32.not_le.mp c35))]; exact ⟨rfl, rfl⟩))
  · refine z_iload_n G dX3_offerCup_11 3 rfl ?_
    exact hE _ _ _ _ dX3_offerCup_12 rfl (by rw [ofR, if_pos (Int32.not_le.mp c8)]; exact ⟨rfl, rfl⟩)

theorem k_X3_breatheOn : zCal yX3_breatheOn wsX3_breatheOn cX3_breatheOn 2 (some .int) 1 := ⟨⟨_, rfl⟩, by decide +kernel⟩
theorem in_X3_breatheOn_X3 : ∀ w ∈ wsX30, w ∈ wsX3_breatheOn := fun _ h => List.mem_cons_of_mem _ (List.mem_append_right _ h)
set_option maxHeartbeats 4000000 in
set_option maxRecDepth 100000 in
theorem c_X3_breatheOn (l : Launch) (D : va_G) (y : Nat → ClassId) (a : Nat → Nat) (f rk0 : Nat → Int32) (hp : PF f) (x : Int32) : zDi l D y yX3_breatheOn wsX3_breatheOn ({ frames := 2, cells := 0, slots := 0, locals := 45 }) [.ref (a 0), .int (x)] (rmW y a f rk0) ((beR f x).1) (rmW y a (beR f x).2 rk0) := by
  refine zMi.mk (cc := cX3_breatheOn) (maxL := 2) (lv := [(0, .ref (a 0)), (1, .int (x))]) (by decide) rfl (Nat.le_of_ble_eq_true rfl) rfl (fun X G hE => ?_)
  have hin := in_X3_breatheOn_X3
  refine z_iload_n G dX3_breatheOn_0 1 rfl ?_
  refine z_iconst (v := nI 1) G dX3_breatheOn_1 rfl ?_
  refine z_icmp_lt G dX3_breatheOn_2 11 (by decide) (fun c2 => ?_) (fun c2 => ?_)
  · refine z_bipush (v := (-2)) G dX3_breatheOn_11 rfl ?_
    exact hE _ _ _ _ dX3_breatheOn_13 rfl (by first | (rw [beR, if_pos (Or.inl c2)]; exact ⟨rfl, rfl⟩) | (rw [beR, if_pos (Or.inr (Int32.not_le.mp c8))]; exact ⟨rfl, rfl⟩))
  · refine z_iload_n G dX3_breatheOn_5 1 rfl ?_
    refine z_bipush (v := nI 99) G dX3_breatheOn_6 rfl ?_
    refine z_icmp_le G dX3_breatheOn_8 14 (by decide) (fun c8 => ?_) (fun c8 => ?_)
    · obtain ⟨m, hm, rfl⟩ := nI_of (fun q => c2 (Int32.lt_trans q (by decide)))
      refine z_aload_n G dX3_breatheOn_14 0 rfl ?_
      refine rg_breathsSoFar G hin (List.mem_of_getElem? (i := 1) rfl) dX3_breatheOn_15 ?_
      refine z_iload_n G dX3_breatheOn_18 1 rfl ?_
      refine z_iadd G dX3_breatheOn_19 ?_
      refine z_sipush (v := nI 9999) G dX3_breatheOn_20 rfl ?_
      refine z_icmp_le G dX3_breatheOn_23 31 (by decide) (fun c23 => ?_) (fun c23 => ?_)
      · refine z_aload_n G dX3_breatheOn_31 0 rfl ?_
        refine z_iload_n G dX3_breatheOn_32 1 rfl ?_
        refine z_dVi (As := [_]) G _ _ (fun l => c_X3_passBreaths l D y a f rk0 hp hm) k_X3_passBreaths gX3_breatheOn_X3_passBreaths 0 3 rfl rfl rfl dX3_breatheOn_33 ⟨by decide, by decide⟩ ⟨rfl, rfl⟩ ⟨Nat.zero_le _, Nat.zero_le _⟩ rfl (Nat.le_of_ble_eq_true rfl) rfl ?_
        exact hE _ _ _ _ dX3_breatheOn_36 rfl (by first | (rw [beR, if_neg (fun q => q.elim c2 (fun z => absurd c8 (Int32.not_le.mpr z))), if_pos (Int32.not_le.mp c23)]; exact ⟨rfl, rfl⟩) | (rw [beR, if_neg (fun q => q.elim c2 (fun z => absurd c8 (Int32.not_le.mpr z))), if_neg (Int32.not_lt.mpr c23), nI_clamp hm]; exact ⟨rfl, rfl⟩))
      · refine z_bipush (v := (-5)) G dX3_breatheOn_26 rfl ?_
        refine z_goto (tgt := 36) G dX3_breatheOn_28 (by decide) ?_
        exact hE _ _ _ _ dX3_breatheOn_36 rfl (by first | (rw [beR, if_neg (fun q => q.elim c2 (fun z => absurd c8 (Int32.not_le.mpr z))), if_pos (Int32.not_le.mp c23)]; exact ⟨rfl, rfl⟩) | (rw [beR, if_neg (fun q => q.elim c2 (fun z => absurd c8 (Int32.not_le.mpr z))), if_neg (Int32.not_lt.mpr c23), nI_clamp hm]; exact ⟨rfl, rfl⟩))
    · refine z_bipush (v := (-2)) G dX3_breatheOn_11 rfl ?_
      exact hE _ _ _ _ dX3_breatheOn_13 rfl (by first | (rw [beR, if_pos (Or.inl c2)]; exact ⟨rfl, rfl⟩) | (rw [beR, if_pos (Or.inr (Int32.not_le.mp c8))]; exact ⟨rfl, rfl⟩))

theorem k_X3_seatByRank : zCal yX3_seatByRank wsX3_seatByRank cX3_seatByRank 3 (some .int) 0 := ⟨⟨_, rfl⟩, by decide +kernel⟩
theorem in_X3_seatByRank_X3 : ∀ w ∈ wsX30, w ∈ wsX3_seatByRank := fun _ h => List.mem_cons_of_mem _ (List.mem_append_left _ (List.mem_append_right _ h))
set_option maxHeartbeats 4000000 in
set_option maxRecDepth 100000 in
theorem c_X3_seatByRank (l : Launch) (D : va_G) (y : Nat → ClassId) (a : Nat → Nat) (f rk0 : Nat → Int32) (hp : PF f) : zDi l D y yX3_seatByRank wsX3_seatByRank ({ frames := 3, cells := 0, slots := 0, locals := 71 }) [.ref (a 0)] (rmW y a f rk0) (nI (cnt (stCP f) 9)) (rmW y a (stF f 9) (rkA f)) := by
  refine zMi.mk (cc := cX3_seatByRank) (maxL := 3) (lv := [(0, .ref (a 0))]) (by decide) rfl (Nat.le_of_ble_eq_true rfl) rfl (fun X G hE => ?_)
  have hin := in_X3_seatByRank_X3
  refine z_iconst (v := nI 0) G dX3_seatByRank_0 rfl ?_
  refine z_istore_nA G dX3_seatByRank_1 rfl (by decide) rfl ?_
  have lo : ∀ nj j : Nat, nj + j = 9 → zV D X (rmW y a f (rkU rk0 f (j))) 0 0 2 [(0, .ref (a 0)), (1, .int (nI (j)))] [] := by
    intro nj
    induction nj with
    | zero =>
      intro j hj
      obtain rfl : j = 9 := by omega
      refine z_iload_n G dX3_seatByRank_2 1 rfl ?_
      refine z_bipush (v := nI 9) G dX3_seatByRank_3 rfl ?_
      refine z_icmp_geT G dX3_seatByRank_5 25 (by decide) (nI_le (Nat.le_refl _) (by decide)) ?_
      refine z_iconst (v := nI 0) G dX3_seatByRank_25 rfl ?_
      refine z_istore_n G dX3_seatByRank_26 rfl (by decide) 1 rfl ?_
      refine z_iconst (v := nI 0) G dX3_seatByRank_27 rfl ?_
      refine z_istore_nA G dX3_seatByRank_28 rfl (by decide) rfl ?_
      have lo2 : ∀ nj j : Nat, nj + j = 9 → zV D X (rmW y a (stF f (j)) (rkU rk0 f 9)) 0 0 29 [(0, .ref (a 0)), (1, .int (nI (cnt (stCP f) (j)))), (2, .int (nI (j)))] [] := by
        intro nj
        induction nj with
        | zero =>
          intro j hj
          obtain rfl : j = 9 := by omega
          refine z_iload_n G dX3_seatByRank_29 2 rfl ?_
          refine z_bipush (v := nI 9) G dX3_seatByRank_30 rfl ?_
          refine z_icmp_geT G dX3_seatByRank_32 80 (by decide) (nI_le (Nat.le_refl _) (by decide)) ?_
          refine z_iload_n G dX3_seatByRank_80 1 rfl ?_
          exact hE _ _ _ _ dX3_seatByRank_81 rfl ⟨rfl, rmW_eq (fun _ _ _ => rfl) (fun i hi => rkU_at rk0 f 9 i hi)⟩
        | succ nj ihj =>
          intro j hj
          have lj : j < 9 := by omega
          refine z_iload_n G dX3_seatByRank_29 2 rfl ?_
          refine z_bipush (v := nI 9) G dX3_seatByRank_30 rfl ?_
          refine z_icmp_geF G dX3_seatByRank_32 80 (by decide) (nI_ge lj (by decide)) ?_
          refine z_aload_n G dX3_seatByRank_35 0 rfl ?_
          refine rg_patience G hin (List.mem_of_getElem? (i := 2) rfl) dX3_seatByRank_36 ?_
          refine z_iload_n G dX3_seatByRank_39 2 rfl ?_
          refine rl_patience G (by omega) dX3_seatByRank_40 ?_
          refine z_if_le G dX3_seatByRank_41 74 (by decide) (fun c41 => ?_) (fun c41 => ?_)
          · have g0 : gs f j = false := pf_f hp lj (by rw [← stF_ne f (i := 15 + 17 * j) j (fun g hg => by omega)]; exact c41)
            refine z_iinc G dX3_seatByRank_74 2 rfl (nI (j + 1)) (nI_inc _) (by decide) rfl ?_
            refine z_goto (tgt := 29) G dX3_seatByRank_77 (by decide) ?_
            have e1 : stF f (j + 1) = stF f j := by rw [stF, if_neg (by rw [g0]; decide)]
            have e2 : cnt (stCP f) (j + 1) = cnt (stCP f) j := cnt_f (by rw [stCP, g0]; rfl)
            rw [← e1, ← e2]
            exact ihj (j + 1) (by omega)
          · have g1 : gs f j = true := pf_t hp lj (by rw [← stF_ne f (i := 15 + 17 * j) j (fun g hg => by omega)]; exact c41)
            have e0 : stF f j (14 + 17 * j) = f (14 + 17 * j) := stF_ne f j (fun g hg => by omega)
            refine z_aload_n G dX3_seatByRank_44 0 rfl ?_
            refine rg_seats G hin (List.mem_of_getElem? (i := 3) rfl) dX3_seatByRank_45 ?_
            refine z_iload_n G dX3_seatByRank_48 2 rfl ?_
            refine rl_seats G (by omega) dX3_seatByRank_49 ?_
            refine z_aload_n G dX3_seatByRank_50 0 rfl ?_
            refine rg_ranks G hin (List.mem_of_getElem? (i := 1) rfl) dX3_seatByRank_51 ?_
            refine z_iload_n G dX3_seatByRank_54 2 rfl ?_
            refine rl_ranks G (by omega) dX3_seatByRank_55 ?_
            refine z_icmp_eq G dX3_seatByRank_56 74 (by decide) (fun c56 => ?_) (fun c56 => ?_)
            · refine z_iinc G dX3_seatByRank_74 2 rfl (nI (j + 1)) (nI_inc _) (by decide) rfl ?_
              refine z_goto (tgt := 29) G dX3_seatByRank_77 (by decide) ?_
              have e1 : stF f (j + 1) = stF f j := by rw [stF, if_pos g1, ← rkU_at rk0 f 9 j lj, ← c56]; exact upd_self _ _
              have e2 : cnt (stCP f) (j + 1) = cnt (stCP f) j := cnt_f (by have e3 : f (14 + 17 * j) = nI (rk f j) := (by rw [← e0, c56, rkU_at rk0 f 9 j lj]); simp [stCP, e3])
              rw [← e1, ← e2]
              exact ihj (j + 1) (by omega)
            · refine z_aload_n G dX3_seatByRank_59 0 rfl ?_
              refine rg_seats G hin (List.mem_of_getElem? (i := 3) rfl) dX3_seatByRank_60 ?_
              refine z_iload_n G dX3_seatByRank_63 2 rfl ?_
              refine z_aload_n G dX3_seatByRank_64 0 rfl ?_
              refine rg_ranks G hin (List.mem_of_getElem? (i := 1) rfl) dX3_seatByRank_65 ?_
              refine z_iload_n G dX3_seatByRank_68 2 rfl ?_
              refine rl_ranks G (by omega) dX3_seatByRank_69 ?_
              refine rs_seats G (by omega) dX3_seatByRank_70 ?_
              refine z_iinc G dX3_seatByRank_71 1 rfl (nI (cnt (stCP f) (j + 1))) (cnt_tI (by have e3 : ¬ f (14 + 17 * j) = nI (rk f j) := (fun q => c56 (by rw [e0, q, rkU_at rk0 f 9 j lj])); simp [stCP, g1, e3])) (by decide) rfl ?_
              refine z_iinc G dX3_seatByRank_74 2 rfl (nI (j + 1)) (nI_inc _) (by decide) rfl ?_
              refine z_goto (tgt := 29) G dX3_seatByRank_77 (by decide) ?_
              have e1 : stF f (j + 1) = upd (stF f j) (14 + 17 * j) (rkU rk0 f 9 j) := by rw [stF, if_pos g1, rkU_at rk0 f 9 j lj]
              rw [← e1]
              exact ihj (j + 1) (by omega)
      exact lo2 9 0 rfl
    | succ nj ihj =>
      intro j hj
      have lj : j < 9 := by omega
      refine z_iload_n G dX3_seatByRank_2 1 rfl ?_
      refine z_bipush (v := nI 9) G dX3_seatByRank_3 rfl ?_
      refine z_icmp_geF G dX3_seatByRank_5 25 (by decide) (nI_ge lj (by decide)) ?_
      refine z_aload_n G dX3_seatByRank_8 0 rfl ?_
      refine rg_ranks G hin (List.mem_of_getElem? (i := 1) rfl) dX3_seatByRank_9 ?_
      refine z_iload_n G dX3_seatByRank_12 1 rfl ?_
      refine z_aload_n G dX3_seatByRank_13 0 rfl ?_
      refine z_iload_n G dX3_seatByRank_14 1 rfl ?_
      refine z_dVi (As := [_]) G _ _ (fun l => c_X3_rankOf l D y a f _ hp lj) k_X3_rankOf gX3_seatByRank_X3_rankOf 0 3 rfl rfl rfl dX3_seatByRank_15 ⟨by decide, by decide⟩ ⟨rfl, rfl⟩ ⟨Nat.zero_le _, Nat.zero_le _⟩ rfl (Nat.le_of_ble_eq_true rfl) rfl ?_
      refine rs_ranks G (by omega) dX3_seatByRank_18 ?_
      refine z_iinc G dX3_seatByRank_19 1 rfl (nI (j + 1)) (nI_inc _) (by decide) rfl ?_
      refine z_goto (tgt := 2) G dX3_seatByRank_22 (by decide) ?_
      exact ihj (j + 1) (by omega)
  exact lo 9 0 rfl

theorem k_X3_handCupOn : zCal yX3_handCupOn wsX3_handCupOn cX3_handCupOn 6 (some .int) 0 := ⟨⟨_, rfl⟩, by decide +kernel⟩
theorem in_X3_handCupOn_X3 : ∀ w ∈ wsX30, w ∈ wsX3_handCupOn := fun _ h => List.mem_cons_of_mem _ (List.mem_append_left _ (List.mem_append_right _ h))
set_option maxHeartbeats 4000000 in
set_option maxRecDepth 100000 in
theorem c_X3_handCupOn (l : Launch) (D : va_G) (y : Nat → ClassId) (a : Nat → Nat) (f rk0 : Nat → Int32) (hp : PF f) (hu : SU f) (hj : SJ f) {c : Nat} (hc : f 0 = nI c) (hcm : c < 2 ^ 31) : zDi l D y yX3_handCupOn wsX3_handCupOn ({ frames := 3, cells := 0, slots := 0, locals := 66 }) [.ref (a 0)] (rmW y a f rk0) (nI (cpH f c (ng f)).2.2) (rmW y a (cpH f c (ng f)).1 rk0) := by
  refine zMi.mk (cc := cX3_handCupOn) (maxL := 6) (lv := [(0, .ref (a 0))]) (by decide) rfl (Nat.le_of_ble_eq_true rfl) rfl (fun X G hE => ?_)
  have hin := in_X3_handCupOn_X3
  refine z_iconst (v := nI 0) G dX3_handCupOn_0 rfl ?_
  refine z_istore_nA G dX3_handCupOn_1 rfl (by decide) rfl ?_
  refine z_iconst (v := (-1)) G dX3_handCupOn_2 rfl ?_
  refine z_istore_nA G dX3_handCupOn_3 rfl (by decide) rfl ?_
  refine z_aload_n G dX3_handCupOn_4 0 rfl ?_
  refine z_dVi (As := []) G _ _ (fun l => c_X3_guests l D y a f rk0 hp) k_X3_guests gX3_handCupOn_X3_guests 0 3 rfl rfl rfl dX3_handCupOn_5 ⟨by decide, by decide⟩ ⟨rfl, rfl⟩ ⟨Nat.zero_le _, Nat.zero_le _⟩ rfl (Nat.le_of_ble_eq_true rfl) rfl ?_
  refine z_istore_nA G dX3_handCupOn_8 rfl (by decide) rfl ?_
  refine z_iconst (v := nI 0) G dX3_handCupOn_9 rfl ?_
  refine z_istoreA G dX3_handCupOn_10 (by decide) rfl ?_
  have lo : ∀ ns s : Nat, ns + s = ng f → zV D X (rmW y a (cpH f c (s)).1 rk0) 0 0 12 [(0, .ref (a 0)), (1, .int (nI ((cpH f c (s)).2.2))), (2, .int (laI (cpH f c (s)).2.1)), (3, .int (nI (ng f))), (4, .int (nI (s)))] [] := by
    intro ns
    induction ns with
    | zero =>
      intro s hs
      obtain rfl : s = ng f := by omega
      refine z_iload G dX3_handCupOn_12 4 rfl ?_
      refine z_iload_n G dX3_handCupOn_14 3 rfl ?_
      refine z_icmp_geT G dX3_handCupOn_15 81 (by decide) (nI_le (Nat.le_refl _) (by have := ng_le f; omega)) ?_
      refine z_iload_n G dX3_handCupOn_81 1 rfl ?_
      exact hE _ _ _ _ dX3_handCupOn_82 rfl ⟨rfl, rfl⟩
    | succ ns ihs =>
      intro s hs
      have ls : s < ng f := by omega
      have ls2 : s < ng f := by omega
      have hng := ng_le f
      obtain ⟨k1, k2, k3⟩ := cpH_keep hu hj (c := c) s (by omega)
      obtain ⟨o1, o2, o3⟩ := od_is hu hj ls2
      refine z_iload G dX3_handCupOn_12 4 rfl ?_
      refine z_iload_n G dX3_handCupOn_14 3 rfl ?_
      refine z_icmp_geF G dX3_handCupOn_15 81 (by decide) (nI_ge ls2 (by omega)) ?_
      refine z_aload_n G dX3_handCupOn_18 0 rfl ?_
      refine z_iload G dX3_handCupOn_19 4 rfl ?_
      refine z_dVi (As := [_]) G _ _ (fun l => c_X3_guestIn l D y a _ rk0 (PF_stc hp k1) (SU_stc hu k1) _) k_X3_guestIn gX3_handCupOn_X3_guestIn 0 3 rfl rfl rfl dX3_handCupOn_21 ⟨by decide, by decide⟩ ⟨rfl, rfl⟩ ⟨Nat.zero_le _, Nat.zero_le _⟩ rfl (Nat.le_of_ble_eq_true rfl) rfl ?_
      refine z_top (w := .int (nI (od f s))) (congrArg Value.int (by rw [stP_stc k1]; exact o3)) ?_
      refine z_istoreA G dX3_handCupOn_24 (by decide) rfl ?_
      refine z_aload_n G dX3_handCupOn_26 0 rfl ?_
      refine z_iload G dX3_handCupOn_27 5 rfl ?_
      refine z_dVi (As := [_]) G _ _ (fun l => c_X3_isHere_t l D y a _ rk0 (PF_stc hp k1) o1 (by rw [gs_congr (k1 _ (by unfold stc; omega))]; exact o2)) k_X3_isHere gX3_handCupOn_X3_isHere 0 3 rfl rfl rfl dX3_handCupOn_29 ⟨by decide, by decide⟩ ⟨rfl, rfl⟩ ⟨Nat.zero_le _, Nat.zero_le _⟩ rfl (Nat.le_of_ble_eq_true rfl) rfl ?_
      refine z_if_eqF G dX3_handCupOn_32 75 (by decide) (by decide) ?_
      refine z_aload_n G dX3_handCupOn_35 0 rfl ?_
      refine z_iload G dX3_handCupOn_36 5 rfl ?_
      refine z_dVi (As := [_]) G _ _ (fun l => c_X3_reasonToPassBy l D y a _ rk0 o1) k_X3_reasonToPassBy gX3_handCupOn_X3_reasonToPassBy 0 3 rfl rfl rfl dX3_handCupOn_38 ⟨by decide, by decide⟩ ⟨rfl, rfl⟩ ⟨Nat.zero_le _, Nat.zero_le _⟩ rfl (Nat.le_of_ble_eq_true rfl) rfl ?_
      refine z_if_ne G dX3_handCupOn_41 75 (by decide) (fun c41 => ?_) (fun c41 => ?_)
      · refine z_iinc G dX3_handCupOn_75 4 rfl (nI (s + 1)) (nI_inc _) (by decide) rfl ?_
        refine z_goto (tgt := 12) G dX3_handCupOn_78 (by decide) ?_
        have e : cpH f c (s + 1) = cpH f c s := by rw [cpH, if_neg c41]
        refine z_loc G [(0, .ref (a 0)), (1, .int (nI (cpH f c (s + 1)).2.2)), (2, .int (laI (cpH f c (s + 1)).2.1)), (3, .int (nI (ng f))), (4, .int (nI (s + 1)))] [0, 1, 2, 3, 4] (by rw [e]; rfl) ?_
        refine z_world (ws' := rmW y a (cpH f c (s + 1)).1 rk0) (by rw [e]) ?_
        exact ihs (s + 1) (by omega)
      · refine z_aload_n G dX3_handCupOn_44 0 rfl ?_
        refine z_iload G dX3_handCupOn_45 5 rfl ?_
        refine z_dVv (As := [_]) G _ (fun l => c_X3_drink l D y a _ rk0 (PF_stc hp k1) o1 ((k1 0 (by unfold stc; omega)).trans hc) hcm) k_X3_drink gX3_handCupOn_X3_drink 0 3 rfl rfl rfl dX3_handCupOn_47 ⟨by decide, by decide⟩ ⟨rfl, rfl⟩ ⟨Nat.zero_le _, Nat.zero_le _⟩ rfl (Nat.le_of_ble_eq_true rfl) rfl ?_
        rcases hla : (cpH f c s).2.1 with _ | o2
        · refine z_aload_n G dX3_handCupOn_50 0 rfl ?_
          refine z_iload_n G dX3_handCupOn_51 2 rfl ?_
          refine z_dVi (As := [_]) G _ _ (fun l => c_X3_isHere_f l D y a _ rk0 (PF_stc (PF_stc hp k1) (fun i hi => drF_ne hi)) _ (hx_lo (by decide))) k_X3_isHere gX3_handCupOn_X3_isHere 0 3 rfl rfl rfl dX3_handCupOn_52 ⟨by decide, by decide⟩ ⟨rfl, rfl⟩ ⟨Nat.zero_le _, Nat.zero_le _⟩ rfl (Nat.le_of_ble_eq_true rfl) rfl ?_
          refine z_if_eqT G dX3_handCupOn_55 69 (by decide) rfl ?_
          refine z_iload G dX3_handCupOn_69 5 rfl ?_
          refine z_istore_n G dX3_handCupOn_71 rfl (by decide) 2 rfl ?_
          refine z_iinc G dX3_handCupOn_72 1 rfl (nI ((cpH f c (s)).2.2 + 1)) (nI_inc _) (by decide) rfl ?_
          refine z_iinc G dX3_handCupOn_75 4 rfl (nI (s + 1)) (nI_inc _) (by decide) rfl ?_
          refine z_goto (tgt := 12) G dX3_handCupOn_78 (by decide) ?_
          have e : cpH f c (s + 1) = (layO (drF (cpH f c s).1 (od f s) c) (od f s) (cpH f c s).2.1, some (od f s), (cpH f c s).2.2 + 1) := by rw [cpH, if_pos c41]
          refine z_loc G [(0, .ref (a 0)), (1, .int (nI (cpH f c (s + 1)).2.2)), (2, .int (laI (cpH f c (s + 1)).2.1)), (3, .int (nI (ng f))), (4, .int (nI (s + 1)))] [0, 1, 2, 3, 4] (by rw [e]; rfl) ?_
          refine z_world (ws' := rmW y a (cpH f c (s + 1)).1 rk0) (by rw [e, hla]; rfl) ?_
          exact ihs (s + 1) (by omega)
        · obtain ⟨ho2, so2, -⟩ := k2 o2 hla
          refine z_aload_n G dX3_handCupOn_50 0 rfl ?_
          refine z_iload_n G dX3_handCupOn_51 2 rfl ?_
          refine z_dVi (As := [_]) G _ _ (fun l => c_X3_isHere_t l D y a _ rk0 (PF_stc (PF_stc hp k1) (fun i hi => drF_ne hi)) ho2 (by rw [gs_congr (drF_ne (by unfold stc; omega)), gs_congr (k1 _ (by unfold stc; omega))]; exact so2)) k_X3_isHere gX3_handCupOn_X3_isHere 0 3 rfl rfl rfl dX3_handCupOn_52 ⟨by decide, by decide⟩ ⟨rfl, rfl⟩ ⟨Nat.zero_le _, Nat.zero_le _⟩ rfl (Nat.le_of_ble_eq_true rfl) rfl ?_
          refine z_if_eqF G dX3_handCupOn_55 69 (by decide) (by decide) ?_
          refine z_aload_n G dX3_handCupOn_58 0 rfl ?_
          refine rg_bows G hin (List.mem_of_getElem? (i := 1) rfl) dX3_handCupOn_59 ?_
          refine z_iload G dX3_handCupOn_62 5 rfl ?_
          refine z_iload_n G dX3_handCupOn_64 2 rfl ?_
          refine z_iconst (v := nI 1) G dX3_handCupOn_65 rfl ?_
          refine z_pVv (As := [_, _, _]) G _ _ (fun l => c_X0_lay l D y a _ o1 ho2 _) k_X0_lay gX3_handCupOn_X0_lay 0 0 rfl rfl rfl dX3_handCupOn_66 ⟨by decide, by decide⟩ ⟨rfl, rfl⟩ ⟨Nat.zero_le _, Nat.zero_le _⟩ rfl (Nat.le_of_ble_eq_true rfl) rfl (rm_perm _ _ _ _) (bw_perm (rmH_b (layF_h ho2))) ?_
          refine z_iload G dX3_handCupOn_69 5 rfl ?_
          refine z_istore_n G dX3_handCupOn_71 rfl (by decide) 2 rfl ?_
          refine z_iinc G dX3_handCupOn_72 1 rfl (nI ((cpH f c (s)).2.2 + 1)) (nI_inc _) (by decide) rfl ?_
          refine z_iinc G dX3_handCupOn_75 4 rfl (nI (s + 1)) (nI_inc _) (by decide) rfl ?_
          refine z_goto (tgt := 12) G dX3_handCupOn_78 (by decide) ?_
          have e : cpH f c (s + 1) = (layO (drF (cpH f c s).1 (od f s) c) (od f s) (cpH f c s).2.1, some (od f s), (cpH f c s).2.2 + 1) := by rw [cpH, if_pos c41]
          refine z_loc G [(0, .ref (a 0)), (1, .int (nI (cpH f c (s + 1)).2.2)), (2, .int (laI (cpH f c (s + 1)).2.1)), (3, .int (nI (ng f))), (4, .int (nI (s + 1)))] [0, 1, 2, 3, 4] (by rw [e]; rfl) ?_
          refine z_world (ws' := rmW y a (cpH f c (s + 1)).1 rk0) (by rw [e, hla]; rfl) ?_
          exact ihs (s + 1) (by omega)
  exact lo (ng f) 0 rfl

theorem k_X3_holdRound : zCal yX3_holdRound wsX3_holdRound cX3_holdRound 2 (some .int) 0 := ⟨⟨_, rfl⟩, by decide +kernel⟩
theorem in_X3_holdRound_X3 : ∀ w ∈ wsX30, w ∈ wsX3_holdRound := fun _ h => List.mem_cons_of_mem _ (List.mem_append_left _ (List.mem_append_right _ h))
set_option maxHeartbeats 4000000 in
set_option maxRecDepth 100000 in
theorem c_X3_holdRound (l : Launch) (D : va_G) (y : Nat → ClassId) (a : Nat → Nat) (f rk0 : Nat → Int32) (hp : PF f) (hu : SU f) (hj : SJ f) {c : Nat} (hc : f 0 = nI c) (hcm : c < 2 ^ 31) : zDi l D y yX3_holdRound wsX3_holdRound ({ frames := 4, cells := 0, slots := 0, locals := 93 }) [.ref (a 0)] (rmW y a f rk0) ((roR f c).1) (rmW y a (roR f c).2 (if ng f = 0 ∨ nI 9900 < f 4 then rk0 else rkA (cpH f c (ng f)).1)) := by
  refine zMi.mk (cc := cX3_holdRound) (maxL := 2) (lv := [(0, .ref (a 0))]) (by decide) rfl (Nat.le_of_ble_eq_true rfl) rfl (fun X G hE => ?_)
  have hin := in_X3_holdRound_X3
  refine z_aload_n G dX3_holdRound_0 0 rfl ?_
  refine z_dVi (As := []) G _ _ (fun l => c_X3_guests l D y a f rk0 hp) k_X3_guests gX3_holdRound_X3_guests 0 3 rfl rfl rfl dX3_holdRound_1 ⟨by decide, by decide⟩ ⟨rfl, rfl⟩ ⟨Nat.zero_le _, Nat.zero_le _⟩ rfl (Nat.le_of_ble_eq_true rfl) rfl ?_
  refine z_if_eq G dX3_holdRound_4 17 (by decide) (fun c4 => ?_) (fun c4 => ?_)
  · refine z_bipush (v := (-5)) G dX3_holdRound_17 rfl ?_
    exact hE _ _ _ _ dX3_holdRound_19 rfl (by first | (have n : ng f = 0 := (nI_eq (by have := ng_le f; omega) (by decide)).mp c4; rw [roR, if_pos (Or.inl n), if_pos (Or.inl n)]; exact ⟨rfl, rfl⟩) | (have n := Int32.not_le.mp c14; rw [roR, if_pos (Or.inr n), if_pos (Or.inr n)]; exact ⟨rfl, rfl⟩))
  · refine z_aload_n G dX3_holdRound_7 0 rfl ?_
    refine rg_breathsSoFar G hin (List.mem_of_getElem? (i := 1) rfl) dX3_holdRound_8 ?_
    refine z_sipush (v := nI 9900) G dX3_holdRound_11 rfl ?_
    refine z_icmp_le G dX3_holdRound_14 20 (by decide) (fun c14 => ?_) (fun c14 => ?_)
    · refine z_aload_n G dX3_holdRound_20 0 rfl ?_
      refine z_dVi (As := []) G _ _ (fun l => c_X3_handCupOn l D y a f rk0 hp hu hj hc hcm) k_X3_handCupOn gX3_holdRound_X3_handCupOn 0 3 rfl rfl rfl dX3_holdRound_21 ⟨by decide, by decide⟩ ⟨rfl, rfl⟩ ⟨Nat.zero_le _, Nat.zero_le _⟩ rfl (Nat.le_of_ble_eq_true rfl) rfl ?_
      refine z_istore_nA G dX3_holdRound_24 rfl (by decide) rfl ?_
      refine z_aload_n G dX3_holdRound_25 0 rfl ?_
      refine z_dVi (As := []) G _ _ (fun l => c_X3_seatByRank l D y a _ rk0 (PF_stc hp (cpH_keep hu hj (ng f) (Nat.le_refl _)).1)) k_X3_seatByRank gX3_holdRound_X3_seatByRank 0 3 rfl rfl rfl dX3_holdRound_26 ⟨by decide, by decide⟩ ⟨rfl, rfl⟩ ⟨Nat.zero_le _, Nat.zero_le _⟩ rfl (Nat.le_of_ble_eq_true rfl) rfl ?_
      refine z_pop G dX3_holdRound_29 rfl ?_
      refine z_aload_n G dX3_holdRound_30 0 rfl ?_
      refine z_dup G dX3_holdRound_31 rfl ?_
      refine rg_roundsSoFar G hin (List.mem_of_getElem? (i := 2) rfl) dX3_holdRound_32 ?_
      refine z_iconst (v := nI 1) G dX3_holdRound_35 rfl ?_
      refine z_iadd G dX3_holdRound_36 ?_
      refine rp_roundsSoFar G hin (List.mem_of_getElem? (i := 2) rfl) dX3_holdRound_37 ?_
      refine z_iload_n G dX3_holdRound_40 1 rfl ?_
      exact hE _ _ _ _ dX3_holdRound_41 rfl (by have n : ¬ (ng f = 0 ∨ nI 9900 < f 4) := fun q => q.elim (fun z => c4 (congrArg nI z)) (fun z => absurd c14 (Int32.not_le.mpr z)); rw [roR, if_neg n, if_neg n]; exact ⟨rfl, rfl⟩)
    · refine z_bipush (v := (-5)) G dX3_holdRound_17 rfl ?_
      exact hE _ _ _ _ dX3_holdRound_19 rfl (by first | (have n : ng f = 0 := (nI_eq (by have := ng_le f; omega) (by decide)).mp c4; rw [roR, if_pos (Or.inl n), if_pos (Or.inl n)]; exact ⟨rfl, rfl⟩) | (have n := Int32.not_le.mp c14; rw [roR, if_pos (Or.inr n), if_pos (Or.inr n)]; exact ⟨rfl, rfl⟩))
