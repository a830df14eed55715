set_option maxHeartbeats 8000000 in
set_option maxRecDepth 100000 in
theorem ir_152 {D : va_G} {y : Nat → ClassId} {f : Nat → Int32} {X : zX} {o : Nat} {sv : Option (Nat → Int32)} {k0 : Nat} (G : zG D y X cL_isRound RL ({ frames := 7, cells := 0, slots := 0, locals := 165 }) 10 wsL_isRound) (hv : IV f) (hr : SR f) {v1 v2 v3 v4 v5 v6 v7 : Int32} {s : Nat} (hs : s < ng f) (IH : (∀ w : va_W, TW y o f sv k0 w → zV D X w 0 0 152 [(0, .ref (o)), (1, .int (v1)), (2, .int (v2)), (3, .int (v3)), (4, .int (v4)), (5, .int (v5)), (6, .int (v6)), (7, .int (v7)), (8, .int (nI (1))), (9, .int (nI (s + 1)))] [])) (w : va_W) (hT : TW y o f sv k0 w) : zV D X w 0 0 152 [(0, .ref (o)), (1, .int (v1)), (2, .int (v2)), (3, .int (v3)), (4, .int (v4)), (5, .int (v5)), (6, .int (v6)), (7, .int (v7)), (8, .int (nI (1))), (9, .int (nI (s)))] [] := by
  obtain ⟨o1, o2, o3⟩ := od_is hv.su hv.sj hs
  refine z_iload G dL_isRound_152 9 rfl ?_
  refine z_aload_n G dL_isRound_154 0 rfl ?_
  refine z_iconst (v := nI 1) G dL_isRound_155 rfl ?_
  refine z_q (As := [_]) G (lc_count hv (nI (1)) (by decide) (by decide)) hT k_X5_count gL_isRound_X5_count rfl dL_isRound_156 ⟨by decide, by decide⟩ ⟨rfl, rfl⟩ ⟨Nat.zero_le _, Nat.zero_le _⟩ rfl (Nat.le_of_ble_eq_true rfl) rfl ?_
  intro w hT
  refine z_top (w := .int (nI (ng f))) (congrArg Value.int (cow_1 f)) ?_
  refine z_icmp_geF G dL_isRound_159 212 (by decide) (nI_ge hs (by have := ng_le f; omega)) ?_
  refine z_iload G dL_isRound_162 8 rfl ?_
  refine z_if_eqF G dL_isRound_164 212 (by decide) (by decide) ?_
  refine z_aload_n G dL_isRound_167 0 rfl ?_
  refine z_iload G dL_isRound_168 9 rfl ?_
  refine z_q (As := [_]) G (lc_ranked hv (nI (s))) hT k_X5_ranked gL_isRound_X5_ranked rfl dL_isRound_170 ⟨by decide, by decide⟩ ⟨rfl, rfl⟩ ⟨Nat.zero_le _, Nat.zero_le _⟩ rfl (Nat.le_of_ble_eq_true rfl) rfl ?_
  intro w hT
  refine z_aload_n G dL_isRound_173 0 rfl ?_
  refine z_iload G dL_isRound_174 9 rfl ?_
  refine z_q (As := [_]) G (lc_at hv (nI (s))) hT k_X5_at gL_isRound_X5_at rfl dL_isRound_176 ⟨by decide, by decide⟩ ⟨rfl, rfl⟩ ⟨Nat.zero_le _, Nat.zero_le _⟩ rfl (Nat.le_of_ble_eq_true rfl) rfl ?_
  intro w hT
  refine z_icmp_neF G dL_isRound_179 203 (by decide) (SR_ls hr _) ?_
  refine z_aload_n G dL_isRound_182 0 rfl ?_
  refine z_aload_n G dL_isRound_183 0 rfl ?_
  refine z_iload G dL_isRound_184 9 rfl ?_
  refine z_q (As := [_]) G (lc_at hv (nI (s))) hT k_X5_at gL_isRound_X5_at rfl dL_isRound_186 ⟨by decide, by decide⟩ ⟨rfl, rfl⟩ ⟨Nat.zero_le _, Nat.zero_le _⟩ rfl (Nat.le_of_ble_eq_true rfl) rfl ?_
  intro w hT
  refine z_top (w := .int (nI (od f s))) (congrArg Value.int o3) ?_
  refine z_bipush (v := nI 9) G dL_isRound_189 rfl ?_
  refine z_q (As := [_, _]) G (lc_of hv (nI (od f s)) (nI (9))) hT k_X5_of gL_isRound_X5_of rfl dL_isRound_191 ⟨by decide, by decide⟩ ⟨rfl, rfl⟩ ⟨Nat.zero_le _, Nat.zero_le _⟩ rfl (Nat.le_of_ble_eq_true rfl) rfl ?_
  intro w hT
  refine z_top (w := .int (nI (rk f (od f s)))) (congrArg Value.int (ofw_9 o1 o2)) ?_
  refine z_iload G dL_isRound_194 9 rfl ?_
  refine z_icmp_neF G dL_isRound_196 203 (by decide) ((hr _ o1 o2).symm.trans (od_st hv.su hv.sj hs)) ?_
  refine z_iconst (v := nI 1) G dL_isRound_199 rfl ?_
  refine z_goto (tgt := 204) G dL_isRound_200 (by decide) ?_
  refine z_istore G dL_isRound_204 (by decide) 8 rfl ?_
  refine z_iinc G dL_isRound_206 9 rfl (nI (s + 1)) (nI_inc _) (by decide) rfl ?_
  refine z_goto (tgt := 152) G dL_isRound_209 (by decide) ?_
  exact IH w hT

set_option maxHeartbeats 8000000 in
set_option maxRecDepth 100000 in
theorem ir_lo {D : va_G} {y : Nat → ClassId} {f : Nat → Int32} {X : zX} {o : Nat} {sv : Option (Nat → Int32)} {k0 : Nat} (G : zG D y X cL_isRound RL ({ frames := 7, cells := 0, slots := 0, locals := 165 }) 10 wsL_isRound) (hv : IV f) (hr : SR f) {v1 v2 v3 v4 v5 v6 v7 : Int32} (hE : HE D X cL_isRound ({ frames := 7, cells := 0, slots := 0, locals := 165 }) (fun r w => r = nI 1 ∧ TW y o f sv k0 w)) : ∀ n s : Nat, n + s = ng f → ∀ w : va_W, TW y o f sv k0 w → zV D X w 0 0 152 [(0, .ref (o)), (1, .int (v1)), (2, .int (v2)), (3, .int (v3)), (4, .int (v4)), (5, .int (v5)), (6, .int (v6)), (7, .int (v7)), (8, .int (nI (1))), (9, .int (nI (s)))] [] := by
  intro n
  induction n with
  | zero =>
    intro s hs w hT
    obtain rfl : s = ng f := by omega
    refine z_iload G dL_isRound_152 9 rfl ?_
    refine z_aload_n G dL_isRound_154 0 rfl ?_
    refine z_iconst (v := nI 1) G dL_isRound_155 rfl ?_
    refine z_q (As := [_]) G (lc_count hv (nI (1)) (by decide) (by decide)) hT k_X5_count gL_isRound_X5_count rfl dL_isRound_156 ⟨by decide, by decide⟩ ⟨rfl, rfl⟩ ⟨Nat.zero_le _, Nat.zero_le _⟩ rfl (Nat.le_of_ble_eq_true rfl) rfl ?_
    intro w hT
    refine z_top (w := .int (nI (ng f))) (congrArg Value.int (cow_1 f)) ?_
    refine z_icmp_geT G dL_isRound_159 212 (by decide) (nI_le (Nat.le_refl _) (by have := ng_le f; omega)) ?_
    refine z_iload G dL_isRound_212 8 rfl ?_
    exact hE _ _ _ _ dL_isRound_214 rfl ⟨rfl, hT⟩
  | succ n ih =>
    intro s hs w hT
    exact ir_152 G hv hr (by omega) (fun w hT => ih (s + 1) (by omega) w hT) w hT

set_option maxHeartbeats 8000000 in
set_option maxRecDepth 100000 in
theorem ir_72 {D : va_G} {y : Nat → ClassId} {f : Nat → Int32} {X : zX} {o : Nat} {sv : Option (Nat → Int32)} {k0 : Nat} (G : zG D y X cL_isRound RL ({ frames := 7, cells := 0, slots := 0, locals := 165 }) 10 wsL_isRound) {T : Nat} (h : JV f T) (n : ¬ ng f = 0) (hE : HE D X cL_isRound ({ frames := 7, cells := 0, slots := 0, locals := 165 }) (fun r w => r = nI 1 ∧ TW y o (rnF f (cu f)) sv k0 w)) (w : va_W) (hT : TW y o (rnF f (cu f)) sv k0 w) : zV D X w 0 0 72 [(0, .ref (o)), (1, .int (irR f (cu f) (nI 0))), (2, .int (irR f (cu f) (nI 1))), (3, .int (irR f (cu f) (nI 2))), (4, .int (f 4)), (5, .int (f 6)), (6, .int (f 5)), (7, .int (nI (mR f)))] [] := by
  have hv : IV (rnF f (cu f)) := (JV_rn h).iv
  have hr : SR (rnF f (cu f)) := SR_rn h.iv (cu f)
  have hS : LC D y yX5_seatAnew wsX5_seatAnew ({ frames := 6, cells := 0, slots := 0, locals := 145 }) [] (rnF f (cu f)) (nI 0) (rnF f (cu f)) := by
    have z := lc_seatAnew (D := D) (y := y) hv
    rw [SR_cnt hr, SR_stF hr 9 (Nat.le_refl _)] at z
    exact z
  refine z_iload G dL_isRound_72 7 rfl ?_
  refine z_iload_n G dL_isRound_74 1 rfl ?_
  refine z_icmp_neF G dL_isRound_75 146 (by decide) (ir_0 n).symm ?_
  refine z_iload_n G dL_isRound_78 2 rfl ?_
  refine z_iload_n G dL_isRound_79 1 rfl ?_
  refine z_aload_n G dL_isRound_80 0 rfl ?_
  refine z_bipush (v := nI 13) G dL_isRound_81 rfl ?_
  refine z_q (As := [_]) G (lc_count hv (nI (13)) (by decide) (by decide)) hT k_X5_count gL_isRound_X5_count rfl dL_isRound_83 ⟨by decide, by decide⟩ ⟨rfl, rfl⟩ ⟨Nat.zero_le _, Nat.zero_le _⟩ rfl (Nat.le_of_ble_eq_true rfl) rfl ?_
  intro w hT
  refine z_top (w := .int ((rnF f (cu f)) 0)) (congrArg Value.int (se_13 (k := 0) (by decide))) ?_
  refine z_imul G dL_isRound_86 ?_
  refine z_icmp_neF G dL_isRound_87 146 (by decide) (by rw [ir_1 n, ir_0 n, rn_0 h.iv]) ?_
  refine z_aload_n G dL_isRound_90 0 rfl ?_
  refine z_iconst (v := nI 0) G dL_isRound_91 rfl ?_
  refine z_q (As := [_]) G (lc_count hv (nI (0)) (by decide) (by decide)) hT k_X5_count gL_isRound_X5_count rfl dL_isRound_92 ⟨by decide, by decide⟩ ⟨rfl, rfl⟩ ⟨Nat.zero_le _, Nat.zero_le _⟩ rfl (Nat.le_of_ble_eq_true rfl) rfl ?_
  intro w hT
  refine z_top (w := .int ((rnF f (cu f)) 4)) (congrArg Value.int (cow_0 (rnF f (cu f)))) ?_
  refine z_iload G dL_isRound_95 4 rfl ?_
  refine z_iload_n G dL_isRound_97 2 rfl ?_
  refine z_iadd G dL_isRound_98 ?_
  refine z_icmp_neF G dL_isRound_99 146 (by decide) (by rw [rn_4 h.iv, ir_1 n]) ?_
  refine z_aload_n G dL_isRound_102 0 rfl ?_
  refine z_iconst (v := nI 3) G dL_isRound_103 rfl ?_
  refine z_q (As := [_]) G (lc_count hv (nI (3)) (by decide) (by decide)) hT k_X5_count gL_isRound_X5_count rfl dL_isRound_104 ⟨by decide, by decide⟩ ⟨rfl, rfl⟩ ⟨Nat.zero_le _, Nat.zero_le _⟩ rfl (Nat.le_of_ble_eq_true rfl) rfl ?_
  intro w hT
  refine z_top (w := .int ((rnF f (cu f)) 6)) (congrArg Value.int (cow_3 (rnF f (cu f)))) ?_
  refine z_iload G dL_isRound_107 5 rfl ?_
  refine z_iload_n G dL_isRound_109 1 rfl ?_
  refine z_iadd G dL_isRound_110 ?_
  refine z_icmp_neF G dL_isRound_111 146 (by decide) (by rw [rn_6, ir_0 n]) ?_
  refine z_aload_n G dL_isRound_114 0 rfl ?_
  refine z_iconst (v := nI 2) G dL_isRound_115 rfl ?_
  refine z_q (As := [_]) G (lc_count hv (nI (2)) (by decide) (by decide)) hT k_X5_count gL_isRound_X5_count rfl dL_isRound_116 ⟨by decide, by decide⟩ ⟨rfl, rfl⟩ ⟨Nat.zero_le _, Nat.zero_le _⟩ rfl (Nat.le_of_ble_eq_true rfl) rfl ?_
  intro w hT
  refine z_top (w := .int ((rnF f (cu f)) 5)) (congrArg Value.int (cow_2 (rnF f (cu f)))) ?_
  refine z_iload G dL_isRound_119 6 rfl ?_
  refine z_iconst (v := nI 1) G dL_isRound_121 rfl ?_
  refine z_iadd G dL_isRound_122 ?_
  refine z_icmp_neF G dL_isRound_123 146 (by decide) (rn_5 f (cu f)) ?_
  refine z_aload_n G dL_isRound_126 0 rfl ?_
  refine z_iconst (v := nI 0) G dL_isRound_127 rfl ?_
  refine z_q (As := [_]) G (lc_at hv (nI (0))) hT k_X5_at gL_isRound_X5_at rfl dL_isRound_128 ⟨by decide, by decide⟩ ⟨rfl, rfl⟩ ⟨Nat.zero_le _, Nat.zero_le _⟩ rfl (Nat.le_of_ble_eq_true rfl) rfl ?_
  intro w hT
  refine z_iload_n G dL_isRound_131 3 rfl ?_
  refine z_icmp_neF G dL_isRound_132 146 (by decide) (ir_2 n).symm ?_
  refine z_aload_n G dL_isRound_135 0 rfl ?_
  refine z_q (As := []) G (hS) hT k_X5_seatAnew gL_isRound_X5_seatAnew rfl dL_isRound_136 ⟨by decide, by decide⟩ ⟨rfl, rfl⟩ ⟨Nat.zero_le _, Nat.zero_le _⟩ rfl (Nat.le_of_ble_eq_true rfl) rfl ?_
  intro w hT
  refine z_if_neF G dL_isRound_139 146 (by decide) rfl ?_
  refine z_iconst (v := nI 1) G dL_isRound_142 rfl ?_
  refine z_goto (tgt := 147) G dL_isRound_143 (by decide) ?_
  refine z_istoreA G dL_isRound_147 (by decide) rfl ?_
  refine z_iconst (v := nI 0) G dL_isRound_149 rfl ?_
  refine z_istoreA G dL_isRound_150 (by decide) rfl ?_
  exact ir_lo G hv hr hE (ng (rnF f (cu f))) 0 rfl w hT

theorem k_L_isRound : zCal yL_isRound wsL_isRound cL_isRound 10 (some .boolean) 1 := ⟨⟨_, rfl⟩, by decide +kernel⟩
set_option maxHeartbeats 8000000 in
set_option maxRecDepth 100000 in
theorem c_L_isRound {D : va_G} {y : Nat → ClassId} {f : Nat → Int32} {T : Nat} (h : JV f T) (hT9 : T ≤ 9900) : LC D y yL_isRound wsL_isRound ({ frames := 7, cells := 0, slots := 0, locals := 165 }) [] f (nI 1) (rdF f) := by
  intro o sv k0 w hT l
  refine zMi.mk (cc := cL_isRound) (maxL := 10) (lv := [(0, .ref (o))]) (by decide) rfl (Nat.le_of_ble_eq_true rfl) rfl (fun X G hE => ?_)
  refine z_aload_n G dL_isRound_0 0 rfl ?_
  refine z_iconst (v := nI 0) G dL_isRound_1 rfl ?_
  refine z_q (As := [_]) G (lc_ifRound h.iv (nI (0))) hT k_X5_ifRound gL_isRound_X5_ifRound rfl dL_isRound_2 ⟨by decide, by decide⟩ ⟨rfl, rfl⟩ ⟨Nat.zero_le _, Nat.zero_le _⟩ rfl (Nat.le_of_ble_eq_true rfl) rfl ?_
  intro w hT
  refine z_istore_nA G dL_isRound_5 rfl (by decide) rfl ?_
  refine z_aload_n G dL_isRound_6 0 rfl ?_
  refine z_iconst (v := nI 1) G dL_isRound_7 rfl ?_
  refine z_q (As := [_]) G (lc_ifRound h.iv (nI (1))) hT k_X5_ifRound gL_isRound_X5_ifRound rfl dL_isRound_8 ⟨by decide, by decide⟩ ⟨rfl, rfl⟩ ⟨Nat.zero_le _, Nat.zero_le _⟩ rfl (Nat.le_of_ble_eq_true rfl) rfl ?_
  intro w hT
  refine z_istore_nA G dL_isRound_11 rfl (by decide) rfl ?_
  refine z_aload_n G dL_isRound_12 0 rfl ?_
  refine z_iconst (v := nI 2) G dL_isRound_13 rfl ?_
  refine z_q (As := [_]) G (lc_ifRound h.iv (nI (2))) hT k_X5_ifRound gL_isRound_X5_ifRound rfl dL_isRound_14 ⟨by decide, by decide⟩ ⟨rfl, rfl⟩ ⟨Nat.zero_le _, Nat.zero_le _⟩ rfl (Nat.le_of_ble_eq_true rfl) rfl ?_
  intro w hT
  refine z_istore_nA G dL_isRound_17 rfl (by decide) rfl ?_
  refine z_aload_n G dL_isRound_18 0 rfl ?_
  refine z_iconst (v := nI 0) G dL_isRound_19 rfl ?_
  refine z_q (As := [_]) G (lc_count h.iv (nI (0)) (by decide) (by decide)) hT k_X5_count gL_isRound_X5_count rfl dL_isRound_20 ⟨by decide, by decide⟩ ⟨rfl, rfl⟩ ⟨Nat.zero_le _, Nat.zero_le _⟩ rfl (Nat.le_of_ble_eq_true rfl) rfl ?_
  intro w hT
  refine z_top (w := .int (f 4)) (congrArg Value.int (cow_0 f)) ?_
  refine z_istoreA G dL_isRound_23 (by decide) rfl ?_
  refine z_aload_n G dL_isRound_25 0 rfl ?_
  refine z_iconst (v := nI 3) G dL_isRound_26 rfl ?_
  refine z_q (As := [_]) G (lc_count h.iv (nI (3)) (by decide) (by decide)) hT k_X5_count gL_isRound_X5_count rfl dL_isRound_27 ⟨by decide, by decide⟩ ⟨rfl, rfl⟩ ⟨Nat.zero_le _, Nat.zero_le _⟩ rfl (Nat.le_of_ble_eq_true rfl) rfl ?_
  intro w hT
  refine z_top (w := .int (f 6)) (congrArg Value.int (cow_3 f)) ?_
  refine z_istoreA G dL_isRound_30 (by decide) rfl ?_
  refine z_aload_n G dL_isRound_32 0 rfl ?_
  refine z_iconst (v := nI 2) G dL_isRound_33 rfl ?_
  refine z_q (As := [_]) G (lc_count h.iv (nI (2)) (by decide) (by decide)) hT k_X5_count gL_isRound_X5_count rfl dL_isRound_34 ⟨by decide, by decide⟩ ⟨rfl, rfl⟩ ⟨Nat.zero_le _, Nat.zero_le _⟩ rfl (Nat.le_of_ble_eq_true rfl) rfl ?_
  intro w hT
  refine z_top (w := .int (f 5)) (congrArg Value.int (cow_2 f)) ?_
  refine z_istoreA G dL_isRound_37 (by decide) rfl ?_
  refine z_aload_n G dL_isRound_39 0 rfl ?_
  by_cases n : ng f = 0
  · have hM : LC D y yX5_round wsX5_round ({ frames := 6, cells := 0, slots := 0, locals := 145 }) [] f (-5) f := by
      have z := lc_round (D := D) (y := y) h.iv
      rw [ro_0 n] at z
      exact z
    refine z_q (As := []) G (hM) hT k_X5_round gL_isRound_X5_round rfl dL_isRound_40 ⟨by decide, by decide⟩ ⟨rfl, rfl⟩ ⟨Nat.zero_le _, Nat.zero_le _⟩ rfl (Nat.le_of_ble_eq_true rfl) rfl ?_
    intro w hT
    have e0 : rdF f = f := if_pos n
    refine z_istoreA G dL_isRound_43 (by decide) rfl ?_
    refine z_aload_n G dL_isRound_45 0 rfl ?_
    refine z_iconst (v := nI 1) G dL_isRound_46 rfl ?_
    refine z_q (As := [_]) G (lc_count h.iv (nI (1)) (by decide) (by decide)) hT k_X5_count gL_isRound_X5_count rfl dL_isRound_47 ⟨by decide, by decide⟩ ⟨rfl, rfl⟩ ⟨Nat.zero_le _, Nat.zero_le _⟩ rfl (Nat.le_of_ble_eq_true rfl) rfl ?_
    intro w hT
    refine z_top (w := .int (nI (ng f))) (congrArg Value.int (cow_1 f)) ?_
    refine z_if_neF G dL_isRound_50 72 (by decide) (by rw [n]; rfl) ?_
    refine z_iload G dL_isRound_53 7 rfl ?_
    refine z_bipush (v := (-5)) G dL_isRound_55 rfl ?_
    refine z_icmp_neF G dL_isRound_57 70 (by decide) rfl ?_
    refine z_iload_n G dL_isRound_60 1 rfl ?_
    refine z_bipush (v := (-5)) G dL_isRound_61 rfl ?_
    refine z_icmp_neF G dL_isRound_63 70 (by decide) (irR_0 ir_in0 n) ?_
    refine z_iconst (v := nI 1) G dL_isRound_66 rfl ?_
    refine z_goto (tgt := 71) G dL_isRound_67 (by decide) ?_
    exact hE _ _ _ _ dL_isRound_71 rfl ⟨rfl, by rw [e0]; exact hT⟩
  · have hM : LC D y yX5_round wsX5_round ({ frames := 6, cells := 0, slots := 0, locals := 145 }) [] f (nI (mR f)) (rnF f (cu f)) := by
      have z := lc_round (D := D) (y := y) h.iv
      rw [ro_n h hT9 n] at z
      exact z
    refine z_q (As := []) G (hM) hT k_X5_round gL_isRound_X5_round rfl dL_isRound_40 ⟨by decide, by decide⟩ ⟨rfl, rfl⟩ ⟨Nat.zero_le _, Nat.zero_le _⟩ rfl (Nat.le_of_ble_eq_true rfl) rfl ?_
    intro w hT
    have e0 : rdF f = rnF f (cu f) := if_neg n
    have hv : IV (rnF f (cu f)) := (JV_rn h).iv
    refine z_istoreA G dL_isRound_43 (by decide) rfl ?_
    refine z_aload_n G dL_isRound_45 0 rfl ?_
    refine z_iconst (v := nI 1) G dL_isRound_46 rfl ?_
    refine z_q (As := [_]) G (lc_count hv (nI (1)) (by decide) (by decide)) hT k_X5_count gL_isRound_X5_count rfl dL_isRound_47 ⟨by decide, by decide⟩ ⟨rfl, rfl⟩ ⟨Nat.zero_le _, Nat.zero_le _⟩ rfl (Nat.le_of_ble_eq_true rfl) rfl ?_
    intro w hT
    refine z_top (w := .int (nI (ng ((rnF f (cu f)))))) (congrArg Value.int (cow_1 (rnF f (cu f)))) ?_
    refine z_if_neT G dL_isRound_50 72 (by decide) (fun z => n (by rw [rn_ng h.iv] at z; have := ng_le f; exact (nI_eq (b := 0) (by omega) (by decide)).mp z)) ?_
    exact ir_72 G h n (fun ws1 pc lv1 r a b c => hE ws1 pc lv1 r a b (by rw [e0]; exact c)) w hT
