theorem k_X6_does : zCal yX6_does wsX6_does cX6_does 3 (some .int) 1 := ⟨⟨_, rfl⟩, by decide +kernel⟩
theorem in_X6_does_X6 : ∀ w ∈ wsX60, w ∈ wsX6_does := fun _ h => List.mem_cons_of_mem _ (List.mem_append_right _ h)
set_option maxHeartbeats 4000000 in
set_option maxRecDepth 100000 in
theorem c_X6_does (l : Launch) (D : va_G) (y : Nat → ClassId) (b : Nat → Nat) (s : Nat → Int32) (q : mdQ) (h : IV s) {k : Nat} (hk : k < 40) : zDi l D y yX6_does wsX6_does ({ frames := 7, cells := 0, slots := 0, locals := 158 }) [.ref (b 0), .int (nI (k))] (mdW y b s q) ((dsA q s k).1) (mdW y b (dsA q s k).2 (dsQ s (q_read q (3 * k)) q)) := by
  refine zMi.mk (cc := cX6_does) (maxL := 3) (lv := [(0, .ref (b 0)), (1, .int (nI (k)))]) (by decide) rfl (Nat.le_of_ble_eq_true rfl) rfl (fun X G hE => ?_)
  have hin := in_X6_does_X6
  refine z_iconst (v := nI 3) G dX6_does_0 rfl ?_
  refine z_iload_n G dX6_does_1 1 rfl ?_
  refine z_imulN G dX6_does_2 (3 * k) (by omega) ?_
  refine z_istore_nA G dX6_does_3 rfl (by decide) rfl ?_
  refine z_aload_n G dX6_does_4 0 rfl ?_
  refine mg_read G hin (List.mem_of_getElem? (i := 1) rfl) dX6_does_5 ?_
  refine z_iload_n G dX6_does_8 2 rfl ?_
  refine ml_read G (by omega) dX6_does_9 ?_
  by_cases e98 : (q_read q (3 * k)) = nI 98
  · refine z_top (w := .int (nI 98)) (congrArg Value.int e98) (z_lookup G 107 dX6_does_10 (by decide) rfl (by decide) ?_)
    refine z_aload_n G dX6_does_107 0 rfl ?_
    refine z_aload_n G dX6_does_108 0 rfl ?_
    refine mg_read G hin (List.mem_of_getElem? (i := 1) rfl) dX6_does_109 ?_
    refine z_iload_n G dX6_does_112 2 rfl ?_
    refine z_iconst (v := nI 1) G dX6_does_113 rfl ?_
    refine z_iaddN G dX6_does_114 (1 + 3 * k) (by omega) ?_
    refine ml_read G (by omega) dX6_does_115 ?_
    refine z_aload_n G dX6_does_116 0 rfl ?_
    refine mg_read G hin (List.mem_of_getElem? (i := 1) rfl) dX6_does_117 ?_
    refine z_iload_n G dX6_does_120 2 rfl ?_
    refine z_iconst (v := nI 2) G dX6_does_121 rfl ?_
    refine z_iaddN G dX6_does_122 (2 + 3 * k) (by omega) ?_
    refine ml_read G (by omega) dX6_does_123 ?_
    refine z_dVi (As := [_, _]) G _ _ (fun l => c_X6_bows l D y b s q (q_read q (1 + 3 * k)) (q_read q (2 + 3 * k))) k_X6_bows gX6_does_X6_bows 0 6 rfl rfl rfl dX6_does_124 ⟨by decide, by decide⟩ ⟨rfl, rfl⟩ ⟨Nat.zero_le _, Nat.zero_le _⟩ rfl (Nat.le_of_ble_eq_true rfl) rfl ?_
    exact hE _ _ _ _ dX6_does_127 rfl (by rw [dsA, dsR_4 e98, dsQ_k (Or.inr (Or.inr (Or.inr (Or.inl e98))))]; exact ⟨rfl, rfl⟩)
  by_cases e103 : (q_read q (3 * k)) = nI 103
  · refine z_top (w := .int (nI 103)) (congrArg Value.int e103) (z_lookup G 68 dX6_does_10 (by decide) rfl (by decide) ?_)
    refine z_aload_n G dX6_does_68 0 rfl ?_
    refine z_aload_n G dX6_does_69 0 rfl ?_
    refine mg_read G hin (List.mem_of_getElem? (i := 1) rfl) dX6_does_70 ?_
    refine z_iload_n G dX6_does_73 2 rfl ?_
    refine z_iconst (v := nI 1) G dX6_does_74 rfl ?_
    refine z_iaddN G dX6_does_75 (1 + 3 * k) (by omega) ?_
    refine ml_read G (by omega) dX6_does_76 ?_
    refine z_dVi (As := [_]) G _ _ (fun l => c_X6_comes l D y b s q h.pf h.zr (q_read q (1 + 3 * k))) k_X6_comes gX6_does_X6_comes 0 6 rfl rfl rfl dX6_does_77 ⟨by decide, by decide⟩ ⟨rfl, rfl⟩ ⟨Nat.zero_le _, Nat.zero_le _⟩ rfl (Nat.le_of_ble_eq_true rfl) rfl ?_
    exact hE _ _ _ _ dX6_does_80 rfl (by rw [dsA, dsR_1 e103, dsQ_k (Or.inl e103)]; exact ⟨rfl, rfl⟩)
  by_cases e111 : (q_read q (3 * k)) = nI 111
  · refine z_top (w := .int (nI 111)) (congrArg Value.int e111) (z_lookup G 141 dX6_does_10 (by decide) rfl (by decide) ?_)
    refine z_aload_n G dX6_does_141 0 rfl ?_
    refine z_aload_n G dX6_does_142 0 rfl ?_
    refine mg_read G hin (List.mem_of_getElem? (i := 1) rfl) dX6_does_143 ?_
    refine z_iload_n G dX6_does_146 2 rfl ?_
    refine z_iconst (v := nI 1) G dX6_does_147 rfl ?_
    refine z_iaddN G dX6_does_148 (1 + 3 * k) (by omega) ?_
    refine ml_read G (by omega) dX6_does_149 ?_
    refine z_aload_n G dX6_does_150 0 rfl ?_
    refine mg_read G hin (List.mem_of_getElem? (i := 1) rfl) dX6_does_151 ?_
    refine z_iload_n G dX6_does_154 2 rfl ?_
    refine z_iconst (v := nI 2) G dX6_does_155 rfl ?_
    refine z_iaddN G dX6_does_156 (2 + 3 * k) (by omega) ?_
    refine ml_read G (by omega) dX6_does_157 ?_
    refine z_dVi (As := [_, _]) G _ _ (fun l => c_X6_offers l D y b s q h.pf (q_read q (1 + 3 * k)) (q_read q (2 + 3 * k)) h.hc h.hcm) k_X6_offers gX6_does_X6_offers 0 6 rfl rfl rfl dX6_does_158 ⟨by decide, by decide⟩ ⟨rfl, rfl⟩ ⟨Nat.zero_le _, Nat.zero_le _⟩ rfl (Nat.le_of_ble_eq_true rfl) rfl ?_
    exact hE _ _ _ _ dX6_does_161 rfl (by rw [dsA, dsR_6 e111, dsQ_k (Or.inr (Or.inr (Or.inr (Or.inr (Or.inr e111)))))]; exact ⟨rfl, rfl⟩)
  by_cases e116 : (q_read q (3 * k)) = nI 116
  · refine z_top (w := .int (nI 116)) (congrArg Value.int e116) (z_lookup G 128 dX6_does_10 (by decide) rfl (by decide) ?_)
    refine z_aload_n G dX6_does_128 0 rfl ?_
    refine z_aload_n G dX6_does_129 0 rfl ?_
    refine mg_read G hin (List.mem_of_getElem? (i := 1) rfl) dX6_does_130 ?_
    refine z_iload_n G dX6_does_133 2 rfl ?_
    refine z_iconst (v := nI 1) G dX6_does_134 rfl ?_
    refine z_iaddN G dX6_does_135 (1 + 3 * k) (by omega) ?_
    refine ml_read G (by omega) dX6_does_136 ?_
    refine z_dVi (As := [_]) G _ _ (fun l => c_X6_breathes l D y b s q h.pf (q_read q (1 + 3 * k))) k_X6_breathes gX6_does_X6_breathes 0 6 rfl rfl rfl dX6_does_137 ⟨by decide, by decide⟩ ⟨rfl, rfl⟩ ⟨Nat.zero_le _, Nat.zero_le _⟩ rfl (Nat.le_of_ble_eq_true rfl) rfl ?_
    exact hE _ _ _ _ dX6_does_140 rfl (by rw [dsA, dsR_5 e116, dsQ_k (Or.inr (Or.inr (Or.inr (Or.inr (Or.inl e116)))))]; exact ⟨rfl, rfl⟩)
  by_cases e119 : (q_read q (3 * k)) = nI 119
  · refine z_top (w := .int (nI 119)) (congrArg Value.int e119) (z_lookup G 94 dX6_does_10 (by decide) rfl (by decide) ?_)
    refine z_aload_n G dX6_does_94 0 rfl ?_
    refine z_aload_n G dX6_does_95 0 rfl ?_
    refine mg_read G hin (List.mem_of_getElem? (i := 1) rfl) dX6_does_96 ?_
    refine z_iload_n G dX6_does_99 2 rfl ?_
    refine z_iconst (v := nI 1) G dX6_does_100 rfl ?_
    refine z_iaddN G dX6_does_101 (1 + 3 * k) (by omega) ?_
    refine ml_read G (by omega) dX6_does_102 ?_
    refine z_dVi (As := [_]) G _ _ (fun l => c_X6_says l D y b s q (q_read q (1 + 3 * k))) k_X6_says gX6_does_X6_says 0 6 rfl rfl rfl dX6_does_103 ⟨by decide, by decide⟩ ⟨rfl, rfl⟩ ⟨Nat.zero_le _, Nat.zero_le _⟩ rfl (Nat.le_of_ble_eq_true rfl) rfl ?_
    exact hE _ _ _ _ dX6_does_106 rfl (by rw [dsA, dsR_3 e119, dsQ_k (Or.inr (Or.inr (Or.inl e119)))]; exact ⟨rfl, rfl⟩)
  by_cases e120 : (q_read q (3 * k)) = nI 120
  · refine z_top (w := .int (nI 120)) (congrArg Value.int e120) (z_lookup G 81 dX6_does_10 (by decide) rfl (by decide) ?_)
    refine z_aload_n G dX6_does_81 0 rfl ?_
    refine z_aload_n G dX6_does_82 0 rfl ?_
    refine mg_read G hin (List.mem_of_getElem? (i := 1) rfl) dX6_does_83 ?_
    refine z_iload_n G dX6_does_86 2 rfl ?_
    refine z_iconst (v := nI 1) G dX6_does_87 rfl ?_
    refine z_iaddN G dX6_does_88 (1 + 3 * k) (by omega) ?_
    refine ml_read G (by omega) dX6_does_89 ?_
    refine z_dVi (As := [_]) G _ _ (fun l => c_X6_leaves l D y b s q h.pf h.zr h.sn (q_read q (1 + 3 * k))) k_X6_leaves gX6_does_X6_leaves 0 6 rfl rfl rfl dX6_does_90 ⟨by decide, by decide⟩ ⟨rfl, rfl⟩ ⟨Nat.zero_le _, Nat.zero_le _⟩ rfl (Nat.le_of_ble_eq_true rfl) rfl ?_
    exact hE _ _ _ _ dX6_does_93 rfl (by rw [dsA, dsR_2 e120, dsQ_k (Or.inr (Or.inl e120))]; exact ⟨rfl, rfl⟩)
  refine z_lookup G 162 dX6_does_10 (by decide) ((lv_osw e98 rfl).trans ((lv_osw e103 rfl).trans ((lv_osw e111 rfl).trans ((lv_osw e116 rfl).trans ((lv_osw e119 rfl).trans ((lv_osw e120 rfl).trans (show Op.lookupswitch.offset [] (152) _ = (152) from rfl))))))) (by decide) ?_
  refine z_aload_n G dX6_does_162 0 rfl ?_
  refine z_dVi (As := []) G _ _ (fun l => c_X6_rounds l D y b s q h.pf h.su h.sj h.hc h.hcm h.obc) k_X6_rounds gX6_does_X6_rounds 0 6 rfl rfl rfl dX6_does_163 ⟨by decide, by decide⟩ ⟨rfl, rfl⟩ ⟨Nat.zero_le _, Nat.zero_le _⟩ rfl (Nat.le_of_ble_eq_true rfl) rfl ?_
  exact hE _ _ _ _ dX6_does_166 rfl (by rw [dsA, dsR_7 e103 e120 e119 e98 e116 e111, dsQ_7 e103 e120 e119 e98 e116 e111]; exact ⟨rfl, rfl⟩)

theorem k_X6_carryOut : zCal yX6_carryOut wsX6_carryOut cX6_carryOut 3 (some .int) 0 := ⟨⟨_, rfl⟩, by decide +kernel⟩
theorem in_X6_carryOut_X6 : ∀ w ∈ wsX60, w ∈ wsX6_carryOut := fun _ h => List.mem_cons_of_mem _ (List.mem_append_right _ h)
set_option maxHeartbeats 4000000 in
set_option maxRecDepth 100000 in
theorem c_X6_carryOut (l : Launch) (D : va_G) (y : Nat → ClassId) (b : Nat → Nat) (s : Nat → Int32) (q : mdQ) {st : Nat} (hst : q_states q = nI st) (h6 : st ≤ 6) (h : IV s) {len : Nat} (hlen : q_length q = nI len) (h80 : len ≤ 80) : zDi l D y yX6_carryOut wsX6_carryOut ({ frames := 8, cells := 0, slots := 0, locals := 180 }) [.ref (b 0)] (mdW y b s q) (caR s q len) (mdW y b (caF s q len) (caQ s q len st)) := by
  refine zMi.mk (cc := cX6_carryOut) (maxL := 3) (lv := [(0, .ref (b 0))]) (by decide) rfl (Nat.le_of_ble_eq_true rfl) rfl (fun X G hE => ?_)
  have hin := in_X6_carryOut_X6
  have hk := fE_k (t := q_pad q) (q_read q) h80
  have hk2 : (caE q len).2.2.1 ≤ 40 := hk.2
  have hk1 : (caE q len).2.1 ≤ len := hk.1
  refine z_aload_n G dX6_carryOut_0 0 rfl ?_
  refine z_dVi (As := []) G _ _ (fun l => c_X6_faultOf l D y b s q hlen h80) k_X6_faultOf gX6_carryOut_X6_faultOf 0 6 rfl rfl rfl dX6_carryOut_1 ⟨by decide, by decide⟩ ⟨rfl, rfl⟩ ⟨Nat.zero_le _, Nat.zero_le _⟩ rfl (Nat.le_of_ble_eq_true rfl) rfl ?_
  refine z_if_lt G dX6_carryOut_4 10 (by decide) (fun c4 => ?_) (fun c4 => ?_)
  · replace c4 : faV (caE q len) < 0 := c4
    have hE1 : (caE q len).1 = true := by
      cases e : (caE q len).1
      · rw [faV_F (S := (caE q len)) e] at c4
        exact absurd c4 (nI_pos (by omega))
      · rfl
    refine z_aload_n G dX6_carryOut_10 0 rfl ?_
    refine z_dVv (As := []) G _ (fun l => c_X6_hold l D y b s (fQ q (caE q len))) k_X6_hold gX6_carryOut_X6_hold 0 6 rfl rfl rfl dX6_carryOut_11 ⟨by decide, by decide⟩ ⟨rfl, rfl⟩ ⟨Nat.zero_le _, Nat.zero_le _⟩ rfl (Nat.le_of_ble_eq_true rfl) rfl ?_
    refine z_iconst (v := nI 0) G dX6_carryOut_14 rfl ?_
    refine z_istore_nA G dX6_carryOut_15 rfl (by decide) rfl ?_
    refine z_iconst (v := nI 1) G dX6_carryOut_16 rfl ?_
    refine z_istore_nA G dX6_carryOut_17 rfl (by decide) rfl ?_
    have lo : ∀ (n : Nat) (S : xS), n + S.1 = (caE q len).2.2.1 → IV S.2.1 → smQ (qs_spare (fQ q (caE q len)) s) S.2.2 → exS n S = caS s q len → zV D X (mdW y b S.2.1 S.2.2) 0 0 18 [(0, .ref (b 0)), (1, .int (nI S.1)), (2, .int (nI 1))] [] := by
      intro n
      induction n with
      | zero =>
        intro S hn hi hq he
        have e9 : S = caS s q len := he
        have e8 : q_states (caS s q len).2.2 = q_states q := by rw [← e9]; exact hq.2.2.2.2.2.2.2.2.1
        refine z_iload_n G dX6_carryOut_18 2 rfl ?_
        refine z_if_eqF G dX6_carryOut_19 59 (by decide) (by decide) ?_
        refine z_iload_n G dX6_carryOut_22 1 rfl ?_
        refine z_aload_n G dX6_carryOut_23 0 rfl ?_
        refine mg_orders G hin (List.mem_of_getElem? (i := 1) rfl) dX6_carryOut_24 ?_
        refine z_top (w := .int (nI ((caE q len).2.2.1))) (congrArg Value.int hq.2.2.2.2.2.2.2.2.2) ?_
        refine z_icmp_geT G dX6_carryOut_27 59 (by decide) (nI_le (by omega) (by omega)) ?_
        rw [e9]
        refine z_aload_n G dX6_carryOut_59 0 rfl ?_
        refine z_iconst (v := nI 0) G dX6_carryOut_60 rfl ?_
        refine mp_length G hin (List.mem_of_getElem? (i := 2) rfl) dX6_carryOut_61 ?_
        refine z_aload_n G dX6_carryOut_64 0 rfl ?_
        refine z_iload_n G dX6_carryOut_65 1 rfl ?_
        refine z_dVi (As := [_]) G _ _ (fun l => c_X6_recorded l D y b _ (qs_length (caS s q len).2.2 (nI 0)) (st := st) (e8.trans hst) h6 (nI (caS s q len).1)) k_X6_recorded gX6_carryOut_X6_recorded 0 6 rfl rfl rfl dX6_carryOut_66 ⟨by decide, by decide⟩ ⟨rfl, rfl⟩ ⟨Nat.zero_le _, Nat.zero_le _⟩ rfl (Nat.le_of_ble_eq_true rfl) rfl ?_
        exact hE _ _ _ _ dX6_carryOut_69 rfl (by rw [caR, caF, caQ, if_pos hE1, if_pos hE1, if_pos hE1]; exact ⟨rfl, rfl⟩)
      | succ n ih =>
        intro S hn hi hq he
        refine z_iload_n G dX6_carryOut_18 2 rfl ?_
        refine z_if_eqF G dX6_carryOut_19 59 (by decide) (by decide) ?_
        refine z_iload_n G dX6_carryOut_22 1 rfl ?_
        refine z_aload_n G dX6_carryOut_23 0 rfl ?_
        refine mg_orders G hin (List.mem_of_getElem? (i := 1) rfl) dX6_carryOut_24 ?_
        refine z_top (w := .int (nI ((caE q len).2.2.1))) (congrArg Value.int hq.2.2.2.2.2.2.2.2.2) ?_
        refine z_icmp_geF G dX6_carryOut_27 59 (by decide) (nI_ge (by omega) (by omega)) ?_
        refine z_aload_n G dX6_carryOut_30 0 rfl ?_
        refine z_iload_n G dX6_carryOut_31 1 rfl ?_
        refine z_dVi (As := [_]) G _ _ (fun l => c_X6_does l D y b S.2.1 S.2.2 hi (k := S.1) (by omega)) k_X6_does gX6_carryOut_X6_does 0 6 rfl rfl rfl dX6_carryOut_32 ⟨by decide, by decide⟩ ⟨rfl, rfl⟩ ⟨Nat.zero_le _, Nat.zero_le _⟩ rfl (Nat.le_of_ble_eq_true rfl) rfl ?_
        refine z_if_lt G dX6_carryOut_35 42 (by decide) (fun c35 => ?_) (fun c35 => ?_)
        · have r0 : ¬ 0 ≤ (dsA S.2.2 S.2.1 S.1).1 := Int32.not_le.mpr c35
          have e9 : (S.1, (dsA S.2.2 S.2.1 S.1).2, dsQ S.2.1 (q_read S.2.2 (3 * S.1)) S.2.2) = caS s q len := (exS_n r0).symm.trans he
          have e8 : q_states (caS s q len).2.2 = q_states q := by rw [← e9]; exact (smQ_tr hq (smQ_ds _ _ _)).2.2.2.2.2.2.2.2.1
          refine z_iconst (v := nI 0) G dX6_carryOut_42 rfl ?_
          refine z_istore_n G dX6_carryOut_43 rfl (by decide) 2 rfl ?_
          refine z_iload_n G dX6_carryOut_44 1 rfl ?_
          refine z_iload_n G dX6_carryOut_45 2 rfl ?_
          refine z_if_eqT G dX6_carryOut_46 53 (by decide) rfl ?_
          refine z_iconst (v := nI 0) G dX6_carryOut_53 rfl ?_
          refine z_iaddN G dX6_carryOut_54 (S.1) (by omega) ?_
          refine z_istore_n G dX6_carryOut_55 rfl (by decide) 1 rfl ?_
          refine z_goto (tgt := 18) G dX6_carryOut_56 (by decide) ?_
          refine z_iload_n G dX6_carryOut_18 2 rfl ?_
          refine z_if_eqT G dX6_carryOut_19 59 (by decide) rfl ?_
          refine z_world (ws' := mdW y b (caS s q len).2.1 (caS s q len).2.2) (congrArg (fun S : xS => mdW y b S.2.1 S.2.2) e9) ?_
          refine z_lv (lv' := [(0, .ref (b 0)), (1, .int (nI (caS s q len).1)), (2, .int (nI 0))]) (congrArg (a₁ := (S.1, (dsA S.2.2 S.2.1 S.1).2, dsQ S.2.1 (q_read S.2.2 (3 * S.1)) S.2.2)) (fun S : xS => ([(0, .ref (b 0)), (1, .int (nI S.1)), (2, .int (nI 0))] : List (Nat × Value))) e9) ?_
          refine z_aload_n G dX6_carryOut_59 0 rfl ?_
          refine z_iconst (v := nI 0) G dX6_carryOut_60 rfl ?_
          refine mp_length G hin (List.mem_of_getElem? (i := 2) rfl) dX6_carryOut_61 ?_
          refine z_aload_n G dX6_carryOut_64 0 rfl ?_
          refine z_iload_n G dX6_carryOut_65 1 rfl ?_
          refine z_dVi (As := [_]) G _ _ (fun l => c_X6_recorded l D y b _ (qs_length (caS s q len).2.2 (nI 0)) (st := st) (e8.trans hst) h6 (nI (caS s q len).1)) k_X6_recorded gX6_carryOut_X6_recorded 0 6 rfl rfl rfl dX6_carryOut_66 ⟨by decide, by decide⟩ ⟨rfl, rfl⟩ ⟨Nat.zero_le _, Nat.zero_le _⟩ rfl (Nat.le_of_ble_eq_true rfl) rfl ?_
          exact hE _ _ _ _ dX6_carryOut_69 rfl (by rw [caR, caF, caQ, if_pos hE1, if_pos hE1, if_pos hE1]; exact ⟨rfl, rfl⟩)
        · have r0 : 0 ≤ (dsA S.2.2 S.2.1 S.1).1 := Int32.not_lt.mp c35
          refine z_iconst (v := nI 1) G dX6_carryOut_38 rfl ?_
          refine z_goto (tgt := 43) G dX6_carryOut_39 (by decide) ?_
          refine z_istore_n G dX6_carryOut_43 rfl (by decide) 2 rfl ?_
          refine z_iload_n G dX6_carryOut_44 1 rfl ?_
          refine z_iload_n G dX6_carryOut_45 2 rfl ?_
          refine z_if_eqF G dX6_carryOut_46 53 (by decide) (by decide) ?_
          refine z_iconst (v := nI 1) G dX6_carryOut_49 rfl ?_
          refine z_goto (tgt := 54) G dX6_carryOut_50 (by decide) ?_
          refine z_iaddN G dX6_carryOut_54 (S.1 + 1) (by omega) ?_
          refine z_istore_n G dX6_carryOut_55 rfl (by decide) 1 rfl ?_
          refine z_goto (tgt := 18) G dX6_carryOut_56 (by decide) ?_
          exact ih (S.1 + 1, (dsA S.2.2 S.2.1 S.1).2, dsQ S.2.1 (q_read S.2.2 (3 * S.1)) S.2.2) (by show n + (S.1 + 1) = _; omega) (IV_ds hi _ _ _) (smQ_tr hq (smQ_ds _ _ _)) ((exS_y r0).symm.trans he)
    exact lo (caE q len).2.2.1 (0, s, (qs_spare (fQ q (caE q len)) s)) (Nat.add_zero _) h (smQ_refl _) rfl
  · replace c4 : ¬ faV (caE q len) < 0 := c4
    have hE1 : ¬ (caE q len).1 = true := fun e => c4 (by rw [faV_T (S := (caE q len)) e]; decide)
    refine z_bipush (v := (-3)) G dX6_carryOut_7 rfl ?_
    exact hE _ _ _ _ dX6_carryOut_9 rfl (by rw [caR, caF, caQ, if_neg hE1, if_neg hE1, if_neg hE1]; exact ⟨rfl, rfl⟩)
