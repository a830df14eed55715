theorem k_X6_readsOrder : zCal yX6_readsOrder wsX6_readsOrder cX6_readsOrder 2 (some .boolean) 0 := ⟨⟨_, rfl⟩, by decide +kernel⟩
theorem in_X6_readsOrder_X6 : ∀ w ∈ wsX60, w ∈ wsX6_readsOrder := fun _ h => List.mem_cons_of_mem _ (List.mem_append_right _ h)
set_option maxHeartbeats 4000000 in
set_option maxRecDepth 100000 in
theorem c_X6_readsOrder (l : Launch) (D : va_G) (y : Nat → ClassId) (b : Nat → Nat) (s : Nat → Int32) (q : mdQ) {len a k : Nat} (R : Nat → Int32) (hlen : q_length q = nI len) (h80 : len ≤ 80) (ha : a ≤ len) (hk : k ≤ 40) : zDi l D y yX6_readsOrder wsX6_readsOrder ({ frames := 3, cells := 0, slots := 0, locals := 66 }) [.ref (b 0)] (mdW y b s (pq q a k R)) (bI (rdK (q_pad q) len a)) (mdW y b s (pq q (rdA (q_pad q) len a) (accN (rdK (q_pad q) len a) k) (rdR (q_pad q) len a k R))) := by
  refine zMi.mk (cc := cX6_readsOrder) (maxL := 2) (lv := [(0, .ref (b 0))]) (by decide) rfl (Nat.le_of_ble_eq_true rfl) rfl (fun X G hE => ?_)
  have hin := in_X6_readsOrder_X6
  have fin : ∀ (v : Bool) (A : Nat) (R2 : Nat → Int32), v = rdK (q_pad q) len a ∧ A = rdA (q_pad q) len a ∧ R2 = rdR (q_pad q) len a k R → zV D X (mdW y b s (pq q A k R2)) 0 0 138 [(0, .ref (b 0)), (1, .int (bI v))] [] := by
    rintro v A R2 ⟨rfl, rfl, rfl⟩
    refine z_aload_n G dX6_readsOrder_138 0 rfl ?_
    refine z_dup G dX6_readsOrder_139 rfl ?_
    refine mg_orders G hin (List.mem_of_getElem? (i := 2) rfl) dX6_readsOrder_140 ?_
    refine z_top (w := .int (nI (k))) rfl ?_
    refine z_iload_n G dX6_readsOrder_143 1 rfl ?_
    refine z_if_eq G dX6_readsOrder_144 151 (by decide) (fun c144 => ?_) (fun c144 => ?_)
    · refine z_iconst (v := nI 0) G dX6_readsOrder_151 rfl ?_
      refine z_iaddN G dX6_readsOrder_152 (k) (by omega) ?_
      refine z_top (w := .int (nI (accN (rdK (q_pad q) len a) k))) (congrArg Value.int (congrArg nI (accN_F (show rdK (q_pad q) len a = false from bI_0 c144)).symm)) ?_
      refine mp_orders G hin (List.mem_of_getElem? (i := 2) rfl) dX6_readsOrder_153 ?_
      refine z_iload_n G dX6_readsOrder_156 1 rfl ?_
      exact hE _ _ _ _ dX6_readsOrder_157 (bI_nar _) ⟨rfl, rfl⟩
    · refine z_iconst (v := nI 1) G dX6_readsOrder_147 rfl ?_
      refine z_goto (tgt := 152) G dX6_readsOrder_148 (by decide) ?_
      refine z_iaddN G dX6_readsOrder_152 (k + 1) (by omega) ?_
      refine z_top (w := .int (nI (accN (rdK (q_pad q) len a) k))) (congrArg Value.int (congrArg nI (accN_T (show rdK (q_pad q) len a = true from bI_n c144)).symm)) ?_
      refine mp_orders G hin (List.mem_of_getElem? (i := 2) rfl) dX6_readsOrder_153 ?_
      refine z_iload_n G dX6_readsOrder_156 1 rfl ?_
      exact hE _ _ _ _ dX6_readsOrder_157 (bI_nar _) ⟨rfl, rfl⟩
  have mid : zV D X (mdW y b s (pq q a k (upd R (3 * k) (opV (q_pad q) len a)))) 0 0 35 [(0, .ref (b 0))] [] := by
    refine z_aload_n G dX6_readsOrder_35 0 rfl ?_
    refine z_bipush (v := nI 103) G dX6_readsOrder_36 rfl ?_
    refine z_dVi (As := [_]) G _ _ (fun l => c_X6_accepts l D y b s q (a := a) (k := k) (upd R (3 * k) (opV (q_pad q) len a)) hlen h80 ha 103) k_X6_accepts gX6_readsOrder_X6_accepts 0 6 rfl rfl rfl dX6_readsOrder_38 ⟨by decide, by decide⟩ ⟨rfl, rfl⟩ ⟨Nat.zero_le _, Nat.zero_le _⟩ rfl (Nat.le_of_ble_eq_true rfl) rfl ?_
    refine z_if_ne G dX6_readsOrder_41 53 (by decide) (fun c41 => ?_) (fun c41 => ?_)
    · have e103 : cB (q_pad q) len a 103 = true := bI_n c41
      have la : a < len := sgB_lt e103
      rw [accN_T e103]
      have K : kd (q_pad q) len a = 1 := kd1 (or_t1 e103)
      refine z_aload_n G dX6_readsOrder_53 0 rfl ?_
      refine z_dVi (As := []) G _ _ (fun l => c_X6_number l D y b s q (a := a + 1) (k := k) (upd R (3 * k) (opV (q_pad q) len a)) hlen h80 la (by omega)) k_X6_number gX6_readsOrder_X6_number 0 6 rfl rfl rfl dX6_readsOrder_54 ⟨by decide, by decide⟩ ⟨rfl, rfl⟩ ⟨Nat.zero_le _, Nat.zero_le _⟩ rfl (Nat.le_of_ble_eq_true rfl) rfl ?_
      refine z_istore_nA G dX6_readsOrder_57 rfl (by decide) rfl ?_
      refine z_goto (tgt := 138) G dX6_readsOrder_58 (by decide) ?_
      exact fin _ _ _ (rd_1 K k R)
    · have e103 : cB (q_pad q) len a 103 = false := bI_0 c41
      rw [accN_F e103]
      refine z_aload_n G dX6_readsOrder_44 0 rfl ?_
      refine z_bipush (v := nI 116) G dX6_readsOrder_45 rfl ?_
      refine z_dVi (As := [_]) G _ _ (fun l => c_X6_accepts l D y b s q (a := a) (k := k) (upd R (3 * k) (opV (q_pad q) len a)) hlen h80 ha 116) k_X6_accepts gX6_readsOrder_X6_accepts 0 6 rfl rfl rfl dX6_readsOrder_47 ⟨by decide, by decide⟩ ⟨rfl, rfl⟩ ⟨Nat.zero_le _, Nat.zero_le _⟩ rfl (Nat.le_of_ble_eq_true rfl) rfl ?_
      refine z_if_eq G dX6_readsOrder_50 61 (by decide) (fun c50 => ?_) (fun c50 => ?_)
      · have e116 : cB (q_pad q) len a 116 = false := bI_0 c50
        rw [accN_F e116]
        refine z_aload_n G dX6_readsOrder_61 0 rfl ?_
        refine z_bipush (v := nI 120) G dX6_readsOrder_62 rfl ?_
        refine z_dVi (As := [_]) G _ _ (fun l => c_X6_accepts l D y b s q (a := a) (k := k) (upd R (3 * k) (opV (q_pad q) len a)) hlen h80 ha 120) k_X6_accepts gX6_readsOrder_X6_accepts 0 6 rfl rfl rfl dX6_readsOrder_64 ⟨by decide, by decide⟩ ⟨rfl, rfl⟩ ⟨Nat.zero_le _, Nat.zero_le _⟩ rfl (Nat.le_of_ble_eq_true rfl) rfl ?_
        refine z_if_ne G dX6_readsOrder_67 79 (by decide) (fun c67 => ?_) (fun c67 => ?_)
        · have e120 : cB (q_pad q) len a 120 = true := bI_n c67
          have la : a < len := sgB_lt e120
          rw [accN_T e120]
          have K : kd (q_pad q) len a = 2 := kd2 (or_f e103 e116) (or_t1 e120)
          refine z_aload_n G dX6_readsOrder_79 0 rfl ?_
          refine z_iconst (v := nI 1) G dX6_readsOrder_80 rfl ?_
          refine z_dVi (As := [_]) G _ _ (fun l => c_X6_digit l D y b s q (a := a + 1) (k := k) (upd R (3 * k) (opV (q_pad q) len a)) hlen h80 (by omega) 1 (by omega)) k_X6_digit gX6_readsOrder_X6_digit 0 6 rfl rfl rfl dX6_readsOrder_81 ⟨by decide, by decide⟩ ⟨rfl, rfl⟩ ⟨Nat.zero_le _, Nat.zero_le _⟩ rfl (Nat.le_of_ble_eq_true rfl) rfl ?_
          refine z_istore_nA G dX6_readsOrder_84 rfl (by decide) rfl ?_
          refine z_goto (tgt := 138) G dX6_readsOrder_85 (by decide) ?_
          exact fin _ _ _ (rd_2 K k R)
        · have e120 : cB (q_pad q) len a 120 = false := bI_0 c67
          rw [accN_F e120]
          refine z_aload_n G dX6_readsOrder_70 0 rfl ?_
          refine z_bipush (v := nI 119) G dX6_readsOrder_71 rfl ?_
          refine z_dVi (As := [_]) G _ _ (fun l => c_X6_accepts l D y b s q (a := a) (k := k) (upd R (3 * k) (opV (q_pad q) len a)) hlen h80 ha 119) k_X6_accepts gX6_readsOrder_X6_accepts 0 6 rfl rfl rfl dX6_readsOrder_73 ⟨by decide, by decide⟩ ⟨rfl, rfl⟩ ⟨Nat.zero_le _, Nat.zero_le _⟩ rfl (Nat.le_of_ble_eq_true rfl) rfl ?_
          refine z_if_eq G dX6_readsOrder_76 88 (by decide) (fun c76 => ?_) (fun c76 => ?_)
          · have e119 : cB (q_pad q) len a 119 = false := bI_0 c76
            rw [accN_F e119]
            refine z_aload_n G dX6_readsOrder_88 0 rfl ?_
            refine z_bipush (v := nI 98) G dX6_readsOrder_89 rfl ?_
            refine z_dVi (As := [_]) G _ _ (fun l => c_X6_accepts l D y b s q (a := a) (k := k) (upd R (3 * k) (opV (q_pad q) len a)) hlen h80 ha 98) k_X6_accepts gX6_readsOrder_X6_accepts 0 6 rfl rfl rfl dX6_readsOrder_91 ⟨by decide, by decide⟩ ⟨rfl, rfl⟩ ⟨Nat.zero_le _, Nat.zero_le _⟩ rfl (Nat.le_of_ble_eq_true rfl) rfl ?_
            refine z_if_ne G dX6_readsOrder_94 106 (by decide) (fun c94 => ?_) (fun c94 => ?_)
            · have e98 : cB (q_pad q) len a 98 = true := bI_n c94
              have la : a < len := sgB_lt e98
              rw [accN_T e98]
              have K : kd (q_pad q) len a = 3 := kd3 (or_f e103 e116) (or_f e120 e119) (or_t1 e98)
              refine z_aload_n G dX6_readsOrder_106 0 rfl ?_
              refine z_iconst (v := nI 1) G dX6_readsOrder_107 rfl ?_
              refine z_dVi (As := [_]) G _ _ (fun l => c_X6_digit l D y b s q (a := a + 1) (k := k) (upd R (3 * k) (opV (q_pad q) len a)) hlen h80 (by omega) 1 (by omega)) k_X6_digit gX6_readsOrder_X6_digit 0 6 rfl rfl rfl dX6_readsOrder_108 ⟨by decide, by decide⟩ ⟨rfl, rfl⟩ ⟨Nat.zero_le _, Nat.zero_le _⟩ rfl (Nat.le_of_ble_eq_true rfl) rfl ?_
              refine z_if_eq G dX6_readsOrder_111 126 (by decide) (fun c111 => ?_) (fun c111 => ?_)
              · have d1 : dB (q_pad q) len (a + 1) = false := bI_0 c111
                rw [accN_F d1]
                refine z_iconst (v := nI 0) G dX6_readsOrder_126 rfl ?_
                refine z_top (w := .int (bI false)) rfl ?_
                refine z_istore_nA G dX6_readsOrder_127 rfl (by decide) rfl ?_
                refine z_goto (tgt := 138) G dX6_readsOrder_128 (by decide) ?_
                exact fin _ _ _ (rd_3f K d1 k R)
              · have d1 : dB (q_pad q) len (a + 1) = true := bI_n c111
                have la2 : a + 1 < len := sgB_lt d1
                rw [accN_T d1]
                refine z_aload_n G dX6_readsOrder_114 0 rfl ?_
                refine z_iconst (v := nI 2) G dX6_readsOrder_115 rfl ?_
                refine z_dVi (As := [_]) G _ _ (fun l => c_X6_digit l D y b s q (a := a + 2) (k := k) (upd (upd R (3 * k) (opV (q_pad q) len a)) (3 * k + 1) (dgV (q_pad q) len (a + 1))) hlen h80 (by omega) 2 (by omega)) k_X6_digit gX6_readsOrder_X6_digit 0 6 rfl rfl rfl dX6_readsOrder_116 ⟨by decide, by decide⟩ ⟨rfl, rfl⟩ ⟨Nat.zero_le _, Nat.zero_le _⟩ rfl (Nat.le_of_ble_eq_true rfl) rfl ?_
                refine z_if_eq G dX6_readsOrder_119 126 (by decide) (fun c119 => ?_) (fun c119 => ?_)
                · have d2 : dB (q_pad q) len (a + 2) = false := bI_0 c119
                  refine z_iconst (v := nI 0) G dX6_readsOrder_126 rfl ?_
                  refine z_top (w := .int (bI (dB (q_pad q) len (a + 2)))) (congrArg Value.int (by rw [d2]; rfl)) ?_
                  refine z_istore_nA G dX6_readsOrder_127 rfl (by decide) rfl ?_
                  refine z_goto (tgt := 138) G dX6_readsOrder_128 (by decide) ?_
                  exact fin _ _ _ (rd_3t K d1 k R)
                · have d2 : dB (q_pad q) len (a + 2) = true := bI_n c119
                  refine z_iconst (v := nI 1) G dX6_readsOrder_122 rfl ?_
                  refine z_goto (tgt := 127) G dX6_readsOrder_123 (by decide) ?_
                  refine z_top (w := .int (bI (dB (q_pad q) len (a + 2)))) (congrArg Value.int (by rw [d2]; rfl)) ?_
                  refine z_istore_nA G dX6_readsOrder_127 rfl (by decide) rfl ?_
                  refine z_goto (tgt := 138) G dX6_readsOrder_128 (by decide) ?_
                  exact fin _ _ _ (rd_3t K d1 k R)
            · have e98 : cB (q_pad q) len a 98 = false := bI_0 c94
              rw [accN_F e98]
              refine z_aload_n G dX6_readsOrder_97 0 rfl ?_
              refine z_bipush (v := nI 111) G dX6_readsOrder_98 rfl ?_
              refine z_dVi (As := [_]) G _ _ (fun l => c_X6_accepts l D y b s q (a := a) (k := k) (upd R (3 * k) (opV (q_pad q) len a)) hlen h80 ha 111) k_X6_accepts gX6_readsOrder_X6_accepts 0 6 rfl rfl rfl dX6_readsOrder_100 ⟨by decide, by decide⟩ ⟨rfl, rfl⟩ ⟨Nat.zero_le _, Nat.zero_le _⟩ rfl (Nat.le_of_ble_eq_true rfl) rfl ?_
              refine z_if_eq G dX6_readsOrder_103 131 (by decide) (fun c103 => ?_) (fun c103 => ?_)
              · have e111 : cB (q_pad q) len a 111 = false := bI_0 c103
                rw [accN_F e111]
                refine z_aload_n G dX6_readsOrder_131 0 rfl ?_
                refine z_bipush (v := nI 114) G dX6_readsOrder_132 rfl ?_
                refine z_dVi (As := [_]) G _ _ (fun l => c_X6_accepts l D y b s q (a := a) (k := k) (upd R (3 * k) (opV (q_pad q) len a)) hlen h80 ha 114) k_X6_accepts gX6_readsOrder_X6_accepts 0 6 rfl rfl rfl dX6_readsOrder_134 ⟨by decide, by decide⟩ ⟨rfl, rfl⟩ ⟨Nat.zero_le _, Nat.zero_le _⟩ rfl (Nat.le_of_ble_eq_true rfl) rfl ?_
                refine z_istore_nA G dX6_readsOrder_137 rfl (by decide) rfl ?_
                exact fin _ _ _ (rd_4 (kd4 (or_f e103 e116) (or_f e120 e119) (or_f e98 e111)) k R)
              · have e111 : cB (q_pad q) len a 111 = true := bI_n c103
                have la : a < len := sgB_lt e111
                rw [accN_T e111]
                have K : kd (q_pad q) len a = 3 := kd3 (or_f e103 e116) (or_f e120 e119) (or_t2 e111)
                refine z_aload_n G dX6_readsOrder_106 0 rfl ?_
                refine z_iconst (v := nI 1) G dX6_readsOrder_107 rfl ?_
                refine z_dVi (As := [_]) G _ _ (fun l => c_X6_digit l D y b s q (a := a + 1) (k := k) (upd R (3 * k) (opV (q_pad q) len a)) hlen h80 (by omega) 1 (by omega)) k_X6_digit gX6_readsOrder_X6_digit 0 6 rfl rfl rfl dX6_readsOrder_108 ⟨by decide, by decide⟩ ⟨rfl, rfl⟩ ⟨Nat.zero_le _, Nat.zero_le _⟩ rfl (Nat.le_of_ble_eq_true rfl) rfl ?_
                refine z_if_eq G dX6_readsOrder_111 126 (by decide) (fun c111 => ?_) (fun c111 => ?_)
                · have d1 : dB (q_pad q) len (a + 1) = false := bI_0 c111
                  rw [accN_F d1]
                  refine z_iconst (v := nI 0) G dX6_readsOrder_126 rfl ?_
                  refine z_top (w := .int (bI false)) rfl ?_
                  refine z_istore_nA G dX6_readsOrder_127 rfl (by decide) rfl ?_
                  refine z_goto (tgt := 138) G dX6_readsOrder_128 (by decide) ?_
                  exact fin _ _ _ (rd_3f K d1 k R)
                · have d1 : dB (q_pad q) len (a + 1) = true := bI_n c111
                  have la2 : a + 1 < len := sgB_lt d1
                  rw [accN_T d1]
                  refine z_aload_n G dX6_readsOrder_114 0 rfl ?_
                  refine z_iconst (v := nI 2) G dX6_readsOrder_115 rfl ?_
                  refine z_dVi (As := [_]) G _ _ (fun l => c_X6_digit l D y b s q (a := a + 2) (k := k) (upd (upd R (3 * k) (opV (q_pad q) len a)) (3 * k + 1) (dgV (q_pad q) len (a + 1))) hlen h80 (by omega) 2 (by omega)) k_X6_digit gX6_readsOrder_X6_digit 0 6 rfl rfl rfl dX6_readsOrder_116 ⟨by decide, by decide⟩ ⟨rfl, rfl⟩ ⟨Nat.zero_le _, Nat.zero_le _⟩ rfl (Nat.le_of_ble_eq_true rfl) rfl ?_
                  refine z_if_eq G dX6_readsOrder_119 126 (by decide) (fun c119 => ?_) (fun c119 => ?_)
                  · have d2 : dB (q_pad q) len (a + 2) = false := bI_0 c119
                    refine z_iconst (v := nI 0) G dX6_readsOrder_126 rfl ?_
                    refine z_top (w := .int (bI (dB (q_pad q) len (a + 2)))) (congrArg Value.int (by rw [d2]; rfl)) ?_
                    refine z_istore_nA G dX6_readsOrder_127 rfl (by decide) rfl ?_
                    refine z_goto (tgt := 138) G dX6_readsOrder_128 (by decide) ?_
                    exact fin _ _ _ (rd_3t K d1 k R)
                  · have d2 : dB (q_pad q) len (a + 2) = true := bI_n c119
                    refine z_iconst (v := nI 1) G dX6_readsOrder_122 rfl ?_
                    refine z_goto (tgt := 127) G dX6_readsOrder_123 (by decide) ?_
                    refine z_top (w := .int (bI (dB (q_pad q) len (a + 2)))) (congrArg Value.int (by rw [d2]; rfl)) ?_
                    refine z_istore_nA G dX6_readsOrder_127 rfl (by decide) rfl ?_
                    refine z_goto (tgt := 138) G dX6_readsOrder_128 (by decide) ?_
                    exact fin _ _ _ (rd_3t K d1 k R)
          · have e119 : cB (q_pad q) len a 119 = true := bI_n c76
            have la : a < len := sgB_lt e119
            rw [accN_T e119]
            have K : kd (q_pad q) len a = 2 := kd2 (or_f e103 e116) (or_t2 e119)
            refine z_aload_n G dX6_readsOrder_79 0 rfl ?_
            refine z_iconst (v := nI 1) G dX6_readsOrder_80 rfl ?_
            refine z_dVi (As := [_]) G _ _ (fun l => c_X6_digit l D y b s q (a := a + 1) (k := k) (upd R (3 * k) (opV (q_pad q) len a)) hlen h80 (by omega) 1 (by omega)) k_X6_digit gX6_readsOrder_X6_digit 0 6 rfl rfl rfl dX6_readsOrder_81 ⟨by decide, by decide⟩ ⟨rfl, rfl⟩ ⟨Nat.zero_le _, Nat.zero_le _⟩ rfl (Nat.le_of_ble_eq_true rfl) rfl ?_
            refine z_istore_nA G dX6_readsOrder_84 rfl (by decide) rfl ?_
            refine z_goto (tgt := 138) G dX6_readsOrder_85 (by decide) ?_
            exact fin _ _ _ (rd_2 K k R)
      · have e116 : cB (q_pad q) len a 116 = true := bI_n c50
        have la : a < len := sgB_lt e116
        rw [accN_T e116]
        have K : kd (q_pad q) len a = 1 := kd1 (or_t2 e116)
        refine z_aload_n G dX6_readsOrder_53 0 rfl ?_
        refine z_dVi (As := []) G _ _ (fun l => c_X6_number l D y b s q (a := a + 1) (k := k) (upd R (3 * k) (opV (q_pad q) len a)) hlen h80 la (by omega)) k_X6_number gX6_readsOrder_X6_number 0 6 rfl rfl rfl dX6_readsOrder_54 ⟨by decide, by decide⟩ ⟨rfl, rfl⟩ ⟨Nat.zero_le _, Nat.zero_le _⟩ rfl (Nat.le_of_ble_eq_true rfl) rfl ?_
        refine z_istore_nA G dX6_readsOrder_57 rfl (by decide) rfl ?_
        refine z_goto (tgt := 138) G dX6_readsOrder_58 (by decide) ?_
        exact fin _ _ _ (rd_1 K k R)
  refine z_aload_n G dX6_readsOrder_0 0 rfl ?_
  refine mg_read G hin (List.mem_of_getElem? (i := 1) rfl) dX6_readsOrder_1 ?_
  refine z_iconst (v := nI 3) G dX6_readsOrder_4 rfl ?_
  refine z_aload_n G dX6_readsOrder_5 0 rfl ?_
  refine mg_orders G hin (List.mem_of_getElem? (i := 2) rfl) dX6_readsOrder_6 ?_
  refine z_top (w := .int (nI (k))) rfl ?_
  refine z_imulN G dX6_readsOrder_9 (3 * k) (by omega) ?_
  refine z_aload_n G dX6_readsOrder_10 0 rfl ?_
  refine mg_at G hin (List.mem_of_getElem? (i := 3) rfl) dX6_readsOrder_11 ?_
  refine z_top (w := .int (nI (a))) rfl ?_
  refine z_aload_n G dX6_readsOrder_14 0 rfl ?_
  refine mg_length G hin (List.mem_of_getElem? (i := 4) rfl) dX6_readsOrder_15 ?_
  refine z_top (w := .int (nI (len))) (congrArg Value.int hlen) ?_
  refine z_icmp_ge G dX6_readsOrder_18 33 (by decide) (fun c18 => ?_) (fun c18 => ?_)
  · have n18 : ¬ a < len := fun z => absurd ((nI_leI (by omega) (by omega)).mp c18) (Nat.not_le.mpr z)
    refine z_iconst (v := nI 0) G dX6_readsOrder_33 rfl ?_
    refine z_top (w := .int (opV (q_pad q) len a)) (congrArg Value.int (opV_F n18).symm) ?_
    refine ms_read G (by omega) dX6_readsOrder_34 ?_
    exact mid
  · have n18 : a < len := Nat.not_le.mp (fun z => c18 (nI_le z (by omega)))
    refine z_aload_n G dX6_readsOrder_21 0 rfl ?_
    refine mg_pad G hin (List.mem_of_getElem? (i := 5) rfl) dX6_readsOrder_22 ?_
    refine z_aload_n G dX6_readsOrder_25 0 rfl ?_
    refine mg_at G hin (List.mem_of_getElem? (i := 3) rfl) dX6_readsOrder_26 ?_
    refine z_top (w := .int (nI (a))) rfl ?_
    refine ml_pad G (by omega) dX6_readsOrder_29 ?_
    refine z_goto (tgt := 34) G dX6_readsOrder_30 (by decide) ?_
    refine z_top (w := .int (opV (q_pad q) len a)) (congrArg Value.int (opV_T n18).symm) ?_
    refine ms_read G (by omega) dX6_readsOrder_34 ?_
    exact mid

theorem k_X6_faultOf : zCal yX6_faultOf wsX6_faultOf cX6_faultOf 2 (some .int) 0 := ⟨⟨_, rfl⟩, by decide +kernel⟩
theorem in_X6_faultOf_X6 : ∀ w ∈ wsX60, w ∈ wsX6_faultOf := fun _ h => List.mem_cons_of_mem _ (List.mem_append_right _ h)
set_option maxHeartbeats 4000000 in
set_option maxRecDepth 100000 in
theorem c_X6_faultOf (l : Launch) (D : va_G) (y : Nat → ClassId) (b : Nat → Nat) (s : Nat → Int32) (q : mdQ) {len : Nat} (hlen : q_length q = nI len) (h80 : len ≤ 80) : zDi l D y yX6_faultOf wsX6_faultOf ({ frames := 4, cells := 0, slots := 0, locals := 87 }) [.ref (b 0)] (mdW y b s q) (faV (fE (q_pad q) len (q_read q))) (mdW y b s (fQ q (fE (q_pad q) len (q_read q)))) := by
  refine zMi.mk (cc := cX6_faultOf) (maxL := 2) (lv := [(0, .ref (b 0))]) (by decide) rfl (Nat.le_of_ble_eq_true rfl) rfl (fun X G hE => ?_)
  have hin := in_X6_faultOf_X6
  refine z_aload_n G dX6_faultOf_0 0 rfl ?_
  refine z_iconst (v := nI 0) G dX6_faultOf_1 rfl ?_
  refine mp_at G hin (List.mem_of_getElem? (i := 1) rfl) dX6_faultOf_2 ?_
  refine z_aload_n G dX6_faultOf_5 0 rfl ?_
  refine z_iconst (v := nI 0) G dX6_faultOf_6 rfl ?_
  refine mp_orders G hin (List.mem_of_getElem? (i := 2) rfl) dX6_faultOf_7 ?_
  refine z_world (ws' := mdW y b s (pq q 0 0 (q_read q))) rfl ?_
  refine z_aload_n G dX6_faultOf_10 0 rfl ?_
  refine z_dVi (As := []) G _ _ (fun l => c_X6_readsOrder l D y b s q (a := 0) (k := 0) (q_read q) hlen h80 (by omega) (by omega)) k_X6_readsOrder gX6_faultOf_X6_readsOrder 0 6 rfl rfl rfl dX6_faultOf_11 ⟨by decide, by decide⟩ ⟨rfl, rfl⟩ ⟨Nat.zero_le _, Nat.zero_le _⟩ rfl (Nat.le_of_ble_eq_true rfl) rfl ?_
  refine z_istore_nA G dX6_faultOf_14 rfl (by decide) rfl ?_
  have lo : ∀ (n : Nat) (S : fS), S.2.1 ≤ len → 2 * S.2.2.1 ≤ S.2.1 + 1 → len < n + S.2.1 → fl (q_pad q) len n S = (fE (q_pad q) len (q_read q)) → zV D X (mdW y b s (fQ q S)) 0 0 15 [(0, .ref (b 0)), (1, .int (bI S.1))] [] := by
    intro n
    induction n with
    | zero =>
      intro S h1 _ h2
      exact absurd h2 (by omega)
    | succ n ih =>
      intro S h1 h3 h2 hE0
      refine z_iload_n G dX6_faultOf_15 1 rfl ?_
      refine z_if_eq G dX6_faultOf_16 55 (by decide) (fun c16 => ?_) (fun c16 => ?_)
      · have s1 : S.1 = false := bI_0 c16
        have e9 : S = (fE (q_pad q) len (q_read q)) := (fl_F s1).symm.trans hE0
        rw [s1]
        refine z_iload_n G dX6_faultOf_55 1 rfl ?_
        refine z_if_eqT G dX6_faultOf_56 63 (by decide) rfl ?_
        refine z_aload_n G dX6_faultOf_63 0 rfl ?_
        refine mg_at G hin (List.mem_of_getElem? (i := 1) rfl) dX6_faultOf_64 ?_
        exact hE _ _ _ _ dX6_faultOf_67 rfl (by rw [← e9, faV_F s1]; exact ⟨rfl, rfl⟩)
      · have s1 : S.1 = true := bI_n c16
        refine z_aload_n G dX6_faultOf_19 0 rfl ?_
        refine mg_at G hin (List.mem_of_getElem? (i := 1) rfl) dX6_faultOf_20 ?_
        refine z_top (w := .int (nI (S.2.1))) rfl ?_
        refine z_aload_n G dX6_faultOf_23 0 rfl ?_
        refine mg_length G hin (List.mem_of_getElem? (i := 3) rfl) dX6_faultOf_24 ?_
        refine z_top (w := .int (nI (len))) (congrArg Value.int hlen) ?_
        refine z_icmp_ge G dX6_faultOf_27 55 (by decide) (fun c27 => ?_) (fun c27 => ?_)
        · have e9 : S = (fE (q_pad q) len (q_read q)) := (fl_E ((nI_leI (by omega) (by omega)).mp c27)).symm.trans hE0
          rw [s1]
          refine z_iload_n G dX6_faultOf_55 1 rfl ?_
          refine z_if_eqF G dX6_faultOf_56 63 (by decide) (by decide) ?_
          refine z_iconst (v := (-1)) G dX6_faultOf_59 rfl ?_
          refine z_goto (tgt := 67) G dX6_faultOf_60 (by decide) ?_
          exact hE _ _ _ _ dX6_faultOf_67 rfl (by rw [← e9, faV_T s1]; exact ⟨rfl, rfl⟩)
        · have l27 : S.2.1 < len := Nat.not_le.mp (fun z => c27 (nI_le z (by omega)))
          refine z_aload_n G dX6_faultOf_30 0 rfl ?_
          refine z_bipush (v := nI 59) G dX6_faultOf_31 rfl ?_
          refine z_dVi (As := [_]) G _ _ (fun l => c_X6_accepts l D y b s q (a := S.2.1) (k := S.2.2.1) S.2.2.2 hlen h80 h1 59) k_X6_accepts gX6_faultOf_X6_accepts 0 6 rfl rfl rfl dX6_faultOf_33 ⟨by decide, by decide⟩ ⟨rfl, rfl⟩ ⟨Nat.zero_le _, Nat.zero_le _⟩ rfl (Nat.le_of_ble_eq_true rfl) rfl ?_
          refine z_if_eq G dX6_faultOf_36 50 (by decide) (fun c36 => ?_) (fun c36 => ?_)
          · have e59 : cB (q_pad q) len S.2.1 59 = false := bI_0 c36
            have e9 : (false, S.2) = (fE (q_pad q) len (q_read q)) := (fl_N s1 l27 e59).symm.trans hE0
            rw [accN_F e59]
            refine z_iconst (v := nI 0) G dX6_faultOf_50 rfl ?_
            refine z_istore_n G dX6_faultOf_51 rfl (by decide) 1 rfl ?_
            refine z_goto (tgt := 15) G dX6_faultOf_52 (by decide) ?_
            refine z_iload_n G dX6_faultOf_15 1 rfl ?_
            refine z_if_eqT G dX6_faultOf_16 55 (by decide) rfl ?_
            refine z_iload_n G dX6_faultOf_55 1 rfl ?_
            refine z_if_eqT G dX6_faultOf_56 63 (by decide) rfl ?_
            refine z_aload_n G dX6_faultOf_63 0 rfl ?_
            refine mg_at G hin (List.mem_of_getElem? (i := 1) rfl) dX6_faultOf_64 ?_
            exact hE _ _ _ _ dX6_faultOf_67 rfl (by rw [← e9]; exact ⟨rfl, rfl⟩)
          · have e59 : cB (q_pad q) len S.2.1 59 = true := bI_n c36
            rw [accN_T e59]
            have hb := rdA_b (t := (q_pad q)) (len := len) (a := S.2.1 + 1) (by omega)
            refine z_aload_n G dX6_faultOf_39 0 rfl ?_
            refine z_dVi (As := []) G _ _ (fun l => c_X6_readsOrder l D y b s q (a := S.2.1 + 1) (k := S.2.2.1) S.2.2.2 hlen h80 (by omega) (by omega)) k_X6_readsOrder gX6_faultOf_X6_readsOrder 0 6 rfl rfl rfl dX6_faultOf_40 ⟨by decide, by decide⟩ ⟨rfl, rfl⟩ ⟨Nat.zero_le _, Nat.zero_le _⟩ rfl (Nat.le_of_ble_eq_true rfl) rfl ?_
            refine z_if_eq G dX6_faultOf_43 50 (by decide) (fun c43 => ?_) (fun c43 => ?_)
            · refine z_iconst (v := nI 0) G dX6_faultOf_50 rfl ?_
              refine z_top (w := .int (bI (rdK (q_pad q) len (S.2.1 + 1)))) (congrArg Value.int (by rw [bI_0 c43]; rfl)) ?_
              refine z_istore_n G dX6_faultOf_51 rfl (by decide) 1 rfl ?_
              refine z_goto (tgt := 15) G dX6_faultOf_52 (by decide) ?_
              exact ih (rdS (q_pad q) len (S.2.1 + 1) S.2.2.1 S.2.2.2) hb.1 (accN_k (c := rdK (q_pad q) len (S.2.1 + 1)) (by omega) hb.2.1 hb.2.2) (by have h5 := hb.2.1; show len < n + rdA (q_pad q) len (S.2.1 + 1); omega) ((fl_S s1 l27 e59).symm.trans hE0)
            · refine z_iconst (v := nI 1) G dX6_faultOf_46 rfl ?_
              refine z_goto (tgt := 51) G dX6_faultOf_47 (by decide) ?_
              refine z_top (w := .int (bI (rdK (q_pad q) len (S.2.1 + 1)))) (congrArg Value.int (by rw [bI_n c43]; rfl)) ?_
              refine z_istore_n G dX6_faultOf_51 rfl (by decide) 1 rfl ?_
              refine z_goto (tgt := 15) G dX6_faultOf_52 (by decide) ?_
              exact ih (rdS (q_pad q) len (S.2.1 + 1) S.2.2.1 S.2.2.2) hb.1 (accN_k (c := rdK (q_pad q) len (S.2.1 + 1)) (by omega) hb.2.1 hb.2.2) (by have h5 := hb.2.1; show len < n + rdA (q_pad q) len (S.2.1 + 1); omega) ((fl_S s1 l27 e59).symm.trans hE0)
  have hb := rdA_b (t := (q_pad q)) (len := len) (a := 0) (Nat.zero_le _)
  exact lo 81 (rdS (q_pad q) len 0 0 (q_read q)) hb.1 (accN_k (c := rdK (q_pad q) len 0) (k := 0) (a := 0) (by omega) hb.2.1 hb.2.2) (by omega) rfl

theorem k_X6_fault : zCal yX6_fault wsX6_fault cX6_fault 2 (some .int) 0 := ⟨⟨_, rfl⟩, by decide +kernel⟩
theorem in_X6_fault_X6 : ∀ w ∈ wsX60, w ∈ wsX6_fault := fun _ h => List.mem_cons_of_mem _ (List.mem_append_right _ h)
set_option maxHeartbeats 4000000 in
set_option maxRecDepth 100000 in
theorem c_X6_fault (l : Launch) (D : va_G) (y : Nat → ClassId) (b : Nat → Nat) (s : Nat → Int32) (q : mdQ) {len : Nat} (hlen : q_length q = nI len) (h80 : len ≤ 80) : zDi l D y yX6_fault wsX6_fault ({ frames := 5, cells := 0, slots := 0, locals := 108 }) [.ref (b 0)] (mdW y b s q) (faR0 q len) (mdW y b s (fQ q (fE (q_pad q) len (q_read q)))) := by
  refine zMi.mk (cc := cX6_fault) (maxL := 2) (lv := [(0, .ref (b 0))]) (by decide) rfl (Nat.le_of_ble_eq_true rfl) rfl (fun X G hE => ?_)
  have hin := in_X6_fault_X6
  refine z_aload_n G dX6_fault_0 0 rfl ?_
  refine z_dVi (As := []) G _ _ (fun l => c_X6_faultOf l D y b s q hlen h80) k_X6_faultOf gX6_fault_X6_faultOf 0 6 rfl rfl rfl dX6_fault_1 ⟨by decide, by decide⟩ ⟨rfl, rfl⟩ ⟨Nat.zero_le _, Nat.zero_le _⟩ rfl (Nat.le_of_ble_eq_true rfl) rfl ?_
  refine z_istore_nA G dX6_fault_4 rfl (by decide) rfl ?_
  refine z_iload_n G dX6_fault_5 1 rfl ?_
  refine z_if_ge G dX6_fault_6 14 (by decide) (fun c6 => ?_) (fun c6 => ?_)
  · refine z_iload_n G dX6_fault_14 1 rfl ?_
    exact hE _ _ _ _ dX6_fault_15 rfl ⟨(by rw [faR0, if_neg (Int32.not_lt.mpr c6)]), rfl⟩
  · refine z_bipush (v := (-6)) G dX6_fault_9 rfl ?_
    refine z_goto (tgt := 15) G dX6_fault_11 (by decide) ?_
    exact hE _ _ _ _ dX6_fault_15 rfl ⟨(by rw [faR0, if_pos (Int32.not_le.mp c6)]), rfl⟩
