theorem k_X6_isSign : zCal yX6_isSign wsX6_isSign cX6_isSign 3 (some .boolean) 2 := ⟨⟨_, rfl⟩, by decide +kernel⟩
theorem in_X6_isSign_X6 : ∀ w ∈ wsX60, w ∈ wsX6_isSign := fun _ h => List.mem_cons_of_mem _ (List.mem_append_right _ h)
set_option maxHeartbeats 4000000 in
set_option maxRecDepth 100000 in
theorem c_X6_isSign (l : Launch) (D : va_G) (y : Nat → ClassId) (b : Nat → Nat) (s : Nat → Int32) (q : mdQ) {len a k : Nat} (R : Nat → Int32) (hlen : q_length q = nI len) (h80 : len ≤ 80) (ha : a ≤ len) (lo hi : Int32) : zDi l D y yX6_isSign wsX6_isSign ({ frames := 0, cells := 0, slots := 0, locals := 0 }) [.ref (b 0), .int (lo), .int (hi)] (mdW y b s (pq q a k R)) (bI (sgB (q_pad q) len a lo hi)) (mdW y b s (pq q a k R)) := by
  refine zMi.mk (cc := cX6_isSign) (maxL := 3) (lv := [(0, .ref (b 0)), (1, .int (lo)), (2, .int (hi))]) (by decide) rfl (Nat.le_of_ble_eq_true rfl) rfl (fun X G hE => ?_)
  have hin := in_X6_isSign_X6
  refine z_aload_n G dX6_isSign_0 0 rfl ?_
  refine mg_at G hin (List.mem_of_getElem? (i := 1) rfl) dX6_isSign_1 ?_
  refine z_top (w := .int (nI (a))) rfl ?_
  refine z_aload_n G dX6_isSign_4 0 rfl ?_
  refine mg_length G hin (List.mem_of_getElem? (i := 2) rfl) dX6_isSign_5 ?_
  refine z_top (w := .int (nI (len))) (congrArg Value.int hlen) ?_
  refine z_icmp_ge G dX6_isSign_8 41 (by decide) (fun c8 => ?_) (fun c8 => ?_)
  · refine z_iconst (v := nI 0) G dX6_isSign_41 rfl ?_
    exact hE _ _ _ _ dX6_isSign_42 rfl ⟨bI_f (sgB_1 (fun z => absurd ((nI_leI (by omega) (by omega)).mp c8) (Nat.not_le.mpr z))), rfl⟩
  · have la : a < len := Nat.not_le.mp (fun z => c8 (nI_le z (by omega)))
    refine z_aload_n G dX6_isSign_11 0 rfl ?_
    refine mg_pad G hin (List.mem_of_getElem? (i := 3) rfl) dX6_isSign_12 ?_
    refine z_aload_n G dX6_isSign_15 0 rfl ?_
    refine mg_at G hin (List.mem_of_getElem? (i := 1) rfl) dX6_isSign_16 ?_
    refine z_top (w := .int (nI (a))) rfl ?_
    refine ml_pad G (by omega) dX6_isSign_19 ?_
    refine z_iload_n G dX6_isSign_20 1 rfl ?_
    refine z_icmp_lt G dX6_isSign_21 41 (by decide) (fun c21 => ?_) (fun c21 => ?_)
    · have n21 : (q_pad q) a < lo := c21
      refine z_iconst (v := nI 0) G dX6_isSign_41 rfl ?_
      exact hE _ _ _ _ dX6_isSign_42 rfl ⟨bI_f (sgB_2 n21), rfl⟩
    · have n21 : lo ≤ (q_pad q) a := Int32.not_lt.mp c21
      refine z_aload_n G dX6_isSign_24 0 rfl ?_
      refine mg_pad G hin (List.mem_of_getElem? (i := 3) rfl) dX6_isSign_25 ?_
      refine z_aload_n G dX6_isSign_28 0 rfl ?_
      refine mg_at G hin (List.mem_of_getElem? (i := 1) rfl) dX6_isSign_29 ?_
      refine z_top (w := .int (nI (a))) rfl ?_
      refine ml_pad G (by omega) dX6_isSign_32 ?_
      refine z_iload_n G dX6_isSign_33 2 rfl ?_
      refine z_icmp_gt G dX6_isSign_34 41 (by decide) (fun c34 => ?_) (fun c34 => ?_)
      · have n34 : hi < (q_pad q) a := Int32.not_le.mp (fun z => absurd z (Int32.not_le.mpr c34))
        refine z_iconst (v := nI 0) G dX6_isSign_41 rfl ?_
        exact hE _ _ _ _ dX6_isSign_42 rfl ⟨bI_f (sgB_3 n34), rfl⟩
      · have n34 : (q_pad q) a ≤ hi := Int32.not_lt.mp c34
        refine z_iconst (v := nI 1) G dX6_isSign_37 rfl ?_
        refine z_goto (tgt := 42) G dX6_isSign_38 (by decide) ?_
        exact hE _ _ _ _ dX6_isSign_42 rfl ⟨bI_t (sgB_T la n21 n34), rfl⟩

theorem k_X6_accepts : zCal yX6_accepts wsX6_accepts cX6_accepts 3 (some .boolean) 1 := ⟨⟨_, rfl⟩, by decide +kernel⟩
theorem in_X6_accepts_X6 : ∀ w ∈ wsX60, w ∈ wsX6_accepts := fun _ h => List.mem_cons_of_mem _ (List.mem_append_right _ h)
set_option maxHeartbeats 4000000 in
set_option maxRecDepth 100000 in
theorem c_X6_accepts (l : Launch) (D : va_G) (y : Nat → ClassId) (b : Nat → Nat) (s : Nat → Int32) (q : mdQ) {len a k : Nat} (R : Nat → Int32) (hlen : q_length q = nI len) (h80 : len ≤ 80) (ha : a ≤ len) (c : Nat) : zDi l D y yX6_accepts wsX6_accepts ({ frames := 1, cells := 0, slots := 0, locals := 22 }) [.ref (b 0), .int (nI (c))] (mdW y b s (pq q a k R)) (bI (cB (q_pad q) len a c)) (mdW y b s (pq q (accN (cB (q_pad q) len a c) a) k R)) := by
  refine zMi.mk (cc := cX6_accepts) (maxL := 3) (lv := [(0, .ref (b 0)), (1, .int (nI (c)))]) (by decide) rfl (Nat.le_of_ble_eq_true rfl) rfl (fun X G hE => ?_)
  have hin := in_X6_accepts_X6
  refine z_aload_n G dX6_accepts_0 0 rfl ?_
  refine z_iload_n G dX6_accepts_1 1 rfl ?_
  refine z_iload_n G dX6_accepts_2 1 rfl ?_
  refine z_dVi (As := [_, _]) G _ _ (fun l => c_X6_isSign l D y b s q (a := a) (k := k) R hlen h80 ha _ _) k_X6_isSign gX6_accepts_X6_isSign 0 6 rfl rfl rfl dX6_accepts_3 ⟨by decide, by decide⟩ ⟨rfl, rfl⟩ ⟨Nat.zero_le _, Nat.zero_le _⟩ rfl (Nat.le_of_ble_eq_true rfl) rfl ?_
  refine z_istore_nA G dX6_accepts_6 rfl (by decide) rfl ?_
  refine z_aload_n G dX6_accepts_7 0 rfl ?_
  refine z_dup G dX6_accepts_8 rfl ?_
  refine mg_at G hin (List.mem_of_getElem? (i := 1) rfl) dX6_accepts_9 ?_
  refine z_top (w := .int (nI (a))) rfl ?_
  refine z_iload_n G dX6_accepts_12 2 rfl ?_
  refine z_if_eq G dX6_accepts_13 20 (by decide) (fun c13 => ?_) (fun c13 => ?_)
  · refine z_iconst (v := nI 0) G dX6_accepts_20 rfl ?_
    refine z_iaddN G dX6_accepts_21 (a) (by omega) ?_
    refine z_top (w := .int (nI (accN (cB (q_pad q) len a c) a))) (congrArg Value.int (congrArg nI (accN_F (show cB (q_pad q) len a c = false from bI_0 c13)).symm)) ?_
    refine mp_at G hin (List.mem_of_getElem? (i := 1) rfl) dX6_accepts_22 ?_
    refine z_iload_n G dX6_accepts_25 2 rfl ?_
    exact hE _ _ _ _ dX6_accepts_26 (bI_nar _) ⟨rfl, rfl⟩
  · refine z_iconst (v := nI 1) G dX6_accepts_16 rfl ?_
    refine z_goto (tgt := 21) G dX6_accepts_17 (by decide) ?_
    refine z_iaddN G dX6_accepts_21 (a + 1) (by omega) ?_
    refine z_top (w := .int (nI (accN (cB (q_pad q) len a c) a))) (congrArg Value.int (congrArg nI (accN_T (show cB (q_pad q) len a c = true from bI_n c13)).symm)) ?_
    refine mp_at G hin (List.mem_of_getElem? (i := 1) rfl) dX6_accepts_22 ?_
    refine z_iload_n G dX6_accepts_25 2 rfl ?_
    exact hE _ _ _ _ dX6_accepts_26 (bI_nar _) ⟨rfl, rfl⟩

theorem k_X6_digit : zCal yX6_digit wsX6_digit cX6_digit 3 (some .boolean) 1 := ⟨⟨_, rfl⟩, by decide +kernel⟩
theorem in_X6_digit_X6 : ∀ w ∈ wsX60, w ∈ wsX6_digit := fun _ h => List.mem_cons_of_mem _ (List.mem_append_right _ h)
set_option maxHeartbeats 4000000 in
set_option maxRecDepth 100000 in
theorem c_X6_digit (l : Launch) (D : va_G) (y : Nat → ClassId) (b : Nat → Nat) (s : Nat → Int32) (q : mdQ) {len a k : Nat} (R : Nat → Int32) (hlen : q_length q = nI len) (h80 : len ≤ 80) (ha : a ≤ len) (p : Nat) (hp : 3 * k + p < 123) : zDi l D y yX6_digit wsX6_digit ({ frames := 1, cells := 0, slots := 0, locals := 22 }) [.ref (b 0), .int (nI (p))] (mdW y b s (pq q a k R)) (bI (dB (q_pad q) len a)) (mdW y b s (pq q (accN (dB (q_pad q) len a) a) k (upd R (3 * k + p) (dgV (q_pad q) len a)))) := by
  refine zMi.mk (cc := cX6_digit) (maxL := 3) (lv := [(0, .ref (b 0)), (1, .int (nI (p)))]) (by decide) rfl (Nat.le_of_ble_eq_true rfl) rfl (fun X G hE => ?_)
  have hin := in_X6_digit_X6
  refine z_aload_n G dX6_digit_0 0 rfl ?_
  refine z_bipush (v := nI 48) G dX6_digit_1 rfl ?_
  refine z_bipush (v := nI 57) G dX6_digit_3 rfl ?_
  refine z_dVi (As := [_, _]) G _ _ (fun l => c_X6_isSign l D y b s q (a := a) (k := k) R hlen h80 ha _ _) k_X6_isSign gX6_digit_X6_isSign 0 6 rfl rfl rfl dX6_digit_5 ⟨by decide, by decide⟩ ⟨rfl, rfl⟩ ⟨Nat.zero_le _, Nat.zero_le _⟩ rfl (Nat.le_of_ble_eq_true rfl) rfl ?_
  refine z_istore_nA G dX6_digit_8 rfl (by decide) rfl ?_
  refine z_aload_n G dX6_digit_9 0 rfl ?_
  refine mg_read G hin (List.mem_of_getElem? (i := 1) rfl) dX6_digit_10 ?_
  refine z_iconst (v := nI 3) G dX6_digit_13 rfl ?_
  refine z_aload_n G dX6_digit_14 0 rfl ?_
  refine mg_orders G hin (List.mem_of_getElem? (i := 2) rfl) dX6_digit_15 ?_
  refine z_top (w := .int (nI (k))) rfl ?_
  refine z_imulN G dX6_digit_18 (3 * k) (by omega) ?_
  refine z_iload_n G dX6_digit_19 1 rfl ?_
  refine z_iaddN G dX6_digit_20 (3 * k + p) (by omega) ?_
  refine z_iload_n G dX6_digit_21 2 rfl ?_
  refine z_if_eq G dX6_digit_22 40 (by decide) (fun c22 => ?_) (fun c22 => ?_)
  · refine z_iconst (v := nI 0) G dX6_digit_40 rfl ?_
    refine z_top (w := .int (dgV (q_pad q) len a)) (congrArg Value.int (dgV_F (show dB (q_pad q) len a = false from bI_0 c22)).symm) ?_
    refine ms_read G (by omega) dX6_digit_41 ?_
    refine z_aload_n G dX6_digit_42 0 rfl ?_
    refine z_dup G dX6_digit_43 rfl ?_
    refine mg_at G hin (List.mem_of_getElem? (i := 4) rfl) dX6_digit_44 ?_
    refine z_top (w := .int (nI (a))) rfl ?_
    refine z_iload_n G dX6_digit_47 2 rfl ?_
    refine z_if_eq G dX6_digit_48 55 (by decide) (fun c48 => ?_) (fun c48 => ?_)
    · refine z_iconst (v := nI 0) G dX6_digit_55 rfl ?_
      refine z_iaddN G dX6_digit_56 (a) (by omega) ?_
      refine z_top (w := .int (nI (accN (dB (q_pad q) len a) a))) (congrArg Value.int (congrArg nI (accN_F (show dB (q_pad q) len a = false from bI_0 c48)).symm)) ?_
      refine mp_at G hin (List.mem_of_getElem? (i := 4) rfl) dX6_digit_57 ?_
      refine z_iload_n G dX6_digit_60 2 rfl ?_
      exact hE _ _ _ _ dX6_digit_61 (bI_nar _) ⟨rfl, rfl⟩
    · refine z_iconst (v := nI 1) G dX6_digit_51 rfl ?_
      refine z_goto (tgt := 56) G dX6_digit_52 (by decide) ?_
      refine z_iaddN G dX6_digit_56 (a + 1) (by omega) ?_
      refine z_top (w := .int (nI (accN (dB (q_pad q) len a) a))) (congrArg Value.int (congrArg nI (accN_T (show dB (q_pad q) len a = true from bI_n c48)).symm)) ?_
      refine mp_at G hin (List.mem_of_getElem? (i := 4) rfl) dX6_digit_57 ?_
      refine z_iload_n G dX6_digit_60 2 rfl ?_
      exact hE _ _ _ _ dX6_digit_61 (bI_nar _) ⟨rfl, rfl⟩
  · have la : a < len := sgB_lt (bI_n c22)
    refine z_aload_n G dX6_digit_25 0 rfl ?_
    refine mg_pad G hin (List.mem_of_getElem? (i := 3) rfl) dX6_digit_26 ?_
    refine z_aload_n G dX6_digit_29 0 rfl ?_
    refine mg_at G hin (List.mem_of_getElem? (i := 4) rfl) dX6_digit_30 ?_
    refine z_top (w := .int (nI (a))) rfl ?_
    refine ml_pad G (by omega) dX6_digit_33 ?_
    refine z_bipush (v := nI 48) G dX6_digit_34 rfl ?_
    refine z_isub G dX6_digit_36 ?_
    refine z_goto (tgt := 41) G dX6_digit_37 (by decide) ?_
    refine z_top (w := .int (dgV (q_pad q) len a)) (congrArg Value.int (dgV_T (show dB (q_pad q) len a = true from bI_n c22)).symm) ?_
    refine ms_read G (by omega) dX6_digit_41 ?_
    refine z_aload_n G dX6_digit_42 0 rfl ?_
    refine z_dup G dX6_digit_43 rfl ?_
    refine mg_at G hin (List.mem_of_getElem? (i := 4) rfl) dX6_digit_44 ?_
    refine z_top (w := .int (nI (a))) rfl ?_
    refine z_iload_n G dX6_digit_47 2 rfl ?_
    refine z_if_eq G dX6_digit_48 55 (by decide) (fun c48 => ?_) (fun c48 => ?_)
    · refine z_iconst (v := nI 0) G dX6_digit_55 rfl ?_
      refine z_iaddN G dX6_digit_56 (a) (by omega) ?_
      refine z_top (w := .int (nI (accN (dB (q_pad q) len a) a))) (congrArg Value.int (congrArg nI (accN_F (show dB (q_pad q) len a = false from bI_0 c48)).symm)) ?_
      refine mp_at G hin (List.mem_of_getElem? (i := 4) rfl) dX6_digit_57 ?_
      refine z_iload_n G dX6_digit_60 2 rfl ?_
      exact hE _ _ _ _ dX6_digit_61 (bI_nar _) ⟨rfl, rfl⟩
    · refine z_iconst (v := nI 1) G dX6_digit_51 rfl ?_
      refine z_goto (tgt := 56) G dX6_digit_52 (by decide) ?_
      refine z_iaddN G dX6_digit_56 (a + 1) (by omega) ?_
      refine z_top (w := .int (nI (accN (dB (q_pad q) len a) a))) (congrArg Value.int (congrArg nI (accN_T (show dB (q_pad q) len a = true from bI_n c48)).symm)) ?_
      refine mp_at G hin (List.mem_of_getElem? (i := 4) rfl) dX6_digit_57 ?_
      refine z_iload_n G dX6_digit_60 2 rfl ?_
      exact hE _ _ _ _ dX6_digit_61 (bI_nar _) ⟨rfl, rfl⟩

theorem k_X6_number : zCal yX6_number wsX6_number cX6_number 3 (some .boolean) 0 := ⟨⟨_, rfl⟩, by decide +kernel⟩
theorem in_X6_number_X6 : ∀ w ∈ wsX60, w ∈ wsX6_number := fun _ h => List.mem_cons_of_mem _ (List.mem_append_right _ h)
set_option maxHeartbeats 4000000 in
set_option maxRecDepth 100000 in
theorem c_X6_number (l : Launch) (D : va_G) (y : Nat → ClassId) (b : Nat → Nat) (s : Nat → Int32) (q : mdQ) {len a k : Nat} (R : Nat → Int32) (hlen : q_length q = nI len) (h80 : len ≤ 80) (ha : a ≤ len) (hk : 3 * k + 1 < 123) : zDi l D y yX6_number wsX6_number ({ frames := 2, cells := 0, slots := 0, locals := 44 }) [.ref (b 0)] (mdW y b s (pq q a k R)) (bI (dB (q_pad q) len a)) (mdW y b s (pq q (nuA (q_pad q) len a) k (upd R (3 * k + 1) (nuV (q_pad q) len a)))) := by
  refine zMi.mk (cc := cX6_number) (maxL := 3) (lv := [(0, .ref (b 0))]) (by decide) rfl (Nat.le_of_ble_eq_true rfl) rfl (fun X G hE => ?_)
  have hin := in_X6_number_X6
  refine z_aload_n G dX6_number_0 0 rfl ?_
  refine z_iconst (v := nI 1) G dX6_number_1 rfl ?_
  refine z_dVi (As := [_]) G _ _ (fun l => c_X6_digit l D y b s q R hlen h80 ha 1 hk) k_X6_digit gX6_number_X6_digit 0 6 rfl rfl rfl dX6_number_2 ⟨by decide, by decide⟩ ⟨rfl, rfl⟩ ⟨Nat.zero_le _, Nat.zero_le _⟩ rfl (Nat.le_of_ble_eq_true rfl) rfl ?_
  refine z_istore_nA G dX6_number_5 rfl (by decide) rfl ?_
  refine z_iconst (v := nI 3) G dX6_number_6 rfl ?_
  refine z_aload_n G dX6_number_7 0 rfl ?_
  refine mg_orders G hin (List.mem_of_getElem? (i := 1) rfl) dX6_number_8 ?_
  refine z_top (w := .int (nI (k))) rfl ?_
  refine z_imulN G dX6_number_11 (3 * k) (by omega) ?_
  refine z_iconst (v := nI 1) G dX6_number_12 rfl ?_
  refine z_iaddN G dX6_number_13 (1 + 3 * k) (by omega) ?_
  refine z_istore_nA G dX6_number_14 rfl (by decide) rfl ?_
  refine z_iload_n G dX6_number_15 1 rfl ?_
  refine z_if_eq G dX6_number_16 77 (by decide) (fun c16 => ?_) (fun c16 => ?_)
  · have n16 : dB (q_pad q) len a = false := bI_0 c16
    refine z_iload_n G dX6_number_77 1 rfl ?_
    exact hE _ _ _ _ dX6_number_78 (bI_nar _) ⟨rfl, congrArg (mdW y b s) (pq_nuF (nu2_0 n16))⟩
  · have n16 : dB (q_pad q) len a = true := bI_n c16
    have la : a < len := sgB_lt n16
    have ea : (accN (dB (q_pad q) len a) a) = a + 1 := accN_T n16
    refine z_aload_n G dX6_number_19 0 rfl ?_
    refine mg_read G hin (List.mem_of_getElem? (i := 2) rfl) dX6_number_20 ?_
    refine z_iload_n G dX6_number_23 2 rfl ?_
    refine ml_read G (by omega) dX6_number_24 ?_
    refine z_if_le G dX6_number_25 77 (by decide) (fun c25 => ?_) (fun c25 => ?_)
    · have n25 : dgV (q_pad q) len a ≤ 0 := by
        rw [show (q_read (pq q (accN (dB (q_pad q) len a) a) k (upd R (3 * k + 1) (dgV (q_pad q) len a)))) (1 + 3 * k) = dgV (q_pad q) len a from (congrArg _ (Nat.add_comm 1 (3 * k))).trans upd_at] at c25
        exact c25
      refine z_iload_n G dX6_number_77 1 rfl ?_
      exact hE _ _ _ _ dX6_number_78 (bI_nar _) ⟨rfl, congrArg (mdW y b s) (pq_nuF (nu2_1 n25))⟩
    · have n25 : 0 < dgV (q_pad q) len a := by
        rw [show (q_read (pq q (accN (dB (q_pad q) len a) a) k (upd R (3 * k + 1) (dgV (q_pad q) len a)))) (1 + 3 * k) = dgV (q_pad q) len a from (congrArg _ (Nat.add_comm 1 (3 * k))).trans upd_at] at c25
        exact Int32.not_le.mp c25
      rw [ea]
      refine z_aload_n G dX6_number_28 0 rfl ?_
      refine z_bipush (v := nI 48) G dX6_number_29 rfl ?_
      refine z_bipush (v := nI 57) G dX6_number_31 rfl ?_
      refine z_dVi (As := [_, _]) G _ _ (fun l => c_X6_isSign l D y b s q (a := a + 1) (k := k) (upd R (3 * k + 1) (dgV (q_pad q) len a)) hlen h80 la (nI 48) (nI 57)) k_X6_isSign gX6_number_X6_isSign 0 6 rfl rfl rfl dX6_number_33 ⟨by decide, by decide⟩ ⟨rfl, rfl⟩ ⟨Nat.zero_le _, Nat.zero_le _⟩ rfl (Nat.le_of_ble_eq_true rfl) rfl ?_
      refine z_if_eq G dX6_number_36 77 (by decide) (fun c36 => ?_) (fun c36 => ?_)
      · have n36 : dB (q_pad q) len (a + 1) = false := bI_0 c36
        refine z_iload_n G dX6_number_77 1 rfl ?_
        exact hE _ _ _ _ dX6_number_78 (bI_nar _) ⟨rfl, congrArg (mdW y b s) (pq_nuF2 n16 (nu2_2 n36))⟩
      · have n36 : dB (q_pad q) len (a + 1) = true := bI_n c36
        have la2 : a + 1 < len := sgB_lt n36
        refine z_aload_n G dX6_number_39 0 rfl ?_
        refine mg_read G hin (List.mem_of_getElem? (i := 2) rfl) dX6_number_40 ?_
        refine z_iload_n G dX6_number_43 2 rfl ?_
        refine z_bipush (v := nI 10) G dX6_number_44 rfl ?_
        refine z_aload_n G dX6_number_46 0 rfl ?_
        refine mg_read G hin (List.mem_of_getElem? (i := 2) rfl) dX6_number_47 ?_
        refine z_iload_n G dX6_number_50 2 rfl ?_
        refine ml_read G (by omega) dX6_number_51 ?_
        refine z_imul G dX6_number_52 ?_
        refine z_aload_n G dX6_number_53 0 rfl ?_
        refine mg_pad G hin (List.mem_of_getElem? (i := 3) rfl) dX6_number_54 ?_
        refine z_aload_n G dX6_number_57 0 rfl ?_
        refine mg_at G hin (List.mem_of_getElem? (i := 4) rfl) dX6_number_58 ?_
        refine z_top (w := .int (nI (a + 1))) rfl ?_
        refine ml_pad G (by omega) dX6_number_61 ?_
        refine z_iadd G dX6_number_62 ?_
        refine z_bipush (v := nI 48) G dX6_number_63 rfl ?_
        refine z_isub G dX6_number_65 ?_
        refine ms_read G (by omega) dX6_number_66 ?_
        refine z_aload_n G dX6_number_67 0 rfl ?_
        refine z_dup G dX6_number_68 rfl ?_
        refine mg_at G hin (List.mem_of_getElem? (i := 4) rfl) dX6_number_69 ?_
        refine z_top (w := .int (nI (a + 1))) rfl ?_
        refine z_iconst (v := nI 1) G dX6_number_72 rfl ?_
        refine z_iaddN G dX6_number_73 (a + 2) (by omega) ?_
        refine mp_at G hin (List.mem_of_getElem? (i := 4) rfl) dX6_number_74 ?_
        refine z_iload_n G dX6_number_77 1 rfl ?_
        exact hE _ _ _ _ dX6_number_78 (bI_nar _) ⟨rfl, congrArg (mdW y b s) (pq_nuT (nu2_T n16 n25 n36))⟩
