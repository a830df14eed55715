theorem k_X6_pair : zCal yX6_pair wsX6_pair cX6_pair 3 (some .int) 2 := ⟨⟨_, rfl⟩, by decide +kernel⟩
theorem in_X6_pair_X6 : ∀ w ∈ wsX60, w ∈ wsX6_pair := fun _ h => List.mem_cons_of_mem _ (List.mem_append_right _ h)
set_option maxHeartbeats 4000000 in
set_option maxRecDepth 100000 in
theorem c_X6_pair (l : Launch) (D : va_G) (y : Nat → ClassId) (b : Nat → Nat) (s : Nat → Int32) (q : mdQ) (x z : Int32) : zDi l D y yX6_pair wsX6_pair ({ frames := 2, cells := 0, slots := 0, locals := 43 }) [.ref (b 0), .int (x), .int (z)] (mdW y b s q) (pairE s x z) (mdW y b s q) := by
  refine zMi.mk (cc := cX6_pair) (maxL := 3) (lv := [(0, .ref (b 0)), (1, .int (x)), (2, .int (z))]) (by decide) rfl (Nat.le_of_ble_eq_true rfl) rfl (fun X G hE => ?_)
  have hin := in_X6_pair_X6
  refine z_aload_n G dX6_pair_0 0 rfl ?_
  refine z_iload_n G dX6_pair_1 1 rfl ?_
  refine z_dVi (As := [_]) G _ _ (fun l => c_X6_isGuest l D y b s q x) k_X6_isGuest gX6_pair_X6_isGuest 0 6 rfl rfl rfl dX6_pair_2 ⟨by decide, by decide⟩ ⟨rfl, rfl⟩ ⟨Nat.zero_le _, Nat.zero_le _⟩ rfl (Nat.le_of_ble_eq_true rfl) rfl ?_
  refine z_if_eq G dX6_pair_5 16 (by decide) (fun c5 => ?_) (fun c5 => ?_)
  · refine z_iconst (v := (-1)) G dX6_pair_16 rfl ?_
    refine z_goto (tgt := 31) G dX6_pair_17 (by decide) ?_
    exact hE _ _ _ _ dX6_pair_31 rfl ⟨by first | rw [pairE, if_pos ⟨bI_n c5, bI_n c13⟩, if_pos c22] | rw [pairE, if_pos ⟨bI_n c5, bI_n c13⟩, if_neg c22] | rw [pairE, if_neg (fun q => by rw [bI_0 c5] at q; cases q.1)] | rw [pairE, if_neg (fun q => by rw [bI_0 c13] at q; cases q.2)], rfl⟩
  · refine z_aload_n G dX6_pair_8 0 rfl ?_
    refine z_iload_n G dX6_pair_9 2 rfl ?_
    refine z_dVi (As := [_]) G _ _ (fun l => c_X6_isGuest l D y b s q z) k_X6_isGuest gX6_pair_X6_isGuest 0 6 rfl rfl rfl dX6_pair_10 ⟨by decide, by decide⟩ ⟨rfl, rfl⟩ ⟨Nat.zero_le _, Nat.zero_le _⟩ rfl (Nat.le_of_ble_eq_true rfl) rfl ?_
    refine z_if_ne G dX6_pair_13 20 (by decide) (fun c13 => ?_) (fun c13 => ?_)
    · refine z_iload_n G dX6_pair_20 1 rfl ?_
      refine z_iload_n G dX6_pair_21 2 rfl ?_
      refine z_icmp_ne G dX6_pair_22 30 (by decide) (fun c22 => ?_) (fun c22 => ?_)
      · refine z_iconst (v := nI 0) G dX6_pair_30 rfl ?_
        exact hE _ _ _ _ dX6_pair_31 rfl ⟨by first | rw [pairE, if_pos ⟨bI_n c5, bI_n c13⟩, if_pos c22] | rw [pairE, if_pos ⟨bI_n c5, bI_n c13⟩, if_neg c22] | rw [pairE, if_neg (fun q => by rw [bI_0 c5] at q; cases q.1)] | rw [pairE, if_neg (fun q => by rw [bI_0 c13] at q; cases q.2)], rfl⟩
      · refine z_bipush (v := (-2)) G dX6_pair_25 rfl ?_
        refine z_goto (tgt := 31) G dX6_pair_27 (by decide) ?_
        exact hE _ _ _ _ dX6_pair_31 rfl ⟨by first | rw [pairE, if_pos ⟨bI_n c5, bI_n c13⟩, if_pos c22] | rw [pairE, if_pos ⟨bI_n c5, bI_n c13⟩, if_neg c22] | rw [pairE, if_neg (fun q => by rw [bI_0 c5] at q; cases q.1)] | rw [pairE, if_neg (fun q => by rw [bI_0 c13] at q; cases q.2)], rfl⟩
    · refine z_iconst (v := (-1)) G dX6_pair_16 rfl ?_
      refine z_goto (tgt := 31) G dX6_pair_17 (by decide) ?_
      exact hE _ _ _ _ dX6_pair_31 rfl ⟨by first | rw [pairE, if_pos ⟨bI_n c5, bI_n c13⟩, if_pos c22] | rw [pairE, if_pos ⟨bI_n c5, bI_n c13⟩, if_neg c22] | rw [pairE, if_neg (fun q => by rw [bI_0 c5] at q; cases q.1)] | rw [pairE, if_neg (fun q => by rw [bI_0 c13] at q; cases q.2)], rfl⟩

theorem k_X6_says : zCal yX6_says wsX6_says cX6_says 3 (some .int) 1 := ⟨⟨_, rfl⟩, by decide +kernel⟩
theorem in_X6_says_X6 : ∀ w ∈ wsX60, w ∈ wsX6_says := fun _ h => List.mem_cons_of_mem _ (List.mem_append_right _ h)
set_option maxHeartbeats 4000000 in
set_option maxRecDepth 100000 in
theorem c_X6_says (l : Launch) (D : va_G) (y : Nat → ClassId) (b : Nat → Nat) (s : Nat → Int32) (q : mdQ) (x : Int32) : zDi l D y yX6_says wsX6_says ({ frames := 2, cells := 0, slots := 0, locals := 43 }) [.ref (b 0), .int (x)] (mdW y b s q) ((woR s x).1) (mdW y b (woR s x).2 q) := by
  refine zMi.mk (cc := cX6_says) (maxL := 3) (lv := [(0, .ref (b 0)), (1, .int (x))]) (by decide) rfl (Nat.le_of_ble_eq_true rfl) rfl (fun X G hE => ?_)
  have hin := in_X6_says_X6
  refine z_aload_n G dX6_says_0 0 rfl ?_
  refine z_iload_n G dX6_says_1 1 rfl ?_
  refine z_dVi (As := [_]) G _ _ (fun l => c_X6_isGuest l D y b s q x) k_X6_isGuest gX6_says_X6_isGuest 0 6 rfl rfl rfl dX6_says_2 ⟨by decide, by decide⟩ ⟨rfl, rfl⟩ ⟨Nat.zero_le _, Nat.zero_le _⟩ rfl (Nat.le_of_ble_eq_true rfl) rfl ?_
  refine z_if_ne G dX6_says_5 10 (by decide) (fun c5 => ?_) (fun c5 => ?_)
  · obtain ⟨g, hg, rfl, sg⟩ := hx_t (bI_n c5)
    refine z_aload_n G dX6_says_10 0 rfl ?_
    refine mg_s G hin (List.mem_of_getElem? (i := 1) rfl) dX6_says_11 ?_
    refine z_iload_n G dX6_says_14 1 rfl ?_
    refine z_pSi (As := [_]) G _ _ _ (fun l => c_X6_g l D y (g)) k_X6_g gX6_says_X6_g dX6_says_15 ⟨by decide, by decide⟩ ⟨rfl, rfl⟩ ⟨Nat.zero_le _, Nat.zero_le _⟩ rfl (Nat.le_of_ble_eq_true rfl) rfl (List.Perm.refl _) (List.Perm.refl _) ?_
    refine z_iconst (v := nI 3) G dX6_says_18 rfl ?_
    refine z_iaddN G dX6_says_19 (16 + 17 * g) (by omega) ?_
    refine ml_s G (by omega) dX6_says_20 ?_
    refine z_istore_nA G dX6_says_21 rfl (by decide) rfl ?_
    refine z_aload_n G dX6_says_22 0 rfl ?_
    refine mg_s G hin (List.mem_of_getElem? (i := 1) rfl) dX6_says_23 ?_
    refine z_iload_n G dX6_says_26 1 rfl ?_
    refine z_pSi (As := [_]) G _ _ _ (fun l => c_X6_g l D y (g)) k_X6_g gX6_says_X6_g dX6_says_27 ⟨by decide, by decide⟩ ⟨rfl, rfl⟩ ⟨Nat.zero_le _, Nat.zero_le _⟩ rfl (Nat.le_of_ble_eq_true rfl) rfl (List.Perm.refl _) (List.Perm.refl _) ?_
    refine z_iconst (v := nI 3) G dX6_says_30 rfl ?_
    refine z_iaddN G dX6_says_31 (16 + 17 * g) (by omega) ?_
    refine z_iconst (v := nI 0) G dX6_says_32 rfl ?_
    refine ms_s G (by omega) dX6_says_33 ?_
    refine z_aload_n G dX6_says_34 0 rfl ?_
    refine mg_s G hin (List.mem_of_getElem? (i := 1) rfl) dX6_says_35 ?_
    refine z_iload_n G dX6_says_38 1 rfl ?_
    refine z_pSi (As := [_]) G _ _ _ (fun l => c_X6_g l D y (g)) k_X6_g gX6_says_X6_g dX6_says_39 ⟨by decide, by decide⟩ ⟨rfl, rfl⟩ ⟨Nat.zero_le _, Nat.zero_le _⟩ rfl (Nat.le_of_ble_eq_true rfl) rfl (List.Perm.refl _) (List.Perm.refl _) ?_
    refine z_bipush (v := nI 6) G dX6_says_42 rfl ?_
    refine z_iaddN G dX6_says_44 (19 + 17 * g) (by omega) ?_
    refine z_dup2 G dX6_says_45 rfl rfl ?_
    refine ml_s G (by omega) dX6_says_46 ?_
    refine z_iconst (v := nI 1) G dX6_says_47 rfl ?_
    refine z_iadd G dX6_says_48 ?_
    refine ms_s G (by omega) dX6_says_49 ?_
    refine z_aload_n G dX6_says_50 0 rfl ?_
    refine mg_s G hin (List.mem_of_getElem? (i := 1) rfl) dX6_says_51 ?_
    refine z_bipush (v := nI 11) G dX6_says_54 rfl ?_
    refine z_dup2 G dX6_says_56 rfl rfl ?_
    refine ml_s G (by omega) dX6_says_57 ?_
    refine z_iconst (v := nI 1) G dX6_says_58 rfl ?_
    refine z_iadd G dX6_says_59 ?_
    refine ms_s G (by omega) dX6_says_60 ?_
    refine z_iload_n G dX6_says_61 2 rfl ?_
    exact hE _ _ _ _ dX6_says_62 rfl (by rw [woR, hx_n hg, if_pos sg, nI_clamp (by omega)]; exact ⟨rfl, rfl⟩)
  · refine z_iconst (v := (-1)) G dX6_says_8 rfl ?_
    exact hE _ _ _ _ dX6_says_9 rfl (by rw [woR, bI_0 c5]; exact ⟨rfl, rfl⟩)

theorem k_X6_bows : zCal yX6_bows wsX6_bows cX6_bows 5 (some .int) 2 := ⟨⟨_, rfl⟩, by decide +kernel⟩
theorem in_X6_bows_X6 : ∀ w ∈ wsX60, w ∈ wsX6_bows := fun _ h => List.mem_cons_of_mem _ (List.mem_append_right _ h)
set_option maxHeartbeats 4000000 in
set_option maxRecDepth 100000 in
theorem c_X6_bows (l : Launch) (D : va_G) (y : Nat → ClassId) (b : Nat → Nat) (s : Nat → Int32) (q : mdQ) (x z : Int32) : zDi l D y yX6_bows wsX6_bows ({ frames := 3, cells := 0, slots := 0, locals := 65 }) [.ref (b 0), .int (x), .int (z)] (mdW y b s q) ((boR s x z).1) (mdW y b (boR s x z).2 q) := by
  refine zMi.mk (cc := cX6_bows) (maxL := 5) (lv := [(0, .ref (b 0)), (1, .int (x)), (2, .int (z))]) (by decide) rfl (Nat.le_of_ble_eq_true rfl) rfl (fun X G hE => ?_)
  have hin := in_X6_bows_X6
  refine z_aload_n G dX6_bows_0 0 rfl ?_
  refine z_iload_n G dX6_bows_1 1 rfl ?_
  refine z_iload_n G dX6_bows_2 2 rfl ?_
  refine z_dVi (As := [_, _]) G _ _ (fun l => c_X6_pair l D y b s q x z) k_X6_pair gX6_bows_X6_pair 0 6 rfl rfl rfl dX6_bows_3 ⟨by decide, by decide⟩ ⟨rfl, rfl⟩ ⟨Nat.zero_le _, Nat.zero_le _⟩ rfl (Nat.le_of_ble_eq_true rfl) rfl ?_
  refine z_istore_nA G dX6_bows_6 rfl (by decide) rfl ?_
  refine z_iload_n G dX6_bows_7 3 rfl ?_
  refine z_if_ge G dX6_bows_8 13 (by decide) (fun c8 => ?_) (fun c8 => ?_)
  · obtain ⟨g, o, hg, ho, hgo, rfl, rfl, sg, so⟩ := pairE_ok c8
    refine z_iload_n G dX6_bows_13 1 rfl ?_
    refine z_pSi (As := [_]) G _ _ _ (fun l => c_X6_g l D y (g)) k_X6_g gX6_bows_X6_g dX6_bows_14 ⟨by decide, by decide⟩ ⟨rfl, rfl⟩ ⟨Nat.zero_le _, Nat.zero_le _⟩ rfl (Nat.le_of_ble_eq_true rfl) rfl (List.Perm.refl _) (List.Perm.refl _) ?_
    refine z_bipush (v := nI 8) G dX6_bows_17 rfl ?_
    refine z_iaddN G dX6_bows_19 (21 + 17 * g) (by omega) ?_
    refine z_iload_n G dX6_bows_20 2 rfl ?_
    refine z_iaddN G dX6_bows_21 (21 + 17 * g + o) (by omega) ?_
    refine z_istoreA G dX6_bows_22 (by decide) rfl ?_
    refine z_aload_n G dX6_bows_24 0 rfl ?_
    refine mg_s G hin (List.mem_of_getElem? (i := 1) rfl) dX6_bows_25 ?_
    refine z_iload G dX6_bows_28 4 rfl ?_
    refine ml_s G (by omega) dX6_bows_30 ?_
    refine z_if_ne G dX6_bows_31 37 (by decide) (fun c31 => ?_) (fun c31 => ?_)
    · refine z_aload_n G dX6_bows_37 0 rfl ?_
      refine mg_s G hin (List.mem_of_getElem? (i := 1) rfl) dX6_bows_38 ?_
      refine z_iload G dX6_bows_41 4 rfl ?_
      refine z_dup2 G dX6_bows_43 rfl rfl ?_
      refine ml_s G (by omega) dX6_bows_44 ?_
      refine z_iconst (v := nI 1) G dX6_bows_45 rfl ?_
      refine z_isub G dX6_bows_46 ?_
      refine ms_s G (by omega) dX6_bows_47 ?_
      refine z_aload_n G dX6_bows_48 0 rfl ?_
      refine mg_s G hin (List.mem_of_getElem? (i := 1) rfl) dX6_bows_49 ?_
      refine z_iload_n G dX6_bows_52 1 rfl ?_
      refine z_pSi (As := [_]) G _ _ _ (fun l => c_X6_g l D y (g)) k_X6_g gX6_bows_X6_g dX6_bows_53 ⟨by decide, by decide⟩ ⟨rfl, rfl⟩ ⟨Nat.zero_le _, Nat.zero_le _⟩ rfl (Nat.le_of_ble_eq_true rfl) rfl (List.Perm.refl _) (List.Perm.refl _) ?_
      refine z_bipush (v := nI 7) G dX6_bows_56 rfl ?_
      refine z_iaddN G dX6_bows_58 (20 + 17 * g) (by omega) ?_
      refine z_dup2 G dX6_bows_59 rfl rfl ?_
      refine ml_s G (by omega) dX6_bows_60 ?_
      refine z_iconst (v := nI 1) G dX6_bows_61 rfl ?_
      refine z_iadd G dX6_bows_62 ?_
      refine ms_s G (by omega) dX6_bows_63 ?_
      refine z_aload_n G dX6_bows_64 0 rfl ?_
      refine mg_s G hin (List.mem_of_getElem? (i := 1) rfl) dX6_bows_65 ?_
      refine z_bipush (v := nI 7) G dX6_bows_68 rfl ?_
      refine z_dup2 G dX6_bows_70 rfl rfl ?_
      refine ml_s G (by omega) dX6_bows_71 ?_
      refine z_iconst (v := nI 1) G dX6_bows_72 rfl ?_
      refine z_iadd G dX6_bows_73 ?_
      refine ms_s G (by omega) dX6_bows_74 ?_
      refine z_aload_n G dX6_bows_75 0 rfl ?_
      refine mg_s G hin (List.mem_of_getElem? (i := 1) rfl) dX6_bows_76 ?_
      refine z_iload G dX6_bows_79 4 rfl ?_
      refine ml_s G (by omega) dX6_bows_81 ?_
      exact hE _ _ _ _ dX6_bows_82 rfl (by rw [boR, if_neg (Int32.not_lt.mpr c8), nI_clamp (show g < 2 ^ 31 by omega), nI_clamp (show o < 2 ^ 31 by omega), if_neg c31, payF, if_neg c31]; exact ⟨by rw [upd_ne (by omega), upd_ne (by omega), upd_at]; rfl, by rw [upd_ne (show 20 + 17 * g ≠ 21 + 17 * g + o by omega), upd_ne (show 7 ≠ 20 + 17 * g by omega), upd_ne (show 7 ≠ 21 + 17 * g + o by omega)]; rfl⟩)
    · refine z_bipush (v := (-5)) G dX6_bows_34 rfl ?_
      exact hE _ _ _ _ dX6_bows_36 rfl (by rw [boR, if_neg (Int32.not_lt.mpr c8), nI_clamp (show g < 2 ^ 31 by omega), nI_clamp (show o < 2 ^ 31 by omega), if_pos c31]; exact ⟨rfl, rfl⟩)
  · refine z_iload_n G dX6_bows_11 3 rfl ?_
    exact hE _ _ _ _ dX6_bows_12 rfl (by rw [boR, if_pos (Int32.not_le.mp c8)]; exact ⟨rfl, rfl⟩)

theorem k_X6_breaths : zCal yX6_breaths wsX6_breaths cX6_breaths 6 (some .int) 1 := ⟨⟨_, rfl⟩, by decide +kernel⟩
theorem in_X6_breaths_X6 : ∀ w ∈ wsX60, w ∈ wsX6_breaths := fun _ h => List.mem_cons_of_mem _ (List.mem_append_right _ h)
set_option maxHeartbeats 4000000 in
set_option maxRecDepth 100000 in
theorem c_X6_breaths (l : Launch) (D : va_G) (y : Nat → ClassId) (b : Nat → Nat) (s : Nat → Int32) (q : mdQ) (hp : PF s) {m : Nat} (hm : m < 2 ^ 31) : zDi l D y yX6_breaths wsX6_breaths ({ frames := 1, cells := 0, slots := 0, locals := 20 }) [.ref (b 0), .int (nI (m))] (mdW y b s q) (nI (brMC s m)) (mdW y b (psF s m) q) := by
  refine zMi.mk (cc := cX6_breaths) (maxL := 6) (lv := [(0, .ref (b 0)), (1, .int (nI (m)))]) (by decide) rfl (Nat.le_of_ble_eq_true rfl) rfl (fun X G hE => ?_)
  have hin := in_X6_breaths_X6
  refine z_iconst (v := nI 0) G dX6_breaths_0 rfl ?_
  refine z_istore_nA G dX6_breaths_1 rfl (by decide) rfl ?_
  refine z_iconst (v := nI 0) G dX6_breaths_2 rfl ?_
  refine z_istore_nA G dX6_breaths_3 rfl (by decide) rfl ?_
  have lk : ∀ nk k : Nat, nk + k = m → zV D X (mdW y b (ps1 s (k)) q) 0 0 4 [(0, .ref (b 0)), (1, .int (nI (m))), (2, .int (nI (brMC s (k)))), (3, .int (nI (k)))] [] := by
    intro nk
    induction nk with
    | zero =>
      intro k hk
      obtain rfl : k = m := by omega
      refine z_iload_n G dX6_breaths_4 3 rfl ?_
      refine z_iload_n G dX6_breaths_5 1 rfl ?_
      refine z_icmp_geT G dX6_breaths_6 140 (by decide) (nI_le (Nat.le_refl _) hm) ?_
      refine z_aload_n G dX6_breaths_140 0 rfl ?_
      refine mg_s G hin (List.mem_of_getElem? (i := 1) rfl) dX6_breaths_141 ?_
      refine z_bipush (v := nI 12) G dX6_breaths_144 rfl ?_
      refine z_dup2 G dX6_breaths_146 rfl rfl ?_
      refine ml_s G (by omega) dX6_breaths_147 ?_
      refine z_iload_n G dX6_breaths_148 2 rfl ?_
      refine z_iadd G dX6_breaths_149 ?_
      refine ms_s G (by omega) dX6_breaths_150 ?_
      refine z_iload_n G dX6_breaths_151 2 rfl ?_
      exact hE _ _ _ _ dX6_breaths_152 rfl ⟨rfl, rfl⟩
    | succ nk ihk =>
      intro k hk
      have lk : k < m := by omega
      have lk1 : k < m := by omega
      refine z_iload_n G dX6_breaths_4 3 rfl ?_
      refine z_iload_n G dX6_breaths_5 1 rfl ?_
      refine z_icmp_geF G dX6_breaths_6 140 (by decide) (nI_ge lk1 hm) ?_
      refine z_iconst (v := nI 0) G dX6_breaths_9 rfl ?_
      refine z_istoreA G dX6_breaths_10 (by decide) rfl ?_
      have lj0 : ∀ nj j : Nat, nj + j = 9 → zV D X (mdW y b (brN (ps1 s k) (j)) q) 0 0 12 [(0, .ref (b 0)), (1, .int (nI (m))), (2, .int (nI (brMC s k + cnt (brP (ps1 s k)) (j)))), (3, .int (nI (k))), (4, .int (nI (j)))] [] := by
        intro nj
        induction nj with
        | zero =>
          intro j hj
          obtain rfl : j = 9 := by omega
          refine z_iload G dX6_breaths_12 4 rfl ?_
          refine z_bipush (v := nI 9) G dX6_breaths_14 rfl ?_
          refine z_icmp_geT G dX6_breaths_16 124 (by decide) (nI_le (Nat.le_refl _) (by decide)) ?_
          refine z_aload_n G dX6_breaths_124 0 rfl ?_
          refine mg_s G hin (List.mem_of_getElem? (i := 1) rfl) dX6_breaths_125 ?_
          refine z_iconst (v := nI 4) G dX6_breaths_128 rfl ?_
          refine z_dup2 G dX6_breaths_129 rfl rfl ?_
          refine ml_s G (by omega) dX6_breaths_130 ?_
          refine z_iconst (v := nI 1) G dX6_breaths_131 rfl ?_
          refine z_iadd G dX6_breaths_132 ?_
          refine ms_s G (by omega) dX6_breaths_133 ?_
          refine z_iinc G dX6_breaths_134 3 rfl (nI (k + 1)) (nI_inc _) (by decide) rfl ?_
          refine z_goto (tgt := 4) G dX6_breaths_137 (by decide) ?_
          refine z_loc G [(0, .ref (b 0)), (1, .int (nI m)), (2, .int (nI (brMC s (k + 1)))), (3, .int (nI (k + 1)))] [0, 1, 2, 3] (by rw [← brMC_s]; rfl) ?_
          refine z_world (ws' := mdW y b (ps1 s (k + 1)) q) (by rw [← ps1_s]) ?_
          exact ihk (k + 1) (by omega)
        | succ nj ihj =>
          intro j hj
          have lj : j < 9 := by omega
          refine z_iload G dX6_breaths_12 4 rfl ?_
          refine z_bipush (v := nI 9) G dX6_breaths_14 rfl ?_
          refine z_icmp_geF G dX6_breaths_16 124 (by decide) (nI_ge lj (by decide)) ?_
          refine z_iload G dX6_breaths_19 4 rfl ?_
          refine z_pSi (As := [_]) G _ _ _ (fun l => c_X6_g l D y (j)) k_X6_g gX6_breaths_X6_g dX6_breaths_21 ⟨by decide, by decide⟩ ⟨rfl, rfl⟩ ⟨Nat.zero_le _, Nat.zero_le _⟩ rfl (Nat.le_of_ble_eq_true rfl) rfl (List.Perm.refl _) (List.Perm.refl _) ?_
          refine z_istoreA G dX6_breaths_24 (by decide) rfl ?_
          refine z_aload_n G dX6_breaths_26 0 rfl ?_
          refine mg_s G hin (List.mem_of_getElem? (i := 1) rfl) dX6_breaths_27 ?_
          refine z_iload G dX6_breaths_30 5 rfl ?_
          refine z_iconst (v := nI 3) G dX6_breaths_32 rfl ?_
          refine z_iaddN G dX6_breaths_33 (16 + 17 * j) (by omega) ?_
          refine z_dup2 G dX6_breaths_34 rfl rfl ?_
          refine ml_s G (by omega) dX6_breaths_35 ?_
          refine z_aload_n G dX6_breaths_36 0 rfl ?_
          refine mg_s G hin (List.mem_of_getElem? (i := 1) rfl) dX6_breaths_37 ?_
          refine z_iload G dX6_breaths_40 5 rfl ?_
          refine ml_s G (by omega) dX6_breaths_42 ?_
          refine z_iadd G dX6_breaths_43 ?_
          refine ms_s G (by omega) dX6_breaths_44 ?_
          refine z_aload_n G dX6_breaths_45 0 rfl ?_
          refine mg_s G hin (List.mem_of_getElem? (i := 1) rfl) dX6_breaths_46 ?_
          refine z_iload G dX6_breaths_49 5 rfl ?_
          refine ml_s G (by omega) dX6_breaths_51 ?_
          refine z_iconst (v := nI 1) G dX6_breaths_52 rfl ?_
          refine z_icmp_ne G dX6_breaths_53 118 (by decide) (fun c53 => ?_) (fun c53 => ?_)
          · have g0 : gs (ps1 s k) j = false := by rw [← gs_congr (brN_ne (ps1 s k) (i := 13 + 17 * j) (by omega) j)]; exact fl_f (fun z => c53 ((upd_ne (by omega)).trans z))
            have n0 : brN (ps1 s k) j (13 + 17 * j) = nI 0 := fl_0 (PF_brN (PF_ps1 hp k) j) lj (by rw [gs_congr (brN_ne (ps1 s k) (i := 13 + 17 * j) (by omega) j)]; exact g0)
            refine z_iinc G dX6_breaths_118 4 rfl (nI (j + 1)) (nI_inc _) (by decide) rfl ?_
            refine z_goto (tgt := 12) G dX6_breaths_121 (by decide) ?_
            have e1 : brN (ps1 s k) (j + 1) = upd (brN (ps1 s k) j) (16 + 17 * j) (brN (ps1 s k) j (16 + 17 * j) + brN (ps1 s k) j (13 + 17 * j)) := by rw [brN, if_neg (by rw [g0]; decide), n0]; exact (upd_id (Int32.add_zero _).symm).symm
            have e2 : cnt (brP (ps1 s k)) (j + 1) = cnt (brP (ps1 s k)) j := cnt_f (by rw [brP, g0]; rfl)
            refine z_loc G [(0, .ref (b 0)), (1, .int (nI m)), (2, .int (nI (brMC s k + cnt (brP (ps1 s k)) (j + 1)))), (3, .int (nI k)), (4, .int (nI (j + 1)))] [0, 1, 2, 3, 4] (by rw [e2]; rfl) ?_
            refine z_world (ws' := mdW y b (brN (ps1 s k) (j + 1)) q) (by rw [e1]) ?_
            exact ihj (j + 1) (by omega)
          · have f1 : brN (ps1 s k) j (13 + 17 * j) = nI 1 := (upd_ne (by omega)).symm.trans c53
            have g1 : gs (ps1 s k) j = true := by rw [← gs_congr (brN_ne (ps1 s k) (i := 13 + 17 * j) (by omega) j)]; exact fl_t f1
            refine z_world (ws' := mdW y b (si1 (brN (ps1 s k) j) j) q) (by rw [f1]; rfl) ?_
            refine z_aload_n G dX6_breaths_56 0 rfl ?_
            refine mg_s G hin (List.mem_of_getElem? (i := 1) rfl) dX6_breaths_57 ?_
            refine z_iload G dX6_breaths_60 5 rfl ?_
            refine z_iconst (v := nI 3) G dX6_breaths_62 rfl ?_
            refine z_iaddN G dX6_breaths_63 (16 + 17 * j) (by omega) ?_
            refine ml_s G (by omega) dX6_breaths_64 ?_
            refine z_aload_n G dX6_breaths_65 0 rfl ?_
            refine mg_s G hin (List.mem_of_getElem? (i := 1) rfl) dX6_breaths_66 ?_
            refine z_iconst (v := nI 3) G dX6_breaths_69 rfl ?_
            refine ml_s G (by omega) dX6_breaths_70 ?_
            refine z_aload_n G dX6_breaths_71 0 rfl ?_
            refine mg_s G hin (List.mem_of_getElem? (i := 1) rfl) dX6_breaths_72 ?_
            refine z_iload G dX6_breaths_75 5 rfl ?_
            refine z_iconst (v := nI 2) G dX6_breaths_77 rfl ?_
            refine z_iaddN G dX6_breaths_78 (15 + 17 * j) (by omega) ?_
            refine ml_s G (by omega) dX6_breaths_79 ?_
            refine z_imul G dX6_breaths_80 ?_
            refine z_icmp_lt G dX6_breaths_81 118 (by decide) (fun c81 => ?_) (fun c81 => ?_)
            · have t0 : sgT (brN (ps1 s k) j) j = false := decide_eq_false (fun z => z c81)
              refine z_iinc G dX6_breaths_118 4 rfl (nI (j + 1)) (nI_inc _) (by decide) rfl ?_
              refine z_goto (tgt := 12) G dX6_breaths_121 (by decide) ?_
              have e1 : brN (ps1 s k) (j + 1) = si1 (brN (ps1 s k) j) j := by rw [brN, if_pos g1, sgF, if_neg (by rw [t0]; decide)]
              have e2 : cnt (brP (ps1 s k)) (j + 1) = cnt (brP (ps1 s k)) j := cnt_f (by rw [brP, t0]; simp)
              refine z_loc G [(0, .ref (b 0)), (1, .int (nI m)), (2, .int (nI (brMC s k + cnt (brP (ps1 s k)) (j + 1)))), (3, .int (nI k)), (4, .int (nI (j + 1)))] [0, 1, 2, 3, 4] (by rw [e2]; rfl) ?_
              refine z_world (ws' := mdW y b (brN (ps1 s k) (j + 1)) q) (by rw [e1]) ?_
              exact ihj (j + 1) (by omega)
            · have t1 : sgT (brN (ps1 s k) j) j = true := decide_eq_true c81
              refine z_aload_n G dX6_breaths_84 0 rfl ?_
              refine mg_s G hin (List.mem_of_getElem? (i := 1) rfl) dX6_breaths_85 ?_
              refine z_iload G dX6_breaths_88 5 rfl ?_
              refine z_iconst (v := nI 3) G dX6_breaths_90 rfl ?_
              refine z_iaddN G dX6_breaths_91 (16 + 17 * j) (by omega) ?_
              refine z_aload_n G dX6_breaths_92 0 rfl ?_
              refine mg_s G hin (List.mem_of_getElem? (i := 1) rfl) dX6_breaths_93 ?_
              refine z_iload G dX6_breaths_96 5 rfl ?_
              refine z_iconst (v := nI 2) G dX6_breaths_98 rfl ?_
              refine z_iaddN G dX6_breaths_99 (15 + 17 * j) (by omega) ?_
              refine ml_s G (by omega) dX6_breaths_100 ?_
              refine ms_s G (by omega) dX6_breaths_101 ?_
              refine z_aload_n G dX6_breaths_102 0 rfl ?_
              refine mg_s G hin (List.mem_of_getElem? (i := 1) rfl) dX6_breaths_103 ?_
              refine z_iload G dX6_breaths_106 5 rfl ?_
              refine z_iconst (v := nI 5) G dX6_breaths_108 rfl ?_
              refine z_iaddN G dX6_breaths_109 (18 + 17 * j) (by omega) ?_
              refine z_dup2 G dX6_breaths_110 rfl rfl ?_
              refine ml_s G (by omega) dX6_breaths_111 ?_
              refine z_iconst (v := nI 1) G dX6_breaths_112 rfl ?_
              refine z_iadd G dX6_breaths_113 ?_
              refine ms_s G (by omega) dX6_breaths_114 ?_
              refine z_iinc G dX6_breaths_115 2 rfl (nI (brMC s k + cnt (brP (ps1 s k)) (j + 1))) (by rw [cnt_t (by rw [brP, g1, t1]; rfl), ← Nat.add_assoc]; exact nI_1 _) (by decide) rfl ?_
              refine z_iinc G dX6_breaths_118 4 rfl (nI (j + 1)) (nI_inc _) (by decide) rfl ?_
              refine z_goto (tgt := 12) G dX6_breaths_121 (by decide) ?_
              have e1 : brN (ps1 s k) (j + 1) = upd (sg1 (brN (ps1 s k) j) j) (18 + 17 * j) (sg1 (brN (ps1 s k) j) j (18 + 17 * j) + nI 1) := by rw [brN, if_pos g1, sgF, if_pos t1]
              refine z_loc G [(0, .ref (b 0)), (1, .int (nI m)), (2, .int (nI (brMC s k + cnt (brP (ps1 s k)) (j + 1)))), (3, .int (nI k)), (4, .int (nI (j + 1)))] [0, 1, 2, 3, 4] rfl ?_
              refine z_world (ws' := mdW y b (brN (ps1 s k) (j + 1)) q) (by rw [e1]; rfl) ?_
              exact ihj (j + 1) (by omega)
      exact lj0 9 0 rfl
  exact z_world (by rw [ps1_0]) (lk m 0 rfl)

theorem k_X6_drinks : zCal yX6_drinks wsX6_drinks cX6_drinks 3 none 1 := ⟨⟨_, rfl⟩, by decide +kernel⟩
theorem in_X6_drinks_X6 : ∀ w ∈ wsX60, w ∈ wsX6_drinks := fun _ h => List.mem_cons_of_mem _ (List.mem_append_right _ h)
set_option maxHeartbeats 4000000 in
set_option maxRecDepth 100000 in
theorem c_X6_drinks (l : Launch) (D : va_G) (y : Nat → ClassId) (b : Nat → Nat) (s : Nat → Int32) (q : mdQ) (hp : PF s) {g c : Nat} (hg : g < 9) (hc : s 0 = nI c) (hcm : c < 2 ^ 31) : zDv l D y yX6_drinks wsX6_drinks ({ frames := 2, cells := 0, slots := 0, locals := 45 }) [.ref (b 0), .int (nI (g))] (mdW y b s q) (mdW y b (drF s g c) q) := by
  refine zMv.mk (cc := cX6_drinks) (maxL := 3) (lv := [(0, .ref (b 0)), (1, .int (nI (g)))]) (by decide) rfl (Nat.le_of_ble_eq_true rfl) rfl (fun X G hE => ?_)
  have hin := in_X6_drinks_X6
  refine z_aload_n G dX6_drinks_0 0 rfl ?_
  refine mg_s G hin (List.mem_of_getElem? (i := 1) rfl) dX6_drinks_1 ?_
  refine z_iload_n G dX6_drinks_4 1 rfl ?_
  refine z_pSi (As := [_]) G _ _ _ (fun l => c_X6_g l D y (g)) k_X6_g gX6_drinks_X6_g dX6_drinks_5 ⟨by decide, by decide⟩ ⟨rfl, rfl⟩ ⟨Nat.zero_le _, Nat.zero_le _⟩ rfl (Nat.le_of_ble_eq_true rfl) rfl (List.Perm.refl _) (List.Perm.refl _) ?_
  refine z_iconst (v := nI 4) G dX6_drinks_8 rfl ?_
  refine z_iaddN G dX6_drinks_9 (17 + 17 * g) (by omega) ?_
  refine z_dup2 G dX6_drinks_10 rfl rfl ?_
  refine ml_s G (by omega) dX6_drinks_11 ?_
  refine z_iconst (v := nI 1) G dX6_drinks_12 rfl ?_
  refine z_iadd G dX6_drinks_13 ?_
  refine ms_s G (by omega) dX6_drinks_14 ?_
  refine z_aload_n G dX6_drinks_15 0 rfl ?_
  refine mg_s G hin (List.mem_of_getElem? (i := 1) rfl) dX6_drinks_16 ?_
  refine z_bipush (v := nI 6) G dX6_drinks_19 rfl ?_
  refine z_dup2 G dX6_drinks_21 rfl rfl ?_
  refine ml_s G (by omega) dX6_drinks_22 ?_
  refine z_iconst (v := nI 1) G dX6_drinks_23 rfl ?_
  refine z_iadd G dX6_drinks_24 ?_
  refine ms_s G (by omega) dX6_drinks_25 ?_
  refine z_aload_n G dX6_drinks_26 0 rfl ?_
  refine z_aload_n G dX6_drinks_27 0 rfl ?_
  refine mg_s G hin (List.mem_of_getElem? (i := 1) rfl) dX6_drinks_28 ?_
  refine z_iconst (v := nI 0) G dX6_drinks_31 rfl ?_
  refine ml_s G (by omega) dX6_drinks_32 ?_
  refine z_top (w := .int (nI (c))) (congrArg Value.int ((dr2_ne (by omega) (by omega)).trans hc)) ?_
  refine z_dVi (As := [_]) G _ _ (fun l => c_X6_breaths l D y b _ q (PF_dr2 hp g) hcm) k_X6_breaths gX6_drinks_X6_breaths 0 6 rfl rfl rfl dX6_drinks_33 ⟨by decide, by decide⟩ ⟨rfl, rfl⟩ ⟨Nat.zero_le _, Nat.zero_le _⟩ rfl (Nat.le_of_ble_eq_true rfl) rfl ?_
  refine z_istore_nA G dX6_drinks_36 rfl (by decide) rfl ?_
  exact hE _ _ _ dX6_drinks_37 rfl

theorem k_X6_comes : zCal yX6_comes wsX6_comes cX6_comes 5 (some .int) 1 := ⟨⟨_, rfl⟩, by decide +kernel⟩
theorem in_X6_comes_X6 : ∀ w ∈ wsX60, w ∈ wsX6_comes := fun _ h => List.mem_cons_of_mem _ (List.mem_append_right _ h)
set_option maxHeartbeats 4000000 in
set_option maxRecDepth 100000 in
theorem c_X6_comes (l : Launch) (D : va_G) (y : Nat → ClassId) (b : Nat → Nat) (s : Nat → Int32) (q : mdQ) (hp : PF s) (hz : ZR s) (x : Int32) : zDi l D y yX6_comes wsX6_comes ({ frames := 2, cells := 0, slots := 0, locals := 43 }) [.ref (b 0), .int (x)] (mdW y b s q) ((coR s x).1) (mdW y b (coR s x).2 q) := by
  refine zMi.mk (cc := cX6_comes) (maxL := 5) (lv := [(0, .ref (b 0)), (1, .int (x))]) (by decide) rfl (Nat.le_of_ble_eq_true rfl) rfl (fun X G hE => ?_)
  have hin := in_X6_comes_X6
  refine z_iload_n G dX6_comes_0 1 rfl ?_
  refine z_iconst (v := nI 1) G dX6_comes_1 rfl ?_
  refine z_bipush (v := nI 30) G dX6_comes_2 rfl ?_
  refine z_pSi (As := [_, _, _]) G _ _ _ (fun l => c_X6_in l D y x (nI 1) (nI 30)) k_X6_in gX6_comes_X6_in dX6_comes_4 ⟨by decide, by decide⟩ ⟨rfl, rfl⟩ ⟨Nat.zero_le _, Nat.zero_le _⟩ rfl (Nat.le_of_ble_eq_true rfl) rfl (List.Perm.refl _) (List.Perm.refl _) ?_
  refine z_if_ne G dX6_comes_7 13 (by decide) (fun c7 => ?_) (fun c7 => ?_)
  · obtain ⟨n1, n2⟩ := inB_t (bI_n c7)
    refine z_aload_n G dX6_comes_13 0 rfl ?_
    refine z_dVi (As := []) G _ _ (fun l => c_X6_guests l D y b s q hp) k_X6_guests gX6_comes_X6_guests 0 6 rfl rfl rfl dX6_comes_14 ⟨by decide, by decide⟩ ⟨rfl, rfl⟩ ⟨Nat.zero_le _, Nat.zero_le _⟩ rfl (Nat.le_of_ble_eq_true rfl) rfl ?_
    refine z_istore_nA G dX6_comes_17 rfl (by decide) rfl ?_
    refine z_iload_n G dX6_comes_18 2 rfl ?_
    refine z_bipush (v := nI 9) G dX6_comes_19 rfl ?_
    refine z_icmp_ne G dX6_comes_21 27 (by decide) (fun c21 => ?_) (fun c21 => ?_)
    · refine z_iconst (v := nI 0) G dX6_comes_27 rfl ?_
      refine z_istore_nA G dX6_comes_28 rfl (by decide) rfl ?_
      have lo : ∀ nj j : Nat, nj + j = 9 → (∀ i, i < j → gs s i = true) → zV D X (mdW y b s q) 0 0 29 [(0, .ref (b 0)), (1, .int (x)), (2, .int (nI (ng s))), (3, .int (nI (j)))] [] := by
        intro nj
        induction nj with
        | zero =>
          intro j hj hn
          obtain rfl : j = 9 := by omega
          exact absurd (congrArg nI (show ng s = 9 from cnt_all 9 hn)) c21
        | succ nj ihj =>
          intro j hj hn
          have lj : j < 9 := by omega
          refine z_aload_n G dX6_comes_29 0 rfl ?_
          refine z_iload_n G dX6_comes_30 3 rfl ?_
          refine z_dVi (As := [_]) G _ _ (fun l => c_X6_isGuest_n l D y b _ _ lj) k_X6_isGuest gX6_comes_X6_isGuest 0 6 rfl rfl rfl dX6_comes_31 ⟨by decide, by decide⟩ ⟨rfl, rfl⟩ ⟨Nat.zero_le _, Nat.zero_le _⟩ rfl (Nat.le_of_ble_eq_true rfl) rfl ?_
          refine z_if_eq G dX6_comes_34 43 (by decide) (fun c34 => ?_) (fun c34 => ?_)
          · have hj0 := bI_0 c34
            have hfr : fre s 9 0 = j := fre_is hj0 9 0 (fun i _ hi => hn i hi) (Nat.zero_le _) (by omega)
            have hng : ¬ ng s = 9 := fun z => c21 (congrArg nI z)
            refine z_iconst (v := nI 0) G dX6_comes_43 rfl ?_
            refine z_istoreA G dX6_comes_44 (by decide) rfl ?_
            have lz : ∀ nk k : Nat, nk + k = 17 → zV D X (mdW y b s q) 0 0 46 [(0, .ref (b 0)), (1, .int (x)), (2, .int (nI (ng s))), (3, .int (nI (j))), (4, .int (nI (k)))] [] := by
              intro nk
              induction nk with
              | zero =>
                intro k hk
                obtain rfl : k = 17 := by omega
                refine z_iload G dX6_comes_46 4 rfl ?_
                refine z_bipush (v := nI 17) G dX6_comes_48 rfl ?_
                refine z_icmp_geT G dX6_comes_50 72 (by decide) (nI_le (Nat.le_refl _) (by decide)) ?_
                refine z_aload_n G dX6_comes_72 0 rfl ?_
                refine mg_s G hin (List.mem_of_getElem? (i := 1) rfl) dX6_comes_73 ?_
                refine z_iload_n G dX6_comes_76 3 rfl ?_
                refine z_pSi (As := [_]) G _ _ _ (fun l => c_X6_g l D y (j)) k_X6_g gX6_comes_X6_g dX6_comes_77 ⟨by decide, by decide⟩ ⟨rfl, rfl⟩ ⟨Nat.zero_le _, Nat.zero_le _⟩ rfl (Nat.le_of_ble_eq_true rfl) rfl (List.Perm.refl _) (List.Perm.refl _) ?_
                refine z_iconst (v := nI 1) G dX6_comes_80 rfl ?_
                refine ms_s G (by omega) dX6_comes_81 ?_
                refine z_aload_n G dX6_comes_82 0 rfl ?_
                refine mg_s G hin (List.mem_of_getElem? (i := 1) rfl) dX6_comes_83 ?_
                refine z_iload_n G dX6_comes_86 3 rfl ?_
                refine z_pSi (As := [_]) G _ _ _ (fun l => c_X6_g l D y (j)) k_X6_g gX6_comes_X6_g dX6_comes_87 ⟨by decide, by decide⟩ ⟨rfl, rfl⟩ ⟨Nat.zero_le _, Nat.zero_le _⟩ rfl (Nat.le_of_ble_eq_true rfl) rfl (List.Perm.refl _) (List.Perm.refl _) ?_
                refine z_iconst (v := nI 1) G dX6_comes_90 rfl ?_
                refine z_iaddN G dX6_comes_91 (14 + 17 * j) (by omega) ?_
                refine z_iload_n G dX6_comes_92 2 rfl ?_
                refine ms_s G (by omega) dX6_comes_93 ?_
                refine z_aload_n G dX6_comes_94 0 rfl ?_
                refine mg_s G hin (List.mem_of_getElem? (i := 1) rfl) dX6_comes_95 ?_
                refine z_iload_n G dX6_comes_98 3 rfl ?_
                refine z_pSi (As := [_]) G _ _ _ (fun l => c_X6_g l D y (j)) k_X6_g gX6_comes_X6_g dX6_comes_99 ⟨by decide, by decide⟩ ⟨rfl, rfl⟩ ⟨Nat.zero_le _, Nat.zero_le _⟩ rfl (Nat.le_of_ble_eq_true rfl) rfl (List.Perm.refl _) (List.Perm.refl _) ?_
                refine z_iconst (v := nI 2) G dX6_comes_102 rfl ?_
                refine z_iaddN G dX6_comes_103 (15 + 17 * j) (by omega) ?_
                refine z_iload_n G dX6_comes_104 1 rfl ?_
                refine ms_s G (by omega) dX6_comes_105 ?_
                refine z_iload_n G dX6_comes_106 3 rfl ?_
                exact hE _ _ _ _ dX6_comes_107 rfl (by rw [coR, if_neg (fun z => z.elim (Int32.not_lt.mpr n1) (Int32.not_lt.mpr n2)), if_neg hng, hfr]; exact ⟨rfl, rfl⟩)
              | succ nk ihk =>
                intro k hk
                have lk : k < 17 := by omega
                refine z_iload G dX6_comes_46 4 rfl ?_
                refine z_bipush (v := nI 17) G dX6_comes_48 rfl ?_
                refine z_icmp_geF G dX6_comes_50 72 (by decide) (nI_ge lk (by decide)) ?_
                refine z_aload_n G dX6_comes_53 0 rfl ?_
                refine mg_s G hin (List.mem_of_getElem? (i := 1) rfl) dX6_comes_54 ?_
                refine z_iload_n G dX6_comes_57 3 rfl ?_
                refine z_pSi (As := [_]) G _ _ _ (fun l => c_X6_g l D y (j)) k_X6_g gX6_comes_X6_g dX6_comes_58 ⟨by decide, by decide⟩ ⟨rfl, rfl⟩ ⟨Nat.zero_le _, Nat.zero_le _⟩ rfl (Nat.le_of_ble_eq_true rfl) rfl (List.Perm.refl _) (List.Perm.refl _) ?_
                refine z_iload G dX6_comes_61 4 rfl ?_
                refine z_iaddN G dX6_comes_63 (13 + 17 * j + k) (by omega) ?_
                refine z_iconst (v := nI 0) G dX6_comes_64 rfl ?_
                refine ms_s G (by omega) dX6_comes_65 ?_
                refine z_iinc G dX6_comes_66 4 rfl (nI (k + 1)) (nI_inc _) (by decide) rfl ?_
                refine z_goto (tgt := 46) G dX6_comes_69 (by decide) ?_
                refine z_world (ws' := mdW y b s q) (by rw [upd_id]; rw [show 13 + 17 * j + k = 13 + 17 * j + k from rfl]; first | exact hz j lj hj0 k lk | (rw [show k + (13 + 17 * j) = 13 + 17 * j + k by omega]; exact hz j lj hj0 k lk)) ?_
                exact ihk (k + 1) (by omega)
            exact lz 17 0 rfl
          · refine z_iinc G dX6_comes_37 3 rfl (nI (j + 1)) (nI_inc _) (by decide) rfl ?_
            refine z_goto (tgt := 29) G dX6_comes_40 (by decide) ?_
            exact ihj (j + 1) (by omega) (fun i hi => (Nat.lt_succ_iff_lt_or_eq.mp hi).elim (hn i) (fun e => by rw [e]; exact bI_n c34))
      exact lo 9 0 rfl (fun i hi => absurd hi (Nat.not_lt_zero i))
    · refine z_bipush (v := (-4)) G dX6_comes_24 rfl ?_
      exact hE _ _ _ _ dX6_comes_26 rfl (by have n := (nI_eq (by have := ng_le s; omega) (by decide)).mp c21; rw [coR, if_neg (fun z => z.elim (Int32.not_lt.mpr n1) (Int32.not_lt.mpr n2)), if_pos n]; exact ⟨rfl, rfl⟩)
  · refine z_bipush (v := (-2)) G dX6_comes_10 rfl ?_
    exact hE _ _ _ _ dX6_comes_12 rfl (by rw [coR, if_pos (inB_f (bI_0 c7))]; exact ⟨rfl, rfl⟩)

theorem k_X6_leaves : zCal yX6_leaves wsX6_leaves cX6_leaves 4 (some .int) 1 := ⟨⟨_, rfl⟩, by decide +kernel⟩
theorem in_X6_leaves_X6 : ∀ w ∈ wsX60, w ∈ wsX6_leaves := fun _ h => List.mem_cons_of_mem _ (List.mem_append_right _ h)
set_option maxHeartbeats 4000000 in
set_option maxRecDepth 100000 in
theorem c_X6_leaves (l : Launch) (D : va_G) (y : Nat → ClassId) (b : Nat → Nat) (s : Nat → Int32) (q : mdQ) (hp : PF s) (hz : ZR s) (hs : SN s) (x : Int32) : zDi l D y yX6_leaves wsX6_leaves ({ frames := 2, cells := 0, slots := 0, locals := 43 }) [.ref (b 0), .int (x)] (mdW y b s q) ((leR s x).1) (mdW y b (leR s x).2 q) := by
  refine zMi.mk (cc := cX6_leaves) (maxL := 4) (lv := [(0, .ref (b 0)), (1, .int (x))]) (by decide) rfl (Nat.le_of_ble_eq_true rfl) rfl (fun X G hE => ?_)
  have hin := in_X6_leaves_X6
  refine z_aload_n G dX6_leaves_0 0 rfl ?_
  refine z_iload_n G dX6_leaves_1 1 rfl ?_
  refine z_dVi (As := [_]) G _ _ (fun l => c_X6_isGuest l D y b s q x) k_X6_isGuest gX6_leaves_X6_isGuest 0 6 rfl rfl rfl dX6_leaves_2 ⟨by decide, by decide⟩ ⟨rfl, rfl⟩ ⟨Nat.zero_le _, Nat.zero_le _⟩ rfl (Nat.le_of_ble_eq_true rfl) rfl ?_
  refine z_if_ne G dX6_leaves_5 10 (by decide) (fun c5 => ?_) (fun c5 => ?_)
  · obtain ⟨g, hg, rfl, sg⟩ := hx_t (bI_n c5)
    refine z_aload_n G dX6_leaves_10 0 rfl ?_
    refine mg_s G hin (List.mem_of_getElem? (i := 1) rfl) dX6_leaves_11 ?_
    refine z_iload_n G dX6_leaves_14 1 rfl ?_
    refine z_pSi (As := [_]) G _ _ _ (fun l => c_X6_g l D y (g)) k_X6_g gX6_leaves_X6_g dX6_leaves_15 ⟨by decide, by decide⟩ ⟨rfl, rfl⟩ ⟨Nat.zero_le _, Nat.zero_le _⟩ rfl (Nat.le_of_ble_eq_true rfl) rfl (List.Perm.refl _) (List.Perm.refl _) ?_
    refine z_iconst (v := nI 1) G dX6_leaves_18 rfl ?_
    refine z_iaddN G dX6_leaves_19 (14 + 17 * g) (by omega) ?_
    refine ml_s G (by omega) dX6_leaves_20 ?_
    refine z_istore_nA G dX6_leaves_21 rfl (by decide) rfl ?_
    refine z_aload_n G dX6_leaves_22 0 rfl ?_
    refine mg_s G hin (List.mem_of_getElem? (i := 1) rfl) dX6_leaves_23 ?_
    refine z_bipush (v := nI 8) G dX6_leaves_26 rfl ?_
    refine z_dup2 G dX6_leaves_28 rfl rfl ?_
    refine ml_s G (by omega) dX6_leaves_29 ?_
    refine z_aload_n G dX6_leaves_30 0 rfl ?_
    refine z_iload_n G dX6_leaves_31 1 rfl ?_
    refine z_dVi (As := [_]) G _ _ (fun l => c_X6_owed l D y b s q hg) k_X6_owed gX6_leaves_X6_owed 0 6 rfl rfl rfl dX6_leaves_32 ⟨by decide, by decide⟩ ⟨rfl, rfl⟩ ⟨Nat.zero_le _, Nat.zero_le _⟩ rfl (Nat.le_of_ble_eq_true rfl) rfl ?_
    refine z_aload_n G dX6_leaves_35 0 rfl ?_
    refine z_iload_n G dX6_leaves_36 1 rfl ?_
    refine z_dVi (As := [_]) G _ _ (fun l => c_X6_owedTo l D y b s q hg) k_X6_owedTo gX6_leaves_X6_owedTo 0 6 rfl rfl rfl dX6_leaves_37 ⟨by decide, by decide⟩ ⟨rfl, rfl⟩ ⟨Nat.zero_le _, Nat.zero_le _⟩ rfl (Nat.le_of_ble_eq_true rfl) rfl ?_
    refine z_iadd G dX6_leaves_40 ?_
    refine z_iadd G dX6_leaves_41 ?_
    refine ms_s G (by omega) dX6_leaves_42 ?_
    refine z_iconst (v := nI 0) G dX6_leaves_43 rfl ?_
    refine z_istore_nA G dX6_leaves_44 rfl (by decide) rfl ?_
    have lo : ∀ nj j : Nat, nj + j = 9 → zV D X (mdW y b (lm (upd s 8 (s 8 + (owd s g + owt s g))) g (s (14 + 17 * g)) (j)) q) 0 0 45 [(0, .ref (b 0)), (1, .int (nI (g))), (2, .int (s (14 + 17 * g))), (3, .int (nI (j)))] [] := by
      intro nj
      induction nj with
      | zero =>
        intro j hj
        obtain rfl : j = 9 := by omega
        refine z_iload_n G dX6_leaves_45 3 rfl ?_
        refine z_bipush (v := nI 9) G dX6_leaves_46 rfl ?_
        refine z_icmp_geT G dX6_leaves_48 106 (by decide) (nI_le (Nat.le_refl _) (by decide)) ?_
        refine z_iconst (v := nI 0) G dX6_leaves_106 rfl ?_
        refine z_istore_n G dX6_leaves_107 rfl (by decide) 3 rfl ?_
        have lz : ∀ nk k : Nat, nk + k = 17 → zV D X (mdW y b (zr (lm (upd s 8 (s 8 + (owd s g + owt s g))) g (s (14 + 17 * g)) 9) g (k)) q) 0 0 108 [(0, .ref (b 0)), (1, .int (nI (g))), (2, .int (s (14 + 17 * g))), (3, .int (nI (k)))] [] := by
          intro nk
          induction nk with
          | zero =>
            intro k hk
            obtain rfl : k = 17 := by omega
            refine z_iload_n G dX6_leaves_108 3 rfl ?_
            refine z_bipush (v := nI 17) G dX6_leaves_109 rfl ?_
            refine z_icmp_geT G dX6_leaves_111 132 (by decide) (nI_le (Nat.le_refl _) (by decide)) ?_
            refine z_iload_n G dX6_leaves_132 2 rfl ?_
            exact hE _ _ _ _ dX6_leaves_133 rfl (by rw [leR, hx_n hg, if_pos sg, nI_clamp (by omega)]; exact ⟨rfl, mdW_eq (fun i hi => lv_eq hp hz hs hg hi)⟩)
          | succ nk ihk =>
            intro k hk
            have lk : k < 17 := by omega
            refine z_iload_n G dX6_leaves_108 3 rfl ?_
            refine z_bipush (v := nI 17) G dX6_leaves_109 rfl ?_
            refine z_icmp_geF G dX6_leaves_111 132 (by decide) (nI_ge lk (by decide)) ?_
            refine z_aload_n G dX6_leaves_114 0 rfl ?_
            refine mg_s G hin (List.mem_of_getElem? (i := 1) rfl) dX6_leaves_115 ?_
            refine z_iload_n G dX6_leaves_118 1 rfl ?_
            refine z_pSi (As := [_]) G _ _ _ (fun l => c_X6_g l D y (g)) k_X6_g gX6_leaves_X6_g dX6_leaves_119 ⟨by decide, by decide⟩ ⟨rfl, rfl⟩ ⟨Nat.zero_le _, Nat.zero_le _⟩ rfl (Nat.le_of_ble_eq_true rfl) rfl (List.Perm.refl _) (List.Perm.refl _) ?_
            refine z_iload_n G dX6_leaves_122 3 rfl ?_
            refine z_iaddN G dX6_leaves_123 (13 + 17 * g + k) (by omega) ?_
            refine z_iconst (v := nI 0) G dX6_leaves_124 rfl ?_
            refine ms_s G (by omega) dX6_leaves_125 ?_
            refine z_iinc G dX6_leaves_126 3 rfl (nI (k + 1)) (nI_inc _) (by decide) rfl ?_
            refine z_goto (tgt := 108) G dX6_leaves_129 (by decide) ?_
            exact ihk (k + 1) (by omega)
        exact lz 17 0 rfl
      | succ nj ihj =>
        intro j hj
        have lj : j < 9 := by omega
        refine z_iload_n G dX6_leaves_45 3 rfl ?_
        refine z_bipush (v := nI 9) G dX6_leaves_46 rfl ?_
        refine z_icmp_geF G dX6_leaves_48 106 (by decide) (nI_ge lj (by decide)) ?_
        refine z_aload_n G dX6_leaves_51 0 rfl ?_
        refine mg_s G hin (List.mem_of_getElem? (i := 1) rfl) dX6_leaves_52 ?_
        refine z_iload_n G dX6_leaves_55 3 rfl ?_
        refine z_pSi (As := [_]) G _ _ _ (fun l => c_X6_g l D y (j)) k_X6_g gX6_leaves_X6_g dX6_leaves_56 ⟨by decide, by decide⟩ ⟨rfl, rfl⟩ ⟨Nat.zero_le _, Nat.zero_le _⟩ rfl (Nat.le_of_ble_eq_true rfl) rfl (List.Perm.refl _) (List.Perm.refl _) ?_
        refine z_iconst (v := nI 1) G dX6_leaves_59 rfl ?_
        refine z_iaddN G dX6_leaves_60 (14 + 17 * j) (by omega) ?_
        refine z_dup2 G dX6_leaves_61 rfl rfl ?_
        refine ml_s G (by omega) dX6_leaves_62 ?_
        refine z_aload_n G dX6_leaves_63 0 rfl ?_
        refine mg_s G hin (List.mem_of_getElem? (i := 1) rfl) dX6_leaves_64 ?_
        refine z_iload_n G dX6_leaves_67 3 rfl ?_
        refine z_pSi (As := [_]) G _ _ _ (fun l => c_X6_g l D y (j)) k_X6_g gX6_leaves_X6_g dX6_leaves_68 ⟨by decide, by decide⟩ ⟨rfl, rfl⟩ ⟨Nat.zero_le _, Nat.zero_le _⟩ rfl (Nat.le_of_ble_eq_true rfl) rfl (List.Perm.refl _) (List.Perm.refl _) ?_
        refine z_iconst (v := nI 1) G dX6_leaves_71 rfl ?_
        refine z_iaddN G dX6_leaves_72 (14 + 17 * j) (by omega) ?_
        refine ml_s G (by omega) dX6_leaves_73 ?_
        refine z_iload_n G dX6_leaves_74 2 rfl ?_
        refine z_icmp_le G dX6_leaves_75 82 (by decide) (fun c75 => ?_) (fun c75 => ?_)
        · refine z_iconst (v := nI 0) G dX6_leaves_82 rfl ?_
          refine z_isub G dX6_leaves_83 ?_
          refine ms_s G (by omega) dX6_leaves_84 ?_
          refine z_aload_n G dX6_leaves_85 0 rfl ?_
          refine mg_s G hin (List.mem_of_getElem? (i := 1) rfl) dX6_leaves_86 ?_
          refine z_iload_n G dX6_leaves_89 3 rfl ?_
          refine z_pSi (As := [_]) G _ _ _ (fun l => c_X6_g l D y (j)) k_X6_g gX6_leaves_X6_g dX6_leaves_90 ⟨by decide, by decide⟩ ⟨rfl, rfl⟩ ⟨Nat.zero_le _, Nat.zero_le _⟩ rfl (Nat.le_of_ble_eq_true rfl) rfl (List.Perm.refl _) (List.Perm.refl _) ?_
          refine z_bipush (v := nI 8) G dX6_leaves_93 rfl ?_
          refine z_iaddN G dX6_leaves_95 (21 + 17 * j) (by omega) ?_
          refine z_iload_n G dX6_leaves_96 1 rfl ?_
          refine z_iaddN G dX6_leaves_97 (21 + 17 * j + g) (by omega) ?_
          refine z_iconst (v := nI 0) G dX6_leaves_98 rfl ?_
          refine ms_s G (by omega) dX6_leaves_99 ?_
          refine z_iinc G dX6_leaves_100 3 rfl (nI (j + 1)) (nI_inc _) (by decide) rfl ?_
          refine z_goto (tgt := 45) G dX6_leaves_103 (by decide) ?_
          have e1 : lm (upd s 8 (s 8 + (owd s g + owt s g))) g (s (14 + 17 * g)) (j + 1) = upd (upd (lm (upd s 8 (s 8 + (owd s g + owt s g))) g (s (14 + 17 * g)) j) (14 + 17 * j) (lm (upd s 8 (s 8 + (owd s g + owt s g))) g (s (14 + 17 * g)) j (14 + 17 * j) - nI 0)) (21 + 17 * j + g) (nI 0) := by rw [lm, if_neg (Int32.not_lt.mpr c75)]
          rw [← e1]
          exact ihj (j + 1) (by omega)
        · refine z_iconst (v := nI 1) G dX6_leaves_78 rfl ?_
          refine z_goto (tgt := 83) G dX6_leaves_79 (by decide) ?_
          refine z_isub G dX6_leaves_83 ?_
          refine ms_s G (by omega) dX6_leaves_84 ?_
          refine z_aload_n G dX6_leaves_85 0 rfl ?_
          refine mg_s G hin (List.mem_of_getElem? (i := 1) rfl) dX6_leaves_86 ?_
          refine z_iload_n G dX6_leaves_89 3 rfl ?_
          refine z_pSi (As := [_]) G _ _ _ (fun l => c_X6_g l D y (j)) k_X6_g gX6_leaves_X6_g dX6_leaves_90 ⟨by decide, by decide⟩ ⟨rfl, rfl⟩ ⟨Nat.zero_le _, Nat.zero_le _⟩ rfl (Nat.le_of_ble_eq_true rfl) rfl (List.Perm.refl _) (List.Perm.refl _) ?_
          refine z_bipush (v := nI 8) G dX6_leaves_93 rfl ?_
          refine z_iaddN G dX6_leaves_95 (21 + 17 * j) (by omega) ?_
          refine z_iload_n G dX6_leaves_96 1 rfl ?_
          refine z_iaddN G dX6_leaves_97 (21 + 17 * j + g) (by omega) ?_
          refine z_iconst (v := nI 0) G dX6_leaves_98 rfl ?_
          refine ms_s G (by omega) dX6_leaves_99 ?_
          refine z_iinc G dX6_leaves_100 3 rfl (nI (j + 1)) (nI_inc _) (by decide) rfl ?_
          refine z_goto (tgt := 45) G dX6_leaves_103 (by decide) ?_
          have e1 : lm (upd s 8 (s 8 + (owd s g + owt s g))) g (s (14 + 17 * g)) (j + 1) = upd (upd (lm (upd s 8 (s 8 + (owd s g + owt s g))) g (s (14 + 17 * g)) j) (14 + 17 * j) (lm (upd s 8 (s 8 + (owd s g + owt s g))) g (s (14 + 17 * g)) j (14 + 17 * j) - nI 1)) (21 + 17 * j + g) (nI 0) := by rw [lm, if_pos (Int32.not_le.mp c75)]
          rw [← e1]
          exact ihj (j + 1) (by omega)
    exact lo 9 0 rfl
  · refine z_iconst (v := (-1)) G dX6_leaves_8 rfl ?_
    exact hE _ _ _ _ dX6_leaves_9 rfl (by rw [leR, bI_0 c5]; exact ⟨rfl, rfl⟩)

theorem k_X6_offers : zCal yX6_offers wsX6_offers cX6_offers 7 (some .int) 2 := ⟨⟨_, rfl⟩, by decide +kernel⟩
theorem in_X6_offers_X6 : ∀ w ∈ wsX60, w ∈ wsX6_offers := fun _ h => List.mem_cons_of_mem _ (List.mem_append_right _ h)
set_option maxHeartbeats 4000000 in
set_option maxRecDepth 100000 in
theorem c_X6_offers (l : Launch) (D : va_G) (y : Nat → ClassId) (b : Nat → Nat) (s : Nat → Int32) (q : mdQ) (hp : PF s) (x z : Int32) {c : Nat} (hc : s 0 = nI c) (hcm : c < 2 ^ 31) : zDi l D y yX6_offers wsX6_offers ({ frames := 3, cells := 0, slots := 0, locals := 67 }) [.ref (b 0), .int (x), .int (z)] (mdW y b s q) ((ofR s x z c).1) (mdW y b (ofR s x z c).2 q) := by
  refine zMi.mk (cc := cX6_offers) (maxL := 7) (lv := [(0, .ref (b 0)), (1, .int (x)), (2, .int (z))]) (by decide) rfl (Nat.le_of_ble_eq_true rfl) rfl (fun X G hE => ?_)
  have hin := in_X6_offers_X6
  refine z_aload_n G dX6_offers_0 0 rfl ?_
  refine z_iload_n G dX6_offers_1 1 rfl ?_
  refine z_iload_n G dX6_offers_2 2 rfl ?_
  refine z_dVi (As := [_, _]) G _ _ (fun l => c_X6_pair l D y b s q x z) k_X6_pair gX6_offers_X6_pair 0 6 rfl rfl rfl dX6_offers_3 ⟨by decide, by decide⟩ ⟨rfl, rfl⟩ ⟨Nat.zero_le _, Nat.zero_le _⟩ rfl (Nat.le_of_ble_eq_true rfl) rfl ?_
  refine z_istore_nA G dX6_offers_6 rfl (by decide) rfl ?_
  refine z_iload_n G dX6_offers_7 3 rfl ?_
  refine z_if_ge G dX6_offers_8 13 (by decide) (fun c8 => ?_) (fun c8 => ?_)
  · obtain ⟨g, o, hg, ho, hgo, rfl, rfl, sg, so⟩ := pairE_ok c8
    refine z_aload_n G dX6_offers_13 0 rfl ?_
    refine z_iload_n G dX6_offers_14 2 rfl ?_
    refine z_dVi (As := [_]) G _ _ (fun l => c_X6_reason l D y b s q ho) k_X6_reason gX6_offers_X6_reason 0 6 rfl rfl rfl dX6_offers_15 ⟨by decide, by decide⟩ ⟨rfl, rfl⟩ ⟨Nat.zero_le _, Nat.zero_le _⟩ rfl (Nat.le_of_ble_eq_true rfl) rfl ?_
    refine z_if_gt G dX6_offers_18 40 (by decide) (fun c18 => ?_) (fun c18 => ?_)
    · refine z_bipush (v := (-5)) G dX6_offers_40 rfl ?_
      exact hE _ _ _ _ dX6_offers_42 rfl (by first | (rw [ofR, if_neg (Int32.not_lt.mpr c8), nI_clamp (show g < 2 ^ 31 by omega), nI_clamp (show o < 2 ^ 31 by omega), if_pos (Or.inl (rsn_pos.mp c18))]; exact ⟨rfl, rfl⟩) | (rw [ofR, if_neg (Int32.not_lt.mpr c8), nI_clamp (show g < 2 ^ 31 by omega), nI_clamp (show o < 2 ^ 31 by omega), if_pos (Or.inr (Int32.not_le.mp c37))]; exact ⟨rfl, rfl⟩))
    · refine z_aload_n G dX6_offers_21 0 rfl ?_
      refine mg_s G hin (List.mem_of_getElem? (i := 1) rfl) dX6_offers_22 ?_
      refine z_iconst (v := nI 4) G dX6_offers_25 rfl ?_
      refine ml_s G (by omega) dX6_offers_26 ?_
      refine z_aload_n G dX6_offers_27 0 rfl ?_
      refine mg_s G hin (List.mem_of_getElem? (i := 1) rfl) dX6_offers_28 ?_
      refine z_iconst (v := nI 0) G dX6_offers_31 rfl ?_
      refine ml_s G (by omega) dX6_offers_32 ?_
      refine z_iadd G dX6_offers_33 ?_
      refine z_sipush (v := nI 9999) G dX6_offers_34 rfl ?_
      refine z_icmp_le G dX6_offers_37 43 (by decide) (fun c37 => ?_) (fun c37 => ?_)
      · refine z_aload_n G dX6_offers_43 0 rfl ?_
        refine z_iload_n G dX6_offers_44 2 rfl ?_
        refine z_dVv (As := [_]) G _ (fun l => c_X6_drinks l D y b s q hp ho hc hcm) k_X6_drinks gX6_offers_X6_drinks 0 6 rfl rfl rfl dX6_offers_45 ⟨by decide, by decide⟩ ⟨rfl, rfl⟩ ⟨Nat.zero_le _, Nat.zero_le _⟩ rfl (Nat.le_of_ble_eq_true rfl) rfl ?_
        refine z_iload_n G dX6_offers_48 2 rfl ?_
        refine z_pSi (As := [_]) G _ _ _ (fun l => c_X6_g l D y (o)) k_X6_g gX6_offers_X6_g dX6_offers_49 ⟨by decide, by decide⟩ ⟨rfl, rfl⟩ ⟨Nat.zero_le _, Nat.zero_le _⟩ rfl (Nat.le_of_ble_eq_true rfl) rfl (List.Perm.refl _) (List.Perm.refl _) ?_
        refine z_bipush (v := nI 8) G dX6_offers_52 rfl ?_
        refine z_iaddN G dX6_offers_54 (21 + 17 * o) (by omega) ?_
        refine z_iload_n G dX6_offers_55 1 rfl ?_
        refine z_iaddN G dX6_offers_56 (21 + 17 * o + g) (by omega) ?_
        refine z_istoreA G dX6_offers_57 (by decide) rfl ?_
        refine z_iload_n G dX6_offers_59 1 rfl ?_
        refine z_pSi (As := [_]) G _ _ _ (fun l => c_X6_g l D y (g)) k_X6_g gX6_offers_X6_g dX6_offers_60 ⟨by decide, by decide⟩ ⟨rfl, rfl⟩ ⟨Nat.zero_le _, Nat.zero_le _⟩ rfl (Nat.le_of_ble_eq_true rfl) rfl (List.Perm.refl _) (List.Perm.refl _) ?_
        refine z_bipush (v := nI 8) G dX6_offers_63 rfl ?_
        refine z_iaddN G dX6_offers_65 (21 + 17 * g) (by omega) ?_
        refine z_iload_n G dX6_offers_66 2 rfl ?_
        refine z_iaddN G dX6_offers_67 (21 + 17 * g + o) (by omega) ?_
        refine z_istoreA G dX6_offers_68 (by decide) rfl ?_
        refine z_aload_n G dX6_offers_70 0 rfl ?_
        refine mg_s G hin (List.mem_of_getElem? (i := 1) rfl) dX6_offers_71 ?_
        refine z_iload G dX6_offers_74 4 rfl ?_
        refine z_dup2 G dX6_offers_76 rfl rfl ?_
        refine ml_s G (by omega) dX6_offers_77 ?_
        refine z_iconst (v := nI 2) G dX6_offers_78 rfl ?_
        refine z_iadd G dX6_offers_79 ?_
        refine ms_s G (by omega) dX6_offers_80 ?_
        refine z_aload_n G dX6_offers_81 0 rfl ?_
        refine mg_s G hin (List.mem_of_getElem? (i := 1) rfl) dX6_offers_82 ?_
        refine z_bipush (v := nI 10) G dX6_offers_85 rfl ?_
        refine z_dup2 G dX6_offers_87 rfl rfl ?_
        refine ml_s G (by omega) dX6_offers_88 ?_
        refine z_iconst (v := nI 2) G dX6_offers_89 rfl ?_
        refine z_iadd G dX6_offers_90 ?_
        refine ms_s G (by omega) dX6_offers_91 ?_
        refine z_world (ws' := mdW y b (layF (drF s o c) o g (nI 2)) q) (by rw [upd_ne (show 10 ≠ 21 + 17 * o + g by omega)]; rfl) ?_
        refine z_aload_n G dX6_offers_92 0 rfl ?_
        refine mg_s G hin (List.mem_of_getElem? (i := 1) rfl) dX6_offers_93 ?_
        refine z_iload G dX6_offers_96 4 rfl ?_
        refine ml_s G (by omega) dX6_offers_98 ?_
        refine z_aload_n G dX6_offers_99 0 rfl ?_
        refine mg_s G hin (List.mem_of_getElem? (i := 1) rfl) dX6_offers_100 ?_
        refine z_iload G dX6_offers_103 5 rfl ?_
        refine ml_s G (by omega) dX6_offers_105 ?_
        refine z_icmp_ge G dX6_offers_106 119 (by decide) (fun c106 => ?_) (fun c106 => ?_)
        · refine z_aload_n G dX6_offers_119 0 rfl ?_
          refine mg_s G hin (List.mem_of_getElem? (i := 1) rfl) dX6_offers_120 ?_
          refine z_iload G dX6_offers_123 5 rfl ?_
          refine ml_s G (by omega) dX6_offers_125 ?_
          refine z_istoreA G dX6_offers_126 (by decide) rfl ?_
          refine z_lv (lv' := [(0, .ref (b 0)), (1, .int (nI g)), (2, .int (nI o)), (3, .int (pairE s (nI g) (nI o))), (4, .int (nI (21 + 17 * o + g))), (5, .int (nI (21 + 17 * g + o))), (6, .int (minF (layF (drF s o c) o g (nI 2)) g o))]) (by first | (rw [minF, if_pos (Int32.not_le.mp c106)]; rfl) | (rw [minF, if_neg (Int32.not_lt.mpr c106)]; rfl)) ?_
          refine z_aload_n G dX6_offers_128 0 rfl ?_
          refine mg_s G hin (List.mem_of_getElem? (i := 1) rfl) dX6_offers_129 ?_
          refine z_iload G dX6_offers_132 4 rfl ?_
          refine z_dup2 G dX6_offers_134 rfl rfl ?_
          refine ml_s G (by omega) dX6_offers_135 ?_
          refine z_iload G dX6_offers_136 6 rfl ?_
          refine z_isub G dX6_offers_138 ?_
          refine ms_s G (by omega) dX6_offers_139 ?_
          refine z_aload_n G dX6_offers_140 0 rfl ?_
          refine mg_s G hin (List.mem_of_getElem? (i := 1) rfl) dX6_offers_141 ?_
          refine z_iload G dX6_offers_144 5 rfl ?_
          refine z_dup2 G dX6_offers_146 rfl rfl ?_
          refine ml_s G (by omega) dX6_offers_147 ?_
          refine z_iload G dX6_offers_148 6 rfl ?_
          refine z_isub G dX6_offers_150 ?_
          refine ms_s G (by omega) dX6_offers_151 ?_
          refine z_aload_n G dX6_offers_152 0 rfl ?_
          refine mg_s G hin (List.mem_of_getElem? (i := 1) rfl) dX6_offers_153 ?_
          refine z_bipush (v := nI 9) G dX6_offers_156 rfl ?_
          refine z_dup2 G dX6_offers_158 rfl rfl ?_
          refine ml_s G (by omega) dX6_offers_159 ?_
          refine z_iconst (v := nI 2) G dX6_offers_160 rfl ?_
          refine z_iload G dX6_offers_161 6 rfl ?_
          refine z_imul G dX6_offers_163 ?_
          refine z_iadd G dX6_offers_164 ?_
          refine ms_s G (by omega) dX6_offers_165 ?_
          refine z_aload_n G dX6_offers_166 0 rfl ?_
          refine mg_s G hin (List.mem_of_getElem? (i := 1) rfl) dX6_offers_167 ?_
          refine z_iload G dX6_offers_170 4 rfl ?_
          refine ml_s G (by omega) dX6_offers_172 ?_
          exact hE _ _ _ _ dX6_offers_173 rfl (by have e : offF (layF (drF s o c) o g (nI 2)) g o = ofF s g o c := rfl; rw [ofR, if_neg (Int32.not_lt.mpr c8), nI_clamp (show g < 2 ^ 31 by omega), nI_clamp (show o < 2 ^ 31 by omega), if_neg (fun w => w.elim (fun w => c18 (rsn_pos.mpr w)) (Int32.not_lt.mpr c37)), ← e, offF, upd_comm (show 21 + 17 * g + o ≠ 21 + 17 * o + g by omega)]; generalize layF (drF s o c) o g (nI 2) = h; refine ⟨?_, ?_⟩ <;> rw [upd_ne (show 21 + 17 * g + o ≠ 21 + 17 * o + g by omega), upd_ne (show 9 ≠ 21 + 17 * g + o by omega), upd_ne (show 9 ≠ 21 + 17 * o + g by omega)] <;> rfl)
        · refine z_aload_n G dX6_offers_109 0 rfl ?_
          refine mg_s G hin (List.mem_of_getElem? (i := 1) rfl) dX6_offers_110 ?_
          refine z_iload G dX6_offers_113 4 rfl ?_
          refine ml_s G (by omega) dX6_offers_115 ?_
          refine z_goto (tgt := 126) G dX6_offers_116 (by decide) ?_
          refine z_istoreA G dX6_offers_126 (by decide) rfl ?_
          refine z_lv (lv' := [(0, .ref (b 0)), (1, .int (nI g)), (2, .int (nI o)), (3, .int (pairE s (nI g) (nI o))), (4, .int (nI (21 + 17 * o + g))), (5, .int (nI (21 + 17 * g + o))), (6, .int (minF (layF (drF s o c) o g (nI 2)) g o))]) (by first | (rw [minF, if_pos (Int32.not_le.mp c106)]; rfl) | (rw [minF, if_neg (Int32.not_lt.mpr c106)]; rfl)) ?_
          refine z_aload_n G dX6_offers_128 0 rfl ?_
          refine mg_s G hin (List.mem_of_getElem? (i := 1) rfl) dX6_offers_129 ?_
          refine z_iload G dX6_offers_132 4 rfl ?_
          refine z_dup2 G dX6_offers_134 rfl rfl ?_
          refine ml_s G (by omega) dX6_offers_135 ?_
          refine z_iload G dX6_offers_136 6 rfl ?_
          refine z_isub G dX6_offers_138 ?_
          refine ms_s G (by omega) dX6_offers_139 ?_
          refine z_aload_n G dX6_offers_140 0 rfl ?_
          refine mg_s G hin (List.mem_of_getElem? (i := 1) rfl) dX6_offers_141 ?_
          refine z_iload G dX6_offers_144 5 rfl ?_
          refine z_dup2 G dX6_offers_146 rfl rfl ?_
          refine ml_s G (by omega) dX6_offers_147 ?_
          refine z_iload G dX6_offers_148 6 rfl ?_
          refine z_isub G dX6_offers_150 ?_
          refine ms_s G (by omega) dX6_offers_151 ?_
          refine z_aload_n G dX6_offers_152 0 rfl ?_
          refine mg_s G hin (List.mem_of_getElem? (i := 1) rfl) dX6_offers_153 ?_
          refine z_bipush (v := nI 9) G dX6_offers_156 rfl ?_
          refine z_dup2 G dX6_offers_158 rfl rfl ?_
          refine ml_s G (by omega) dX6_offers_159 ?_
          refine z_iconst (v := nI 2) G dX6_offers_160 rfl ?_
          refine z_iload G dX6_offers_161 6 rfl ?_
          refine z_imul G dX6_offers_163 ?_
          refine z_iadd G dX6_offers_164 ?_
          refine ms_s G (by omega) dX6_offers_165 ?_
          refine z_aload_n G dX6_offers_166 0 rfl ?_
          refine mg_s G hin (List.mem_of_getElem? (i := 1) rfl) dX6_offers_167 ?_
          refine z_iload G dX6_offers_170 4 rfl ?_
          refine ml_s G (by omega) dX6_offers_172 ?_
          exact hE _ _ _ _ dX6_offers_173 rfl (by have e : offF (layF (drF s o c) o g (nI 2)) g o = ofF s g o c := rfl; rw [ofR, if_neg (Int32.not_lt.mpr c8), nI_clamp (show g < 2 ^ 31 by omega), nI_clamp (show o < 2 ^ 31 by omega), if_neg (fun w => w.elim (fun w => c18 (rsn_pos.mpr w)) (Int32.not_lt.mpr c37)), ← e, offF, upd_comm (show 21 + 17 * g + o ≠ 21 + 17 * o + g by omega)]; generalize layF (drF s o c) o g (nI 2) = h; refine ⟨?_, ?_⟩ <;> rw [upd_ne (show 21 + 17 * g + o ≠ 21 + 17 * o + g by omega), upd_ne (show 9 ≠ 21 + 17 * g + o by omega), upd_ne (show 9 ≠ 21 + 17 * o + g by omega)] <;> rfl)
      · refine z_bipush (v := (-5)) G dX6_offers_40 rfl ?_
        exact hE _ _ _ _ dX6_offers_42 rfl (by first | (rw [ofR, if_neg (Int32.not_lt.mpr c8), nI_clamp (show g < 2 ^ 31 by omega), nI_clamp (show o < 2 ^ 31 by omega), if_pos (Or.inl (rsn_pos.mp c18))]; exact ⟨rfl, rfl⟩) | (rw [ofR, if_neg (Int32.not_lt.mpr c8), nI_clamp (show g < 2 ^ 31 by omega), nI_clamp (show o < 2 ^ 31 by omega), if_pos (Or.inr (Int32.not_le.mp c37))]; exact ⟨rfl, rfl⟩))
  · refine z_iload_n G dX6_offers_11 3 rfl ?_
    exact hE _ _ _ _ dX6_offers_12 rfl (by rw [ofR, if_pos (Int32.not_le.mp c8)]; exact ⟨rfl, rfl⟩)
