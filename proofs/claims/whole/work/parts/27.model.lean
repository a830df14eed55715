theorem k_X6_seatedIn : zCal yX6_seatedIn wsX6_seatedIn cX6_seatedIn 5 (some .int) 2 := ⟨⟨_, rfl⟩, by decide +kernel⟩
theorem in_X6_seatedIn_X6 : ∀ w ∈ wsX60, w ∈ wsX6_seatedIn := fun _ h => List.mem_cons_of_mem _ (List.mem_append_right _ h)
set_option maxHeartbeats 4000000 in
set_option maxRecDepth 100000 in
theorem c_X6_seatedIn (l : Launch) (D : va_G) (y : Nat → ClassId) (b : Nat → Nat) (s : Nat → Int32) (q : mdQ) (hp : PF s) (hb : OB s) (x z : Int32) : zDi l D y yX6_seatedIn wsX6_seatedIn ({ frames := 4, cells := 0, slots := 0, locals := 91 }) [.ref (b 0), .int (x), .int (z)] (mdW y b s q) (stR s x z) (mdW y b s (if stB s x z = true then qs_trial q s else q)) := by
  refine zMi.mk (cc := cX6_seatedIn) (maxL := 5) (lv := [(0, .ref (b 0)), (1, .int (x)), (2, .int (z))]) (by decide) rfl (Nat.le_of_ble_eq_true rfl) rfl (fun X G hE => ?_)
  have hin := in_X6_seatedIn_X6
  refine z_aload_n G dX6_seatedIn_0 0 rfl ?_
  refine z_iload_n G dX6_seatedIn_1 1 rfl ?_
  refine z_dVi (As := [_]) G _ _ (fun l => c_X6_isGuest l D y b s q x) k_X6_isGuest gX6_seatedIn_X6_isGuest 0 6 rfl rfl rfl dX6_seatedIn_2 ⟨by decide, by decide⟩ ⟨rfl, rfl⟩ ⟨Nat.zero_le _, Nat.zero_le _⟩ rfl (Nat.le_of_ble_eq_true rfl) rfl ?_
  refine z_if_eq G dX6_seatedIn_5 22 (by decide) (fun c5 => ?_) (fun c5 => ?_)
  · refine z_iconst (v := (-1)) G dX6_seatedIn_22 rfl ?_
    exact hE _ _ _ _ dX6_seatedIn_23 rfl (by have n : stB s x z = false := (by rw [stB]; first | (rw [bI_0 c5]; rfl) | (rw [bI_0 c19]; exact Bool.and_false _)); rw [stR, n]; exact ⟨rfl, rfl⟩)
  · refine z_iload_n G dX6_seatedIn_8 2 rfl ?_
    refine z_iconst (v := nI 0) G dX6_seatedIn_9 rfl ?_
    refine z_aload_n G dX6_seatedIn_10 0 rfl ?_
    refine z_dVi (As := []) G _ _ (fun l => c_X6_guests l D y b s q hp) k_X6_guests gX6_seatedIn_X6_guests 0 6 rfl rfl rfl dX6_seatedIn_11 ⟨by decide, by decide⟩ ⟨rfl, rfl⟩ ⟨Nat.zero_le _, Nat.zero_le _⟩ rfl (Nat.le_of_ble_eq_true rfl) rfl ?_
    refine z_iconst (v := nI 1) G dX6_seatedIn_14 rfl ?_
    refine z_isub G dX6_seatedIn_15 ?_
    refine z_pSi (As := [_, _, _]) G _ _ _ (fun l => c_X6_in l D y z (nI 0) (nI (ng s) - nI 1)) k_X6_in gX6_seatedIn_X6_in dX6_seatedIn_16 ⟨by decide, by decide⟩ ⟨rfl, rfl⟩ ⟨Nat.zero_le _, Nat.zero_le _⟩ rfl (Nat.le_of_ble_eq_true rfl) rfl (List.Perm.refl _) (List.Perm.refl _) ?_
    refine z_if_ne G dX6_seatedIn_19 24 (by decide) (fun c19 => ?_) (fun c19 => ?_)
    · have hst0 : stB s x z = true := by rw [stB, bI_n c5, bI_n c19]; rfl
      obtain ⟨g, hg, rfl, sg⟩ := hx_t (bI_n c5)
      refine z_aload_n G dX6_seatedIn_24 0 rfl ?_
      refine z_dVv (As := []) G _ (fun l => c_X6_keepTrial l D y b s q) k_X6_keepTrial gX6_seatedIn_X6_keepTrial 0 6 rfl rfl rfl dX6_seatedIn_25 ⟨by decide, by decide⟩ ⟨rfl, rfl⟩ ⟨Nat.zero_le _, Nat.zero_le _⟩ rfl (Nat.le_of_ble_eq_true rfl) rfl ?_
      refine z_iconst (v := nI 0) G dX6_seatedIn_28 rfl ?_
      refine z_istore_nA G dX6_seatedIn_29 rfl (by decide) rfl ?_
      have lo : ∀ nk k : Nat, nk + k = 300 → siR s g z 300 0 = siR s g z nk k → zV D X (mdW y b (biF s (k)) (qs_trial q s)) 0 0 30 [(0, .ref (b 0)), (1, .int (nI (g))), (2, .int (z)), (3, .int (nI (k)))] [] := by
        intro nk
        induction nk with
        | zero =>
          intro k hk hsi
          obtain rfl : k = 300 := by omega
          refine z_iload_n G dX6_seatedIn_30 3 rfl ?_
          refine z_sipush (v := nI 300) G dX6_seatedIn_31 rfl ?_
          refine z_icmp_geT G dX6_seatedIn_34 59 (by decide) (nI_le (Nat.le_refl _) (by decide)) ?_
          refine z_aload_n G dX6_seatedIn_59 0 rfl ?_
          refine z_iload_n G dX6_seatedIn_60 1 rfl ?_
          refine z_dVi (As := [_]) G _ _ (fun l => c_X6_rankOf l D y b _ _ (OB_biF hb _) hg) k_X6_rankOf gX6_seatedIn_X6_rankOf 0 6 rfl rfl rfl dX6_seatedIn_61 ⟨by decide, by decide⟩ ⟨rfl, rfl⟩ ⟨Nat.zero_le _, Nat.zero_le _⟩ rfl (Nat.le_of_ble_eq_true rfl) rfl ?_
          refine z_iload_n G dX6_seatedIn_64 2 rfl ?_
          refine z_icmp_gt G dX6_seatedIn_65 72 (by decide) (fun c65 => ?_) (fun c65 => ?_)
          · refine z_iconst (v := nI 0) G dX6_seatedIn_72 rfl ?_
            refine z_istoreA G dX6_seatedIn_73 (by decide) rfl ?_
            refine z_aload_n G dX6_seatedIn_75 0 rfl ?_
            refine z_dVv (As := []) G _ (fun l => c_X6_putBack l D y b _ _) k_X6_putBack gX6_seatedIn_X6_putBack 0 6 rfl rfl rfl dX6_seatedIn_76 ⟨by decide, by decide⟩ ⟨rfl, rfl⟩ ⟨Nat.zero_le _, Nat.zero_le _⟩ rfl (Nat.le_of_ble_eq_true rfl) rfl ?_
            refine z_iload G dX6_seatedIn_79 4 rfl ?_
            refine z_if_eqT G dX6_seatedIn_81 88 (by decide) rfl ?_
            refine z_bipush (v := (-6)) G dX6_seatedIn_88 rfl ?_
            exact hE _ _ _ _ dX6_seatedIn_90 rfl ⟨(by rw [stR, if_pos hst0, nI_clamp (by omega), hsi]; first | rw [siR, if_pos c43] | (rw [siR, if_neg (Int32.not_le.mpr c65)]) | (rw [siR, if_pos (Int32.not_lt.mp c65)])), (by rw [if_pos hst0]; rfl)⟩
          · refine z_iconst (v := nI 1) G dX6_seatedIn_68 rfl ?_
            refine z_goto (tgt := 73) G dX6_seatedIn_69 (by decide) ?_
            refine z_istoreA G dX6_seatedIn_73 (by decide) rfl ?_
            refine z_aload_n G dX6_seatedIn_75 0 rfl ?_
            refine z_dVv (As := []) G _ (fun l => c_X6_putBack l D y b _ _) k_X6_putBack gX6_seatedIn_X6_putBack 0 6 rfl rfl rfl dX6_seatedIn_76 ⟨by decide, by decide⟩ ⟨rfl, rfl⟩ ⟨Nat.zero_le _, Nat.zero_le _⟩ rfl (Nat.le_of_ble_eq_true rfl) rfl ?_
            refine z_iload G dX6_seatedIn_79 4 rfl ?_
            refine z_if_eqF G dX6_seatedIn_81 88 (by decide) (by decide) ?_
            refine z_iload_n G dX6_seatedIn_84 3 rfl ?_
            refine z_goto (tgt := 90) G dX6_seatedIn_85 (by decide) ?_
            exact hE _ _ _ _ dX6_seatedIn_90 rfl ⟨(by rw [stR, if_pos hst0, nI_clamp (by omega), hsi]; first | rw [siR, if_pos c43] | (rw [siR, if_neg (Int32.not_le.mpr c65)]) | (rw [siR, if_pos (Int32.not_lt.mp c65)])), (by rw [if_pos hst0]; rfl)⟩
        | succ nk ihk =>
          intro k hk hsi
          have lk : k < 300 := by omega
          refine z_iload_n G dX6_seatedIn_30 3 rfl ?_
          refine z_sipush (v := nI 300) G dX6_seatedIn_31 rfl ?_
          refine z_icmp_geF G dX6_seatedIn_34 59 (by decide) (nI_ge lk (by decide)) ?_
          refine z_aload_n G dX6_seatedIn_37 0 rfl ?_
          refine z_iload_n G dX6_seatedIn_38 1 rfl ?_
          refine z_dVi (As := [_]) G _ _ (fun l => c_X6_rankOf l D y b _ _ (OB_biF hb _) hg) k_X6_rankOf gX6_seatedIn_X6_rankOf 0 6 rfl rfl rfl dX6_seatedIn_39 ⟨by decide, by decide⟩ ⟨rfl, rfl⟩ ⟨Nat.zero_le _, Nat.zero_le _⟩ rfl (Nat.le_of_ble_eq_true rfl) rfl ?_
          refine z_iload_n G dX6_seatedIn_42 2 rfl ?_
          refine z_icmp_le G dX6_seatedIn_43 59 (by decide) (fun c43 => ?_) (fun c43 => ?_)
          · refine z_aload_n G dX6_seatedIn_59 0 rfl ?_
            refine z_iload_n G dX6_seatedIn_60 1 rfl ?_
            refine z_dVi (As := [_]) G _ _ (fun l => c_X6_rankOf l D y b _ _ (OB_biF hb _) hg) k_X6_rankOf gX6_seatedIn_X6_rankOf 0 6 rfl rfl rfl dX6_seatedIn_61 ⟨by decide, by decide⟩ ⟨rfl, rfl⟩ ⟨Nat.zero_le _, Nat.zero_le _⟩ rfl (Nat.le_of_ble_eq_true rfl) rfl ?_
            refine z_iload_n G dX6_seatedIn_64 2 rfl ?_
            refine z_icmp_gtF G dX6_seatedIn_65 72 (by decide) (Int32.not_lt.mpr c43) ?_
            refine z_iconst (v := nI 1) G dX6_seatedIn_68 rfl ?_
            refine z_goto (tgt := 73) G dX6_seatedIn_69 (by decide) ?_
            refine z_istoreA G dX6_seatedIn_73 (by decide) rfl ?_
            refine z_aload_n G dX6_seatedIn_75 0 rfl ?_
            refine z_dVv (As := []) G _ (fun l => c_X6_putBack l D y b _ _) k_X6_putBack gX6_seatedIn_X6_putBack 0 6 rfl rfl rfl dX6_seatedIn_76 ⟨by decide, by decide⟩ ⟨rfl, rfl⟩ ⟨Nat.zero_le _, Nat.zero_le _⟩ rfl (Nat.le_of_ble_eq_true rfl) rfl ?_
            refine z_iload G dX6_seatedIn_79 4 rfl ?_
            refine z_if_eqF G dX6_seatedIn_81 88 (by decide) (by decide) ?_
            refine z_iload_n G dX6_seatedIn_84 3 rfl ?_
            refine z_goto (tgt := 90) G dX6_seatedIn_85 (by decide) ?_
            exact hE _ _ _ _ dX6_seatedIn_90 rfl ⟨(by rw [stR, if_pos hst0, nI_clamp (by omega), hsi]; first | rw [siR, if_pos c43] | (rw [siR, if_neg (Int32.not_le.mpr c65)]) | (rw [siR, if_pos (Int32.not_lt.mp c65)])), (by rw [if_pos hst0]; rfl)⟩
          · refine z_aload_n G dX6_seatedIn_46 0 rfl ?_
            refine z_iconst (v := nI 1) G dX6_seatedIn_47 rfl ?_
            refine z_dVi (As := [_]) G _ _ (fun l => c_X6_breaths l D y b _ _ (PF_biF hp k) (by decide)) k_X6_breaths gX6_seatedIn_X6_breaths 0 6 rfl rfl rfl dX6_seatedIn_48 ⟨by decide, by decide⟩ ⟨rfl, rfl⟩ ⟨Nat.zero_le _, Nat.zero_le _⟩ rfl (Nat.le_of_ble_eq_true rfl) rfl ?_
            refine z_istoreA G dX6_seatedIn_51 (by decide) rfl ?_
            refine z_iinc G dX6_seatedIn_53 3 rfl (nI (k + 1)) (nI_inc _) (by decide) rfl ?_
            refine z_goto (tgt := 30) G dX6_seatedIn_56 (by decide) ?_
            refine z_loc G [(0, .ref (b 0)), (1, .int (nI g)), (2, .int z), (3, .int (nI (k + 1)))] [0, 1, 2, 3] rfl ?_
            exact ihk (k + 1) (by omega) (by rw [hsi, siR, if_neg (Int32.not_le.mpr (Int32.not_le.mp c43))])
      exact lo 300 0 rfl rfl
    · refine z_iconst (v := (-1)) G dX6_seatedIn_22 rfl ?_
      exact hE _ _ _ _ dX6_seatedIn_23 rfl (by have n : stB s x z = false := (by rw [stB]; first | (rw [bI_0 c5]; rfl) | (rw [bI_0 c19]; exact Bool.and_false _)); rw [stR, n]; exact ⟨rfl, rfl⟩)

theorem k_X6_ifWord : zCal yX6_ifWord wsX6_ifWord cX6_ifWord 3 (some .int) 1 := ⟨⟨_, rfl⟩, by decide +kernel⟩
theorem in_X6_ifWord_X6 : ∀ w ∈ wsX60, w ∈ wsX6_ifWord := fun _ h => List.mem_cons_of_mem _ (List.mem_append_right _ h)
set_option maxHeartbeats 4000000 in
set_option maxRecDepth 100000 in
theorem c_X6_ifWord (l : Launch) (D : va_G) (y : Nat → ClassId) (b : Nat → Nat) (s : Nat → Int32) (q : mdQ) (hb : OB s) (x : Int32) : zDi l D y yX6_ifWord wsX6_ifWord ({ frames := 4, cells := 0, slots := 0, locals := 91 }) [.ref (b 0), .int (x)] (mdW y b s q) (iwR s x) (mdW y b s (if hx s x = true then qs_trial q s else q)) := by
  refine zMi.mk (cc := cX6_ifWord) (maxL := 3) (lv := [(0, .ref (b 0)), (1, .int (x))]) (by decide) rfl (Nat.le_of_ble_eq_true rfl) rfl (fun X G hE => ?_)
  have hin := in_X6_ifWord_X6
  refine z_aload_n G dX6_ifWord_0 0 rfl ?_
  refine z_iload_n G dX6_ifWord_1 1 rfl ?_
  refine z_dVi (As := [_]) G _ _ (fun l => c_X6_isGuest l D y b s q x) k_X6_isGuest gX6_ifWord_X6_isGuest 0 6 rfl rfl rfl dX6_ifWord_2 ⟨by decide, by decide⟩ ⟨rfl, rfl⟩ ⟨Nat.zero_le _, Nat.zero_le _⟩ rfl (Nat.le_of_ble_eq_true rfl) rfl ?_
  refine z_if_ne G dX6_ifWord_5 10 (by decide) (fun c5 => ?_) (fun c5 => ?_)
  · have hh := bI_n c5
    obtain ⟨g, hg, rfl, sg⟩ := hx_t (bI_n c5)
    refine z_aload_n G dX6_ifWord_10 0 rfl ?_
    refine z_dVv (As := []) G _ (fun l => c_X6_keepTrial l D y b s q) k_X6_keepTrial gX6_ifWord_X6_keepTrial 0 6 rfl rfl rfl dX6_ifWord_11 ⟨by decide, by decide⟩ ⟨rfl, rfl⟩ ⟨Nat.zero_le _, Nat.zero_le _⟩ rfl (Nat.le_of_ble_eq_true rfl) rfl ?_
    refine z_aload_n G dX6_ifWord_14 0 rfl ?_
    refine mg_s G hin (List.mem_of_getElem? (i := 1) rfl) dX6_ifWord_15 ?_
    refine z_iload_n G dX6_ifWord_18 1 rfl ?_
    refine z_pSi (As := [_]) G _ _ _ (fun l => c_X6_g l D y (g)) k_X6_g gX6_ifWord_X6_g dX6_ifWord_19 ⟨by decide, by decide⟩ ⟨rfl, rfl⟩ ⟨Nat.zero_le _, Nat.zero_le _⟩ rfl (Nat.le_of_ble_eq_true rfl) rfl (List.Perm.refl _) (List.Perm.refl _) ?_
    refine z_iconst (v := nI 3) G dX6_ifWord_22 rfl ?_
    refine z_iaddN G dX6_ifWord_23 (16 + 17 * g) (by omega) ?_
    refine z_iconst (v := nI 0) G dX6_ifWord_24 rfl ?_
    refine ms_s G (by omega) dX6_ifWord_25 ?_
    refine z_aload_n G dX6_ifWord_26 0 rfl ?_
    refine z_iload_n G dX6_ifWord_27 1 rfl ?_
    refine z_dVi (As := [_]) G _ _ (fun l => c_X6_rankOf l D y b _ _ (OB_congr hb (fun g2 _ => sumI_congr 9 (fun o _ => upd_ne (by omega)))) hg) k_X6_rankOf gX6_ifWord_X6_rankOf 0 6 rfl rfl rfl dX6_ifWord_28 ⟨by decide, by decide⟩ ⟨rfl, rfl⟩ ⟨Nat.zero_le _, Nat.zero_le _⟩ rfl (Nat.le_of_ble_eq_true rfl) rfl ?_
    refine z_istore_nA G dX6_ifWord_31 rfl (by decide) rfl ?_
    refine z_aload_n G dX6_ifWord_32 0 rfl ?_
    refine z_dVv (As := []) G _ (fun l => c_X6_putBack l D y b _ _) k_X6_putBack gX6_ifWord_X6_putBack 0 6 rfl rfl rfl dX6_ifWord_33 ⟨by decide, by decide⟩ ⟨rfl, rfl⟩ ⟨Nat.zero_le _, Nat.zero_le _⟩ rfl (Nat.le_of_ble_eq_true rfl) rfl ?_
    refine z_iload_n G dX6_ifWord_36 2 rfl ?_
    exact hE _ _ _ _ dX6_ifWord_37 rfl (by rw [iwR, if_pos hh, if_pos hh, nI_clamp (by omega)]; exact ⟨rfl, rfl⟩)
  · refine z_iconst (v := (-1)) G dX6_ifWord_8 rfl ?_
    exact hE _ _ _ _ dX6_ifWord_9 rfl (by rw [iwR, bI_0 c5]; exact ⟨rfl, rfl⟩)

theorem k_X6_ifRound : zCal yX6_ifRound wsX6_ifRound cX6_ifRound 4 (some .int) 1 := ⟨⟨_, rfl⟩, by decide +kernel⟩
theorem in_X6_ifRound_X6 : ∀ w ∈ wsX60, w ∈ wsX6_ifRound := fun _ h => List.mem_cons_of_mem _ (List.mem_append_right _ h)
set_option maxHeartbeats 4000000 in
set_option maxRecDepth 100000 in
theorem c_X6_ifRound (l : Launch) (D : va_G) (y : Nat → ClassId) (b : Nat → Nat) (s : Nat → Int32) (q : mdQ) (hp : PF s) (hu : SU s) (hj : SJ s) {c : Nat} (hc : s 0 = nI c) (hcm : c < 2 ^ 31) (hob : OB (cpH s c (ng s)).1) (x : Int32) : zDi l D y yX6_ifRound wsX6_ifRound ({ frames := 6, cells := 0, slots := 0, locals := 138 }) [.ref (b 0), .int (x)] (mdW y b s q) (irR s c x) (mdW y b s (irQ s c q x)) := by
  refine zMi.mk (cc := cX6_ifRound) (maxL := 4) (lv := [(0, .ref (b 0)), (1, .int (x))]) (by decide) rfl (Nat.le_of_ble_eq_true rfl) rfl (fun X G hE => ?_)
  have hin := in_X6_ifRound_X6
  refine z_iload_n G dX6_ifRound_0 1 rfl ?_
  refine z_iconst (v := nI 0) G dX6_ifRound_1 rfl ?_
  refine z_iconst (v := nI 2) G dX6_ifRound_2 rfl ?_
  refine z_pSi (As := [_, _, _]) G _ _ _ (fun l => c_X6_in l D y x (nI 0) (nI 2)) k_X6_in gX6_ifRound_X6_in dX6_ifRound_3 ⟨by decide, by decide⟩ ⟨rfl, rfl⟩ ⟨Nat.zero_le _, Nat.zero_le _⟩ rfl (Nat.le_of_ble_eq_true rfl) rfl (List.Perm.refl _) (List.Perm.refl _) ?_
  refine z_if_ne G dX6_ifRound_6 12 (by decide) (fun c6 => ?_) (fun c6 => ?_)
  · refine z_aload_n G dX6_ifRound_12 0 rfl ?_
    refine z_dVi (As := []) G _ _ (fun l => c_X6_guests l D y b s q hp) k_X6_guests gX6_ifRound_X6_guests 0 6 rfl rfl rfl dX6_ifRound_13 ⟨by decide, by decide⟩ ⟨rfl, rfl⟩ ⟨Nat.zero_le _, Nat.zero_le _⟩ rfl (Nat.le_of_ble_eq_true rfl) rfl ?_
    refine z_if_ne G dX6_ifRound_16 22 (by decide) (fun c16 => ?_) (fun c16 => ?_)
    · refine z_aload_n G dX6_ifRound_22 0 rfl ?_
      refine z_dVv (As := []) G _ (fun l => c_X6_keepTrial l D y b s q) k_X6_keepTrial gX6_ifRound_X6_keepTrial 0 6 rfl rfl rfl dX6_ifRound_23 ⟨by decide, by decide⟩ ⟨rfl, rfl⟩ ⟨Nat.zero_le _, Nat.zero_le _⟩ rfl (Nat.le_of_ble_eq_true rfl) rfl ?_
      refine z_aload_n G dX6_ifRound_26 0 rfl ?_
      refine z_dVi (As := []) G _ _ (fun l => c_X6_goesRound l D y b s _ hp hu hj hc hcm hob) k_X6_goesRound gX6_ifRound_X6_goesRound 0 6 rfl rfl rfl dX6_ifRound_27 ⟨by decide, by decide⟩ ⟨rfl, rfl⟩ ⟨Nat.zero_le _, Nat.zero_le _⟩ rfl (Nat.le_of_ble_eq_true rfl) rfl ?_
      refine z_istore_nA G dX6_ifRound_30 rfl (by decide) rfl ?_
      refine z_aload_n G dX6_ifRound_31 0 rfl ?_
      refine z_iconst (v := nI 0) G dX6_ifRound_32 rfl ?_
      refine z_dVi (As := [_]) G _ _ (fun l => c_X6_guestAt l D y b _ _ _) k_X6_guestAt gX6_ifRound_X6_guestAt 0 6 rfl rfl rfl dX6_ifRound_33 ⟨by decide, by decide⟩ ⟨rfl, rfl⟩ ⟨Nat.zero_le _, Nat.zero_le _⟩ rfl (Nat.le_of_ble_eq_true rfl) rfl ?_
      refine z_istore_nA G dX6_ifRound_36 rfl (by decide) rfl ?_
      refine z_aload_n G dX6_ifRound_37 0 rfl ?_
      refine z_dVv (As := []) G _ (fun l => c_X6_putBack l D y b _ _) k_X6_putBack gX6_ifRound_X6_putBack 0 6 rfl rfl rfl dX6_ifRound_38 ⟨by decide, by decide⟩ ⟨rfl, rfl⟩ ⟨Nat.zero_le _, Nat.zero_le _⟩ rfl (Nat.le_of_ble_eq_true rfl) rfl ?_
      refine z_iload_n G dX6_ifRound_41 1 rfl ?_
      refine z_if_ne G dX6_ifRound_42 49 (by decide) (fun c42 => ?_) (fun c42 => ?_)
      · refine z_iload_n G dX6_ifRound_49 1 rfl ?_
        refine z_iconst (v := nI 1) G dX6_ifRound_50 rfl ?_
        refine z_icmp_ne G dX6_ifRound_51 65 (by decide) (fun c51 => ?_) (fun c51 => ?_)
        · refine z_iload_n G dX6_ifRound_65 3 rfl ?_
          exact hE _ _ _ _ dX6_ifRound_66 rfl (by have n : ¬ ng s = 0 := (fun z => c16 (congrArg nI z)); rw [irR, irQ, if_pos (bI_n c6), if_neg n, if_pos (show inB x (nI 0) (nI 2) = true ∧ ¬ ng s = 0 from ⟨bI_n c6, n⟩)]; first | (rw [if_pos (show x = nI 0 from c42)]; exact ⟨rfl, rfl⟩) | (rw [if_neg (show ¬ x = nI 0 from c42), if_pos c51]; exact ⟨rfl, rfl⟩) | (rw [if_neg (show ¬ x = nI 0 from c42), if_neg c51]; exact ⟨rfl, rfl⟩))
        · refine z_iload_n G dX6_ifRound_54 2 rfl ?_
          refine z_aload_n G dX6_ifRound_55 0 rfl ?_
          refine mg_s G hin (List.mem_of_getElem? (i := 1) rfl) dX6_ifRound_56 ?_
          refine z_iconst (v := nI 0) G dX6_ifRound_59 rfl ?_
          refine ml_s G (by omega) dX6_ifRound_60 ?_
          refine z_imul G dX6_ifRound_61 ?_
          refine z_goto (tgt := 66) G dX6_ifRound_62 (by decide) ?_
          exact hE _ _ _ _ dX6_ifRound_66 rfl (by have n : ¬ ng s = 0 := (fun z => c16 (congrArg nI z)); rw [irR, irQ, if_pos (bI_n c6), if_neg n, if_pos (show inB x (nI 0) (nI 2) = true ∧ ¬ ng s = 0 from ⟨bI_n c6, n⟩)]; first | (rw [if_pos (show x = nI 0 from c42)]; exact ⟨rfl, rfl⟩) | (rw [if_neg (show ¬ x = nI 0 from c42), if_pos c51]; exact ⟨rfl, rfl⟩) | (rw [if_neg (show ¬ x = nI 0 from c42), if_neg c51]; exact ⟨rfl, rfl⟩))
      · refine z_iload_n G dX6_ifRound_45 2 rfl ?_
        refine z_goto (tgt := 66) G dX6_ifRound_46 (by decide) ?_
        exact hE _ _ _ _ dX6_ifRound_66 rfl (by have n : ¬ ng s = 0 := (fun z => c16 (congrArg nI z)); rw [irR, irQ, if_pos (bI_n c6), if_neg n, if_pos (show inB x (nI 0) (nI 2) = true ∧ ¬ ng s = 0 from ⟨bI_n c6, n⟩)]; first | (rw [if_pos (show x = nI 0 from c42)]; exact ⟨rfl, rfl⟩) | (rw [if_neg (show ¬ x = nI 0 from c42), if_pos c51]; exact ⟨rfl, rfl⟩) | (rw [if_neg (show ¬ x = nI 0 from c42), if_neg c51]; exact ⟨rfl, rfl⟩))
    · refine z_bipush (v := (-5)) G dX6_ifRound_19 rfl ?_
      exact hE _ _ _ _ dX6_ifRound_21 rfl (by have n : ng s = 0 := (nI_eq (by have := ng_le s; omega) (by decide)).mp c16; rw [irR, irQ, if_pos (bI_n c6), if_pos n, if_neg (fun z => z.2 n)]; exact ⟨rfl, rfl⟩)
  · refine z_bipush (v := (-2)) G dX6_ifRound_9 rfl ?_
    exact hE _ _ _ _ dX6_ifRound_11 rfl (by rw [irR, irQ, bI_0 c6]; exact ⟨rfl, rfl⟩)

theorem k_X6_canLead : zCal yX6_canLead wsX6_canLead cX6_canLead 4 (some .int) 0 := ⟨⟨_, rfl⟩, by decide +kernel⟩
theorem in_X6_canLead_X6 : ∀ w ∈ wsX60, w ∈ wsX6_canLead := fun _ h => List.mem_cons_of_mem _ (List.mem_append_right _ h)
set_option maxHeartbeats 4000000 in
set_option maxRecDepth 100000 in
theorem c_X6_canLead (l : Launch) (D : va_G) (y : Nat → ClassId) (b : Nat → Nat) (s : Nat → Int32) (q : mdQ) (hp : PF s) (hb : OB s) : zDi l D y yX6_canLead wsX6_canLead ({ frames := 5, cells := 0, slots := 0, locals := 114 }) [.ref (b 0)] (mdW y b s q) (clR s) (mdW y b s (if ng s = 0 then q else qs_trial q s)) := by
  refine zMi.mk (cc := cX6_canLead) (maxL := 4) (lv := [(0, .ref (b 0))]) (by decide) rfl (Nat.le_of_ble_eq_true rfl) rfl (fun X G hE => ?_)
  have hin := in_X6_canLead_X6
  refine z_aload_n G dX6_canLead_0 0 rfl ?_
  refine z_dVi (As := []) G _ _ (fun l => c_X6_guests l D y b s q hp) k_X6_guests gX6_canLead_X6_guests 0 6 rfl rfl rfl dX6_canLead_1 ⟨by decide, by decide⟩ ⟨rfl, rfl⟩ ⟨Nat.zero_le _, Nat.zero_le _⟩ rfl (Nat.le_of_ble_eq_true rfl) rfl ?_
  refine z_if_ne G dX6_canLead_4 9 (by decide) (fun c4 => ?_) (fun c4 => ?_)
  · refine z_aload_n G dX6_canLead_9 0 rfl ?_
    refine z_dVv (As := []) G _ (fun l => c_X6_keepTrial l D y b s q) k_X6_keepTrial gX6_canLead_X6_keepTrial 0 6 rfl rfl rfl dX6_canLead_10 ⟨by decide, by decide⟩ ⟨rfl, rfl⟩ ⟨Nat.zero_le _, Nat.zero_le _⟩ rfl (Nat.le_of_ble_eq_true rfl) rfl ?_
    refine z_iconst (v := nI 1) G dX6_canLead_13 rfl ?_
    refine z_aload_n G dX6_canLead_14 0 rfl ?_
    refine z_iconst (v := nI 0) G dX6_canLead_15 rfl ?_
    refine z_dVi (As := [_]) G _ _ (fun l => c_X6_guestRanked l D y b _ _ hb _) k_X6_guestRanked gX6_canLead_X6_guestRanked 0 6 rfl rfl rfl dX6_canLead_16 ⟨by decide, by decide⟩ ⟨rfl, rfl⟩ ⟨Nat.zero_le _, Nat.zero_le _⟩ rfl (Nat.le_of_ble_eq_true rfl) rfl ?_
    refine z_ishl G dX6_canLead_19 ?_
    refine z_istore_nA G dX6_canLead_20 rfl (by decide) rfl ?_
    refine z_iconst (v := nI 0) G dX6_canLead_21 rfl ?_
    refine z_istore_nA G dX6_canLead_22 rfl (by decide) rfl ?_
    have lo : ∀ nk k : Nat, nk + k = 100 → zV D X (mdW y b (biF s (k)) (qs_trial q s)) 0 0 23 [(0, .ref (b 0)), (1, .int (clF s (k))), (2, .int (nI (k)))] [] := by
      intro nk
      induction nk with
      | zero =>
        intro k hk
        obtain rfl : k = 100 := by omega
        refine z_iload_n G dX6_canLead_23 2 rfl ?_
        refine z_bipush (v := nI 100) G dX6_canLead_24 rfl ?_
        refine z_icmp_geT G dX6_canLead_26 51 (by decide) (nI_le (Nat.le_refl _) (by decide)) ?_
        refine z_aload_n G dX6_canLead_51 0 rfl ?_
        refine z_dVv (As := []) G _ (fun l => c_X6_putBack l D y b _ _) k_X6_putBack gX6_canLead_X6_putBack 0 6 rfl rfl rfl dX6_canLead_52 ⟨by decide, by decide⟩ ⟨rfl, rfl⟩ ⟨Nat.zero_le _, Nat.zero_le _⟩ rfl (Nat.le_of_ble_eq_true rfl) rfl ?_
        refine z_iload_n G dX6_canLead_55 1 rfl ?_
        exact hE _ _ _ _ dX6_canLead_56 rfl (by have n : ¬ ng s = 0 := (fun z => c4 (congrArg nI z)); rw [clR, if_neg n, if_neg n]; exact ⟨rfl, rfl⟩)
      | succ nk ihk =>
        intro k hk
        have lk : k < 100 := by omega
        refine z_iload_n G dX6_canLead_23 2 rfl ?_
        refine z_bipush (v := nI 100) G dX6_canLead_24 rfl ?_
        refine z_icmp_geF G dX6_canLead_26 51 (by decide) (nI_ge lk (by decide)) ?_
        refine z_aload_n G dX6_canLead_29 0 rfl ?_
        refine z_iconst (v := nI 1) G dX6_canLead_30 rfl ?_
        refine z_dVi (As := [_]) G _ _ (fun l => c_X6_breaths l D y b _ _ (PF_biF hp k) (by decide)) k_X6_breaths gX6_canLead_X6_breaths 0 6 rfl rfl rfl dX6_canLead_31 ⟨by decide, by decide⟩ ⟨rfl, rfl⟩ ⟨Nat.zero_le _, Nat.zero_le _⟩ rfl (Nat.le_of_ble_eq_true rfl) rfl ?_
        refine z_istore_nA G dX6_canLead_34 rfl (by decide) rfl ?_
        refine z_iload_n G dX6_canLead_35 1 rfl ?_
        refine z_iconst (v := nI 1) G dX6_canLead_36 rfl ?_
        refine z_aload_n G dX6_canLead_37 0 rfl ?_
        refine z_iconst (v := nI 0) G dX6_canLead_38 rfl ?_
        refine z_dVi (As := [_]) G _ _ (fun l => c_X6_guestRanked l D y b _ _ (OB_biF hb (k + 1)) _) k_X6_guestRanked gX6_canLead_X6_guestRanked 0 6 rfl rfl rfl dX6_canLead_39 ⟨by decide, by decide⟩ ⟨rfl, rfl⟩ ⟨Nat.zero_le _, Nat.zero_le _⟩ rfl (Nat.le_of_ble_eq_true rfl) rfl ?_
        refine z_ishl G dX6_canLead_42 ?_
        refine z_ior G dX6_canLead_43 ?_
        refine z_istore_n G dX6_canLead_44 rfl (by decide) 1 rfl ?_
        refine z_iinc G dX6_canLead_45 2 rfl (nI (k + 1)) (nI_inc _) (by decide) rfl ?_
        refine z_goto (tgt := 23) G dX6_canLead_48 (by decide) ?_
        refine z_loc G [(0, .ref (b 0)), (1, .int (clF s (k + 1))), (2, .int (nI (k + 1)))] [0, 1, 2] rfl ?_
        exact ihk (k + 1) (by omega)
    exact lo 100 0 rfl
  · refine z_iconst (v := nI 0) G dX6_canLead_7 rfl ?_
    exact hE _ _ _ _ dX6_canLead_8 rfl (by have n : ng s = 0 := (nI_eq (by have := ng_le s; omega) (by decide)).mp c4; rw [clR, if_pos n, if_pos n]; exact ⟨rfl, rfl⟩)

theorem k_X6_wipe : zCal yX6_wipe wsX6_wipe cX6_wipe 2 (some .int) 0 := ⟨⟨_, rfl⟩, by decide +kernel⟩
theorem in_X6_wipe_X6 : ∀ w ∈ wsX60, w ∈ wsX6_wipe := fun _ h => List.mem_cons_of_mem _ (List.mem_append_right _ h)
set_option maxHeartbeats 4000000 in
set_option maxRecDepth 100000 in
theorem c_X6_wipe (l : Launch) (D : va_G) (y : Nat → ClassId) (b : Nat → Nat) (s : Nat → Int32) (q : mdQ) : zDi l D y yX6_wipe wsX6_wipe ({ frames := 0, cells := 0, slots := 0, locals := 0 }) [.ref (b 0)] (mdW y b s q) (q_length q) (mdW y b s (qs_length q (nI 0))) := by
  refine zMi.mk (cc := cX6_wipe) (maxL := 2) (lv := [(0, .ref (b 0))]) (by decide) rfl (Nat.le_of_ble_eq_true rfl) rfl (fun X G hE => ?_)
  have hin := in_X6_wipe_X6
  refine z_aload_n G dX6_wipe_0 0 rfl ?_
  refine mg_length G hin (List.mem_of_getElem? (i := 1) rfl) dX6_wipe_1 ?_
  refine z_istore_nA G dX6_wipe_4 rfl (by decide) rfl ?_
  refine z_aload_n G dX6_wipe_5 0 rfl ?_
  refine z_iconst (v := nI 0) G dX6_wipe_6 rfl ?_
  refine mp_length G hin (List.mem_of_getElem? (i := 1) rfl) dX6_wipe_7 ?_
  refine z_iload_n G dX6_wipe_10 1 rfl ?_
  exact hE _ _ _ _ dX6_wipe_11 rfl ⟨rfl, rfl⟩

theorem k_X6_undo : zCal yX6_undo wsX6_undo cX6_undo 2 (some .int) 0 := ⟨⟨_, rfl⟩, by decide +kernel⟩
theorem in_X6_undo_X6 : ∀ w ∈ wsX60, w ∈ wsX6_undo := fun _ h => List.mem_cons_of_mem _ (List.mem_append_right _ h)
set_option maxHeartbeats 4000000 in
set_option maxRecDepth 100000 in
theorem c_X6_undo (l : Launch) (D : va_G) (y : Nat → ClassId) (b : Nat → Nat) (s : Nat → Int32) (q : mdQ) {st : Nat} (hst : q_states q = nI st) (h6 : st ≤ 6) : zDi l D y yX6_undo wsX6_undo ({ frames := 0, cells := 0, slots := 0, locals := 0 }) [.ref (b 0)] (mdW y b s q) (unR st) (mdW y b (unS s q st) (unQ q st)) := by
  refine zMi.mk (cc := cX6_undo) (maxL := 2) (lv := [(0, .ref (b 0))]) (by decide) rfl (Nat.le_of_ble_eq_true rfl) rfl (fun X G hE => ?_)
  have hin := in_X6_undo_X6
  refine z_aload_n G dX6_undo_0 0 rfl ?_
  refine mg_states G hin (List.mem_of_getElem? (i := 1) rfl) dX6_undo_1 ?_
  refine z_top (w := .int (nI (st))) (congrArg Value.int hst) ?_
  refine z_if_ne G dX6_undo_4 10 (by decide) (fun c4 => ?_) (fun c4 => ?_)
  · have n0 : ¬ st = 0 := fun z => c4 (congrArg nI z)
    refine z_aload_n G dX6_undo_10 0 rfl ?_
    refine z_dup G dX6_undo_11 rfl ?_
    refine mg_states G hin (List.mem_of_getElem? (i := 1) rfl) dX6_undo_12 ?_
    refine z_top (w := .int (nI (st))) (congrArg Value.int hst) ?_
    refine z_iconst (v := nI 1) G dX6_undo_15 rfl ?_
    refine z_isubN G dX6_undo_16 (by omega) ((st - 1)) rfl ?_
    refine mp_states G hin (List.mem_of_getElem? (i := 1) rfl) dX6_undo_17 ?_
    refine z_iconst (v := nI 0) G dX6_undo_20 rfl ?_
    refine z_istore_nA G dX6_undo_21 rfl (by decide) rfl ?_
    have lo : ∀ nj j : Nat, nj + j = 166 → zV D X (mdW y b (cpF s (svF (q_before q) (st - 1)) (j)) (qs_states q (nI (st - 1)))) 0 0 22 [(0, .ref (b 0)), (1, .int (nI (j)))] [] := by
      intro nj
      induction nj with
      | zero =>
        intro j hj
        obtain rfl : j = 166 := by omega
        refine z_iload_n G dX6_undo_22 1 rfl ?_
        refine z_sipush (v := nI 166) G dX6_undo_23 rfl ?_
        refine z_icmp_geT G dX6_undo_26 56 (by decide) (nI_le (Nat.le_refl _) (by decide)) ?_
        refine z_aload_n G dX6_undo_56 0 rfl ?_
        refine mg_states G hin (List.mem_of_getElem? (i := 1) rfl) dX6_undo_57 ?_
        exact hE _ _ _ _ dX6_undo_60 rfl (by rw [unR, unS, unQ, if_neg n0, if_neg n0, if_neg n0]; exact ⟨rfl, mdW_eq (fun i hi => cpF_at hi)⟩)
      | succ nj ihj =>
        intro j hj
        have lj : j < 166 := by omega
        refine z_iload_n G dX6_undo_22 1 rfl ?_
        refine z_sipush (v := nI 166) G dX6_undo_23 rfl ?_
        refine z_icmp_geF G dX6_undo_26 56 (by decide) (nI_ge lj (by decide)) ?_
        refine z_aload_n G dX6_undo_29 0 rfl ?_
        refine mg_s G hin (List.mem_of_getElem? (i := 2) rfl) dX6_undo_30 ?_
        refine z_iload_n G dX6_undo_33 1 rfl ?_
        refine z_aload_n G dX6_undo_34 0 rfl ?_
        refine mg_before G hin (List.mem_of_getElem? (i := 3) rfl) dX6_undo_35 ?_
        refine z_sipush (v := nI 166) G dX6_undo_38 rfl ?_
        refine z_aload_n G dX6_undo_41 0 rfl ?_
        refine mg_states G hin (List.mem_of_getElem? (i := 1) rfl) dX6_undo_42 ?_
        refine z_top (w := .int (nI ((st - 1)))) rfl ?_
        refine z_imulN G dX6_undo_45 (166 * (st - 1)) (by omega) ?_
        refine z_iload_n G dX6_undo_46 1 rfl ?_
        refine z_iaddN G dX6_undo_47 (166 * (st - 1) + j) (by omega) ?_
        refine ml_before G (by omega) dX6_undo_48 ?_
        refine ms_s G (by omega) dX6_undo_49 ?_
        refine z_iinc G dX6_undo_50 1 rfl (nI (j + 1)) (nI_inc _) (by decide) rfl ?_
        refine z_goto (tgt := 22) G dX6_undo_53 (by decide) ?_
        refine z_world (ws' := mdW y b (cpF s (svF (q_before q) (st - 1)) (j + 1)) (qs_states q (nI (st - 1)))) (by rw [← cpF_s]; rfl) ?_
        exact ihj (j + 1) (by omega)
    exact lo 166 0 rfl
  · refine z_bipush (v := (-5)) G dX6_undo_7 rfl ?_
    exact hE _ _ _ _ dX6_undo_9 rfl (by have n : st = 0 := (nI_eq (by omega) (by decide)).mp c4; rw [unR, unS, unQ, if_pos n, if_pos n, if_pos n]; exact ⟨rfl, rfl⟩)

theorem k_X6_save : zCal yX6_save wsX6_save cX6_save 3 (some .int) 1 := ⟨⟨_, rfl⟩, by decide +kernel⟩
theorem in_X6_save_X6 : ∀ w ∈ wsX60, w ∈ wsX6_save := fun _ h => List.mem_cons_of_mem _ (List.mem_append_right _ h)
set_option maxHeartbeats 4000000 in
set_option maxRecDepth 100000 in
theorem c_X6_save (l : Launch) (D : va_G) (y : Nat → ClassId) (b : Nat → Nat) (s : Nat → Int32) (q : mdQ) (hp : PF s) (x : Int32) : zDi l D y yX6_save wsX6_save ({ frames := 2, cells := 0, slots := 0, locals := 42 }) [.ref (b 0), .int (x)] (mdW y b s q) (saR s x) (mdW y b s (saQ s q x)) := by
  refine zMi.mk (cc := cX6_save) (maxL := 3) (lv := [(0, .ref (b 0)), (1, .int (x))]) (by decide) rfl (Nat.le_of_ble_eq_true rfl) rfl (fun X G hE => ?_)
  have hin := in_X6_save_X6
  refine z_iload_n G dX6_save_0 1 rfl ?_
  refine z_iconst (v := nI 0) G dX6_save_1 rfl ?_
  refine z_iconst (v := nI 1) G dX6_save_2 rfl ?_
  refine z_pSi (As := [_, _, _]) G _ _ _ (fun l => c_X6_in l D y x (nI 0) (nI 1)) k_X6_in gX6_save_X6_in dX6_save_3 ⟨by decide, by decide⟩ ⟨rfl, rfl⟩ ⟨Nat.zero_le _, Nat.zero_le _⟩ rfl (Nat.le_of_ble_eq_true rfl) rfl (List.Perm.refl _) (List.Perm.refl _) ?_
  refine z_if_ne G dX6_save_6 12 (by decide) (fun c6 => ?_) (fun c6 => ?_)
  · obtain ⟨k, hk, rfl⟩ := s01_t (bI_n c6)
    refine z_iconst (v := nI 0) G dX6_save_12 rfl ?_
    refine z_istore_nA G dX6_save_13 rfl (by decide) rfl ?_
    have lo : ∀ nj j : Nat, nj + j = 166 → zV D X (mdW y b s (qs_saved q (plF (q_saved q) s k (j)))) 0 0 14 [(0, .ref (b 0)), (1, .int (nI (k))), (2, .int (nI (j)))] [] := by
      intro nj
      induction nj with
      | zero =>
        intro j hj
        obtain rfl : j = 166 := by omega
        refine z_iload_n G dX6_save_14 2 rfl ?_
        refine z_sipush (v := nI 166) G dX6_save_15 rfl ?_
        refine z_icmp_geT G dX6_save_18 45 (by decide) (nI_le (Nat.le_refl _) (by decide)) ?_
        refine z_aload_n G dX6_save_45 0 rfl ?_
        refine mg_isSaved G hin (List.mem_of_getElem? (i := 3) rfl) dX6_save_46 ?_
        refine z_iload_n G dX6_save_49 1 rfl ?_
        refine z_iconst (v := nI 1) G dX6_save_50 rfl ?_
        refine ms_isSaved G (by omega) dX6_save_51 (Or.inr rfl) ?_
        refine z_aload_n G dX6_save_52 0 rfl ?_
        refine z_dVi (As := []) G _ _ (fun l => c_X6_guests l D y b s _ hp) k_X6_guests gX6_save_X6_guests 0 6 rfl rfl rfl dX6_save_53 ⟨by decide, by decide⟩ ⟨rfl, rfl⟩ ⟨Nat.zero_le _, Nat.zero_le _⟩ rfl (Nat.le_of_ble_eq_true rfl) rfl ?_
        exact hE _ _ _ _ dX6_save_56 rfl (by rw [saR, saQ, s01_n hk, nI_clamp (by omega)]; exact ⟨rfl, rfl⟩)
      | succ nj ihj =>
        intro j hj
        have lj : j < 166 := by omega
        refine z_iload_n G dX6_save_14 2 rfl ?_
        refine z_sipush (v := nI 166) G dX6_save_15 rfl ?_
        refine z_icmp_geF G dX6_save_18 45 (by decide) (nI_ge lj (by decide)) ?_
        refine z_aload_n G dX6_save_21 0 rfl ?_
        refine mg_saved G hin (List.mem_of_getElem? (i := 1) rfl) dX6_save_22 ?_
        refine z_sipush (v := nI 166) G dX6_save_25 rfl ?_
        refine z_iload_n G dX6_save_28 1 rfl ?_
        refine z_imulN G dX6_save_29 (166 * k) (by omega) ?_
        refine z_iload_n G dX6_save_30 2 rfl ?_
        refine z_iaddN G dX6_save_31 (166 * k + j) (by omega) ?_
        refine z_aload_n G dX6_save_32 0 rfl ?_
        refine mg_s G hin (List.mem_of_getElem? (i := 2) rfl) dX6_save_33 ?_
        refine z_iload_n G dX6_save_36 2 rfl ?_
        refine ml_s G (by omega) dX6_save_37 ?_
        refine ms_saved G (by omega) dX6_save_38 ?_
        refine z_iinc G dX6_save_39 2 rfl (nI (j + 1)) (nI_inc _) (by decide) rfl ?_
        refine z_goto (tgt := 14) G dX6_save_42 (by decide) ?_
        refine z_world (ws' := mdW y b s (qs_saved q (plF (q_saved q) s k (j + 1)))) (by rw [← plF_s]; rfl) ?_
        exact ihj (j + 1) (by omega)
    exact z_world (ws' := mdW y b s (qs_saved q (plF (q_saved q) s k (0)))) (by rw [plF_0]; rfl) (lo 166 0 rfl)
  · refine z_bipush (v := (-2)) G dX6_save_9 rfl ?_
    exact hE _ _ _ _ dX6_save_11 rfl (by have n : s01 x = false := bI_0 c6; rw [saR, saQ, n]; exact ⟨rfl, rfl⟩)

theorem k_X6_restore : zCal yX6_restore wsX6_restore cX6_restore 3 (some .int) 1 := ⟨⟨_, rfl⟩, by decide +kernel⟩
theorem in_X6_restore_X6 : ∀ w ∈ wsX60, w ∈ wsX6_restore := fun _ h => List.mem_cons_of_mem _ (List.mem_append_right _ h)
set_option maxHeartbeats 4000000 in
set_option maxRecDepth 100000 in
theorem c_X6_restore (l : Launch) (D : va_G) (y : Nat → ClassId) (b : Nat → Nat) (s : Nat → Int32) (q : mdQ) {st : Nat} (hst : q_states q = nI st) (h6 : st ≤ 6) (hps : ∀ k, k < 2 → ¬ q_isSaved q k = 0 → PF (svF (q_saved q) k)) (x : Int32) : zDi l D y yX6_restore wsX6_restore ({ frames := 2, cells := 0, slots := 0, locals := 42 }) [.ref (b 0), .int (x)] (mdW y b s q) (rsR q x) (mdW y b (rsS s q x) (rsQ s q st x)) := by
  refine zMi.mk (cc := cX6_restore) (maxL := 3) (lv := [(0, .ref (b 0)), (1, .int (x))]) (by decide) rfl (Nat.le_of_ble_eq_true rfl) rfl (fun X G hE => ?_)
  have hin := in_X6_restore_X6
  refine z_iload_n G dX6_restore_0 1 rfl ?_
  refine z_iconst (v := nI 0) G dX6_restore_1 rfl ?_
  refine z_iconst (v := nI 1) G dX6_restore_2 rfl ?_
  refine z_pSi (As := [_, _, _]) G _ _ _ (fun l => c_X6_in l D y x (nI 0) (nI 1)) k_X6_in gX6_restore_X6_in dX6_restore_3 ⟨by decide, by decide⟩ ⟨rfl, rfl⟩ ⟨Nat.zero_le _, Nat.zero_le _⟩ rfl (Nat.le_of_ble_eq_true rfl) rfl (List.Perm.refl _) (List.Perm.refl _) ?_
  refine z_if_ne G dX6_restore_6 12 (by decide) (fun c6 => ?_) (fun c6 => ?_)
  · obtain ⟨k, hk, rfl⟩ := s01_t (bI_n c6)
    refine z_aload_n G dX6_restore_12 0 rfl ?_
    refine mg_isSaved G hin (List.mem_of_getElem? (i := 1) rfl) dX6_restore_13 ?_
    refine z_iload_n G dX6_restore_16 1 rfl ?_
    refine ml_isSaved G (by omega) dX6_restore_17 ?_
    refine z_if_ne G dX6_restore_18 24 (by decide) (fun c18 => ?_) (fun c18 => ?_)
    · have hB : rsB q (nI k) = true := by rw [rsB, s01_n hk, nI_clamp (by omega)]; simp [c18]
      refine z_aload_n G dX6_restore_24 0 rfl ?_
      refine z_dVv (As := []) G _ (fun l => c_X6_hold l D y b s q) k_X6_hold gX6_restore_X6_hold 0 6 rfl rfl rfl dX6_restore_25 ⟨by decide, by decide⟩ ⟨rfl, rfl⟩ ⟨Nat.zero_le _, Nat.zero_le _⟩ rfl (Nat.le_of_ble_eq_true rfl) rfl ?_
      refine z_iconst (v := nI 0) G dX6_restore_28 rfl ?_
      refine z_istore_nA G dX6_restore_29 rfl (by decide) rfl ?_
      have lo : ∀ nj j : Nat, nj + j = 166 → zV D X (mdW y b (cpF s (svF (q_saved q) k) (j)) (qs_spare q s)) 0 0 30 [(0, .ref (b 0)), (1, .int (nI (k))), (2, .int (nI (j)))] [] := by
        intro nj
        induction nj with
        | zero =>
          intro j hj
          obtain rfl : j = 166 := by omega
          refine z_iload_n G dX6_restore_30 2 rfl ?_
          refine z_sipush (v := nI 166) G dX6_restore_31 rfl ?_
          refine z_icmp_geT G dX6_restore_34 61 (by decide) (nI_le (Nat.le_refl _) (by decide)) ?_
          refine z_world (ws' := mdW y b (svF (q_saved q) k) (qs_spare q s)) (mdW_eq (fun i hi => cpF_at hi)) ?_
          refine z_aload_n G dX6_restore_61 0 rfl ?_
          refine z_aload_n G dX6_restore_62 0 rfl ?_
          refine z_dVi (As := []) G _ _ (fun l => c_X6_guests l D y b _ _ (hps k hk c18)) k_X6_guests gX6_restore_X6_guests 0 6 rfl rfl rfl dX6_restore_63 ⟨by decide, by decide⟩ ⟨rfl, rfl⟩ ⟨Nat.zero_le _, Nat.zero_le _⟩ rfl (Nat.le_of_ble_eq_true rfl) rfl ?_
          refine z_dVi (As := [_]) G _ _ (fun l => c_X6_recorded l D y b _ (qs_spare q s) (st := st) (show q_states (qs_spare q s) = nI st from hst) h6 _) k_X6_recorded gX6_restore_X6_recorded 0 6 rfl rfl rfl dX6_restore_66 ⟨by decide, by decide⟩ ⟨rfl, rfl⟩ ⟨Nat.zero_le _, Nat.zero_le _⟩ rfl (Nat.le_of_ble_eq_true rfl) rfl ?_
          exact hE _ _ _ _ dX6_restore_69 rfl (by rw [rsR, rsS, rsQ, hB, s01_n hk, nI_clamp (by omega), rcQ, if_pos (nI_pos' (by have := ng_le (svF (q_saved q) k); omega))]; exact ⟨(by rw [if_pos rfl, if_neg c18]), rfl⟩)
        | succ nj ihj =>
          intro j hj
          have lj : j < 166 := by omega
          refine z_iload_n G dX6_restore_30 2 rfl ?_
          refine z_sipush (v := nI 166) G dX6_restore_31 rfl ?_
          refine z_icmp_geF G dX6_restore_34 61 (by decide) (nI_ge lj (by decide)) ?_
          refine z_aload_n G dX6_restore_37 0 rfl ?_
          refine mg_s G hin (List.mem_of_getElem? (i := 2) rfl) dX6_restore_38 ?_
          refine z_iload_n G dX6_restore_41 2 rfl ?_
          refine z_aload_n G dX6_restore_42 0 rfl ?_
          refine mg_saved G hin (List.mem_of_getElem? (i := 3) rfl) dX6_restore_43 ?_
          refine z_sipush (v := nI 166) G dX6_restore_46 rfl ?_
          refine z_iload_n G dX6_restore_49 1 rfl ?_
          refine z_imulN G dX6_restore_50 (166 * k) (by omega) ?_
          refine z_iload_n G dX6_restore_51 2 rfl ?_
          refine z_iaddN G dX6_restore_52 (166 * k + j) (by omega) ?_
          refine ml_saved G (by omega) dX6_restore_53 ?_
          refine ms_s G (by omega) dX6_restore_54 ?_
          refine z_iinc G dX6_restore_55 2 rfl (nI (j + 1)) (nI_inc _) (by decide) rfl ?_
          refine z_goto (tgt := 30) G dX6_restore_58 (by decide) ?_
          refine z_world (ws' := mdW y b (cpF s (svF (q_saved q) k) (j + 1)) (qs_spare q s)) (by rw [← cpF_s]; rfl) ?_
          exact ihj (j + 1) (by omega)
      exact lo 166 0 rfl
    · refine z_bipush (v := (-5)) G dX6_restore_21 rfl ?_
      exact hE _ _ _ _ dX6_restore_23 rfl (by have n : rsB q (nI k) = false := (by rw [rsB, s01_n hk, nI_clamp (by omega)]; simp [c18]); rw [rsR, rsS, rsQ, n, s01_n hk, nI_clamp (by omega)]; exact ⟨(by rw [if_pos rfl, if_pos c18]), rfl⟩)
  · refine z_bipush (v := (-2)) G dX6_restore_9 rfl ?_
    exact hE _ _ _ _ dX6_restore_11 rfl (by have n : s01 x = false := bI_0 c6; rw [rsR, rsS, rsQ, rsB, n]; exact ⟨rfl, rfl⟩)

theorem k_X6_put : zCal yX6_put wsX6_put cX6_put 8 (some .int) 1 := ⟨⟨_, rfl⟩, by decide +kernel⟩
theorem in_X6_put_X6 : ∀ w ∈ wsX60, w ∈ wsX6_put := fun _ h => List.mem_cons_of_mem _ (List.mem_append_right _ h)
set_option maxHeartbeats 4000000 in
set_option maxRecDepth 100000 in
theorem c_X6_put (l : Launch) (D : va_G) (y : Nat → ClassId) (b : Nat → Nat) (s : Nat → Int32) (q : mdQ) {len : Nat} (hlen : q_length q = nI len) (h80 : len ≤ 80) {n : Nat} (hn : n < 2 ^ 64) : zDi l D y yX6_put wsX6_put ({ frames := 0, cells := 0, slots := 0, locals := 0 }) [.ref (b 0), .long (lN n)] (mdW y b s q) (puR n len) (mdW y b s (puQ q n len)) := by
  refine zMi.mk (cc := cX6_put) (maxL := 8) (lv := [(0, .ref (b 0)), (1, .long (lN n))]) (by decide) rfl (Nat.le_of_ble_eq_true rfl) rfl (fun X G hE => ?_)
  have hin := in_X6_put_X6
  refine z_iconst (v := nI 0) G dX6_put_0 rfl ?_
  refine z_istore_nA G dX6_put_1 rfl (by decide) rfl ?_
  refine z_lload_n G dX6_put_2 1 rfl ?_
  refine z_lstoreA G dX6_put_3 (by decide) rfl ?_
  have l1 : ∀ nm m : Nat, nm + m = 8 → ck 8 n 0 = ck nm (n / 256 ^ m) m → zV D X (mdW y b s q) 0 0 5 [(0, .ref (b 0)), (1, .long (lN n)), (3, .int (nI (m))), (4, .long (lN (n / 256 ^ (m))))] [] := by
    intro nm
    induction nm with
    | zero =>
      intro m hm hck
      obtain rfl : m = 8 := by omega
      have hck : ck 8 n 0 = 8 := hck
      refine z_iload_n G dX6_put_5 2 rfl ?_
      refine z_bipush (v := nI 8) G dX6_put_6 rfl ?_
      refine z_icmp_geT G dX6_put_8 60 (by decide) (nI_le (Nat.le_refl _) (by decide)) ?_
      refine z_iload_n G dX6_put_60 2 rfl ?_
      refine z_if_neT G dX6_put_61 67 (by decide) (by decide) ?_
      have hm0 : 0 < (8) := by decide
      refine z_aload_n G dX6_put_67 0 rfl ?_
      refine mg_length G hin (List.mem_of_getElem? (i := 4) rfl) dX6_put_68 ?_
      refine z_top (w := .int (nI (len))) (congrArg Value.int hlen) ?_
      refine z_iload_n G dX6_put_71 2 rfl ?_
      refine z_iaddN G dX6_put_72 (len + 8) (by omega) ?_
      refine z_bipush (v := nI 80) G dX6_put_73 rfl ?_
      refine z_icmp_le G dX6_put_75 81 (by decide) (fun c75 => ?_) (fun c75 => ?_)
      · have e1 : len + (8) ≤ 80 := (nI_leI (by omega) (by decide)).mp c75
        refine z_iload_n G dX6_put_81 2 rfl ?_
        refine z_iconst (v := nI 1) G dX6_put_82 rfl ?_
        refine z_isubN G dX6_put_83 (by omega) ((8 - 1)) rfl ?_
        refine z_istoreA G dX6_put_84 (by decide) rfl ?_
        have l2 : ∀ nj j : Nat, nj + j = 8 → zV D X (mdW y b s (qs_length (qs_pad q (chF (q_pad q) n len (8) (j))) (nI (len + (j))))) 0 0 86 [(0, .ref (b 0)), (1, .long (lN n)), (3, .int (nI (8))), (6, .int (dk (8) (j)))] [] := by
          intro nj
          induction nj with
          | zero =>
            intro j hj
            obtain rfl : j = 8 := by omega
            refine z_iload G dX6_put_86 3 rfl ?_
            refine z_if_ltT G dX6_put_88 129 (by decide) (dk_end _) ?_
            refine z_aload_n G dX6_put_129 0 rfl ?_
            refine mg_length G hin (List.mem_of_getElem? (i := 4) rfl) dX6_put_130 ?_
            exact hE _ _ _ _ dX6_put_133 rfl (by have e0 : ¬ ck 8 n 0 = 0 := (by rw [hck]; omega); have e2 : ¬ 80 < len + ck 8 n 0 := (by rw [hck]; omega); rw [puR, puQ, puT, puN, if_neg e0, if_neg e0, if_neg e0, if_neg e2, if_neg e2, if_neg e2, hck]; exact ⟨rfl, rfl⟩)
          | succ nj ihj =>
            intro j hj
            have lj : j < 8 := by omega
            refine z_lv (lv' := [(0, .ref (b 0)), (1, .long (lN n)), (3, .int (nI (8))), (6, .int (nI ((8) - 1 - j)))]) (by rw [dk_in lj]) ?_
            refine z_iload G dX6_put_86 3 rfl ?_
            refine z_if_ltF G dX6_put_88 129 (by decide) (nI_pos (by omega)) ?_
            refine z_aload_n G dX6_put_91 0 rfl ?_
            refine mg_pad G hin (List.mem_of_getElem? (i := 5) rfl) dX6_put_92 ?_
            refine z_aload_n G dX6_put_95 0 rfl ?_
            refine mg_length G hin (List.mem_of_getElem? (i := 4) rfl) dX6_put_96 ?_
            refine z_top (w := .int (nI (j + len))) (congrArg Value.int (congrArg nI (by omega))) ?_
            refine z_lload_n G dX6_put_99 1 rfl ?_
            refine z_bipush (v := nI 8) G dX6_put_100 rfl ?_
            refine z_iload G dX6_put_102 3 rfl ?_
            refine z_imulN G dX6_put_104 (8 * ((8) - 1 - j)) (by omega) ?_
            refine z_lushr G (lN (n / 256 ^ ((8) - 1 - j))) dX6_put_105 (by rw [wb_shr hn (by omega), p256]) ?_
            refine z_ldc2 G (List.mem_of_getElem? (i := 1) rfl) dX6_put_106 ?_
            refine z_land G dX6_put_109 ?_
            refine z_top (w := .long (lN (n / 256 ^ ((8) - 1 - j) % 256))) (congrArg Value.long (l255 (dv_lt hn))) ?_
            refine z_l2i G (nI ((n / 256 ^ ((8) - 1 - j) % 256))) dX6_put_110 (lN_i _) ?_
            refine z_i2c G (nI ((n / 256 ^ ((8) - 1 - j) % 256))) dX6_put_111 (c_i2c (Nat.mod_lt _ (by decide))) ?_
            refine ms_pad G (by omega) dX6_put_112 (nI (n / 256 ^ ((8) - 1 - j) % 256)) (c_nar (Nat.mod_lt _ (by decide))) ?_
            refine z_aload_n G dX6_put_113 0 rfl ?_
            refine z_dup G dX6_put_114 rfl ?_
            refine mg_length G hin (List.mem_of_getElem? (i := 4) rfl) dX6_put_115 ?_
            refine z_iconst (v := nI 1) G dX6_put_118 rfl ?_
            refine z_iadd G dX6_put_119 ?_
            refine mp_length G hin (List.mem_of_getElem? (i := 4) rfl) dX6_put_120 ?_
            refine z_iinc G dX6_put_123 3 rfl (dk (8) (j + 1)) (dk_s lj) (by decide) rfl ?_
            refine z_goto (tgt := 86) G dX6_put_126 (by decide) ?_
            refine z_world (ws' := mdW y b s (qs_length (qs_pad q (chF (q_pad q) n len (8) (j + 1))) (nI (len + (j + 1))))) (by rw [← chF_s, show nI (len + (j + 1)) = nI (len + j) + nI 1 from (nI_add (len + j) 1).symm, show j + len = len + j from Nat.add_comm _ _]; rfl) ?_
            exact ihj (j + 1) (by omega)
        exact z_loc G [(0, .ref (b 0)), (1, .long (lN n)), (3, .int (nI (8))), (6, .int (dk (8) 0))] [0, 1, 2, 4] (by rw [dk_0 hm0]; rfl) (z_world (ws' := mdW y b s (qs_length (qs_pad q (chF (q_pad q) n len (8) (0))) (nI (len + (0))))) (by rw [chF_0, Nat.add_zero, ← hlen]; rfl) (l2 (8) 0 rfl))
      · refine z_bipush (v := (-4)) G dX6_put_78 rfl ?_
        exact hE _ _ _ _ dX6_put_80 rfl (by have e0 : ¬ ck 8 n 0 = 0 := (by rw [hck]; omega); have e1 : 80 < len + ck 8 n 0 := (by rw [hck]; exact Nat.not_le.mp (fun z => c75 (nI_le z (by decide)))); rw [puR, puQ, puT, puN, if_neg e0, if_neg e0, if_neg e0, if_pos e1, if_pos e1, if_pos e1, ← hlen]; exact ⟨rfl, rfl⟩)
    | succ nm ihm =>
      intro m hm hck
      have lm : m < 8 := by omega
      refine z_iload_n G dX6_put_5 2 rfl ?_
      refine z_bipush (v := nI 8) G dX6_put_6 rfl ?_
      refine z_icmp_geF G dX6_put_8 60 (by decide) (nI_ge lm (by decide)) ?_
      refine z_lload G dX6_put_11 3 rfl ?_
      refine z_lconst (v := 0) G dX6_put_13 rfl ?_
      refine z_lcmp G dX6_put_14 ?_
      refine z_if_eq G dX6_put_15 60 (by decide) (fun c15 => ?_) (fun c15 => ?_)
      · have hck : ck 8 n 0 = m := by rw [hck, ck, if_pos ((l_ne0 (dv_lt hn)).mp c15)]
        refine z_iload_n G dX6_put_60 2 rfl ?_
        refine z_if_ne G dX6_put_61 67 (by decide) (fun c61 => ?_) (fun c61 => ?_)
        · have hm0 : 0 < (m) := Nat.pos_of_ne_zero (fun z => c61 (by rw [z]; rfl))
          refine z_aload_n G dX6_put_67 0 rfl ?_
          refine mg_length G hin (List.mem_of_getElem? (i := 4) rfl) dX6_put_68 ?_
          refine z_top (w := .int (nI (len))) (congrArg Value.int hlen) ?_
          refine z_iload_n G dX6_put_71 2 rfl ?_
          refine z_iaddN G dX6_put_72 (len + m) (by omega) ?_
          refine z_bipush (v := nI 80) G dX6_put_73 rfl ?_
          refine z_icmp_le G dX6_put_75 81 (by decide) (fun c75 => ?_) (fun c75 => ?_)
          · have e1 : len + (m) ≤ 80 := (nI_leI (by omega) (by decide)).mp c75
            refine z_iload_n G dX6_put_81 2 rfl ?_
            refine z_iconst (v := nI 1) G dX6_put_82 rfl ?_
            refine z_isubN G dX6_put_83 (by omega) ((m - 1)) rfl ?_
            refine z_istoreA G dX6_put_84 (by decide) rfl ?_
            have l2 : ∀ nj j : Nat, nj + j = m → zV D X (mdW y b s (qs_length (qs_pad q (chF (q_pad q) n len (m) (j))) (nI (len + (j))))) 0 0 86 [(0, .ref (b 0)), (1, .long (lN n)), (3, .int (nI (m))), (6, .int (dk (m) (j)))] [] := by
              intro nj
              induction nj with
              | zero =>
                intro j hj
                obtain rfl : j = m := by omega
                refine z_iload G dX6_put_86 3 rfl ?_
                refine z_if_ltT G dX6_put_88 129 (by decide) (dk_end _) ?_
                refine z_aload_n G dX6_put_129 0 rfl ?_
                refine mg_length G hin (List.mem_of_getElem? (i := 4) rfl) dX6_put_130 ?_
                exact hE _ _ _ _ dX6_put_133 rfl (by have e0 : ¬ ck 8 n 0 = 0 := (by rw [hck]; omega); have e2 : ¬ 80 < len + ck 8 n 0 := (by rw [hck]; omega); rw [puR, puQ, puT, puN, if_neg e0, if_neg e0, if_neg e0, if_neg e2, if_neg e2, if_neg e2, hck]; exact ⟨rfl, rfl⟩)
              | succ nj ihj =>
                intro j hj
                have lj : j < m := by omega
                refine z_lv (lv' := [(0, .ref (b 0)), (1, .long (lN n)), (3, .int (nI (m))), (6, .int (nI ((m) - 1 - j)))]) (by rw [dk_in lj]) ?_
                refine z_iload G dX6_put_86 3 rfl ?_
                refine z_if_ltF G dX6_put_88 129 (by decide) (nI_pos (by omega)) ?_
                refine z_aload_n G dX6_put_91 0 rfl ?_
                refine mg_pad G hin (List.mem_of_getElem? (i := 5) rfl) dX6_put_92 ?_
                refine z_aload_n G dX6_put_95 0 rfl ?_
                refine mg_length G hin (List.mem_of_getElem? (i := 4) rfl) dX6_put_96 ?_
                refine z_top (w := .int (nI (j + len))) (congrArg Value.int (congrArg nI (by omega))) ?_
                refine z_lload_n G dX6_put_99 1 rfl ?_
                refine z_bipush (v := nI 8) G dX6_put_100 rfl ?_
                refine z_iload G dX6_put_102 3 rfl ?_
                refine z_imulN G dX6_put_104 (8 * ((m) - 1 - j)) (by omega) ?_
                refine z_lushr G (lN (n / 256 ^ ((m) - 1 - j))) dX6_put_105 (by rw [wb_shr hn (by omega), p256]) ?_
                refine z_ldc2 G (List.mem_of_getElem? (i := 1) rfl) dX6_put_106 ?_
                refine z_land G dX6_put_109 ?_
                refine z_top (w := .long (lN (n / 256 ^ ((m) - 1 - j) % 256))) (congrArg Value.long (l255 (dv_lt hn))) ?_
                refine z_l2i G (nI ((n / 256 ^ ((m) - 1 - j) % 256))) dX6_put_110 (lN_i _) ?_
                refine z_i2c G (nI ((n / 256 ^ ((m) - 1 - j) % 256))) dX6_put_111 (c_i2c (Nat.mod_lt _ (by decide))) ?_
                refine ms_pad G (by omega) dX6_put_112 (nI (n / 256 ^ ((m) - 1 - j) % 256)) (c_nar (Nat.mod_lt _ (by decide))) ?_
                refine z_aload_n G dX6_put_113 0 rfl ?_
                refine z_dup G dX6_put_114 rfl ?_
                refine mg_length G hin (List.mem_of_getElem? (i := 4) rfl) dX6_put_115 ?_
                refine z_iconst (v := nI 1) G dX6_put_118 rfl ?_
                refine z_iadd G dX6_put_119 ?_
                refine mp_length G hin (List.mem_of_getElem? (i := 4) rfl) dX6_put_120 ?_
                refine z_iinc G dX6_put_123 3 rfl (dk (m) (j + 1)) (dk_s lj) (by decide) rfl ?_
                refine z_goto (tgt := 86) G dX6_put_126 (by decide) ?_
                refine z_world (ws' := mdW y b s (qs_length (qs_pad q (chF (q_pad q) n len (m) (j + 1))) (nI (len + (j + 1))))) (by rw [← chF_s, show nI (len + (j + 1)) = nI (len + j) + nI 1 from (nI_add (len + j) 1).symm, show j + len = len + j from Nat.add_comm _ _]; rfl) ?_
                exact ihj (j + 1) (by omega)
            exact z_loc G [(0, .ref (b 0)), (1, .long (lN n)), (3, .int (nI (m))), (6, .int (dk (m) 0))] [0, 1, 2, 4] (by rw [dk_0 hm0]; rfl) (z_world (ws' := mdW y b s (qs_length (qs_pad q (chF (q_pad q) n len (m) (0))) (nI (len + (0))))) (by rw [chF_0, Nat.add_zero, ← hlen]; rfl) (l2 (m) 0 rfl))
          · refine z_bipush (v := (-4)) G dX6_put_78 rfl ?_
            exact hE _ _ _ _ dX6_put_80 rfl (by have e0 : ¬ ck 8 n 0 = 0 := (by rw [hck]; omega); have e1 : 80 < len + ck 8 n 0 := (by rw [hck]; exact Nat.not_le.mp (fun z => c75 (nI_le z (by decide)))); rw [puR, puQ, puT, puN, if_neg e0, if_neg e0, if_neg e0, if_pos e1, if_pos e1, if_pos e1, ← hlen]; exact ⟨rfl, rfl⟩)
        · refine z_bipush (v := (-2)) G dX6_put_64 rfl ?_
          exact hE _ _ _ _ dX6_put_66 rfl (by have e0 : ck 8 n 0 = 0 := hck.trans ((nI_eq (by omega) (by decide)).mp c61); rw [puR, puQ, puT, puN, if_pos e0, if_pos e0, if_pos e0, ← hlen]; exact ⟨rfl, rfl⟩)
      · have n0 : ¬ n / 256 ^ m = 0 := fun z => c15 ((l_ne0 (dv_lt hn)).mpr z)
        refine z_lload G dX6_put_18 3 rfl ?_
        refine z_ldc2 G (List.mem_of_getElem? (i := 1) rfl) dX6_put_20 ?_
        refine z_land G dX6_put_23 ?_
        refine z_top (w := .long (lN (n / 256 ^ m % 256))) (congrArg Value.long (l255 (dv_lt hn))) ?_
        refine z_lstoreA G dX6_put_24 (by decide) rfl ?_
        refine z_lload G dX6_put_26 4 rfl ?_
        refine z_ldc2 G (List.mem_of_getElem? (i := 2) rfl) dX6_put_28 ?_
        refine z_lcmp G dX6_put_31 ?_
        refine z_if_lt G dX6_put_32 44 (by decide) (fun c32 => ?_) (fun c32 => ?_)
        · refine z_bipush (v := (-2)) G dX6_put_44 rfl ?_
          exact hE _ _ _ _ dX6_put_46 rfl (by have e0 : ck 8 n 0 = 0 := (by first | rw [hck, ck, if_neg n0, if_pos (Or.inl ((l_lo (Nat.mod_lt _ (by decide))).mp c32))] | rw [hck, ck, if_neg n0, if_pos (Or.inr (Decidable.of_not_not (fun z => c41 ((l_hi (Nat.mod_lt _ (by decide))).mpr z))))]); rw [puR, puQ, puT, puN, if_pos e0, if_pos e0, if_pos e0, ← hlen]; exact ⟨rfl, rfl⟩)
        · refine z_lload G dX6_put_35 4 rfl ?_
          refine z_ldc2 G (List.mem_of_getElem? (i := 3) rfl) dX6_put_37 ?_
          refine z_lcmp G dX6_put_40 ?_
          refine z_if_le G dX6_put_41 47 (by decide) (fun c41 => ?_) (fun c41 => ?_)
          · refine z_lload G dX6_put_47 3 rfl ?_
            refine z_bipush (v := nI 8) G dX6_put_49 rfl ?_
            refine z_lushr G (lN (n / 256 ^ (m + 1))) dX6_put_51 (by rw [l_sh8 (dv_lt hn), dv_s]) ?_
            refine z_lstore G dX6_put_52 (by decide) 3 rfl ?_
            refine z_iinc G dX6_put_54 2 rfl (nI (m + 1)) (nI_inc _) (by decide) rfl ?_
            refine z_goto (tgt := 5) G dX6_put_57 (by decide) ?_
            refine z_loc G [(0, .ref (b 0)), (1, .long (lN n)), (3, .int (nI (m + 1))), (4, .long (lN (n / 256 ^ (m + 1))))] [0, 1, 2, 3] rfl ?_
            exact ihm (m + 1) (by omega) (by rw [hck, ck, if_neg n0, if_neg (fun z => z.elim (fun z => c32 ((l_lo (Nat.mod_lt _ (by decide))).mpr z)) ((l_hi (Nat.mod_lt _ (by decide))).mp c41)), dv_s])
          · refine z_bipush (v := (-2)) G dX6_put_44 rfl ?_
            exact hE _ _ _ _ dX6_put_46 rfl (by have e0 : ck 8 n 0 = 0 := (by first | rw [hck, ck, if_neg n0, if_pos (Or.inl ((l_lo (Nat.mod_lt _ (by decide))).mp c32))] | rw [hck, ck, if_neg n0, if_pos (Or.inr (Decidable.of_not_not (fun z => c41 ((l_hi (Nat.mod_lt _ (by decide))).mpr z))))]); rw [puR, puQ, puT, puN, if_pos e0, if_pos e0, if_pos e0, ← hlen]; exact ⟨rfl, rfl⟩)
  exact z_lv (lv' := [(0, .ref (b 0)), (1, .long (lN n)), (3, .int (nI 0)), (4, .long (lN (n / 256 ^ 0)))]) (by rw [Nat.pow_zero, Nat.div_one]; rfl) (l1 8 0 rfl (by rw [Nat.pow_zero, Nat.div_one]))
