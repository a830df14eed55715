theorem k_X6_breathes : zCal yX6_breathes wsX6_breathes cX6_breathes 2 (some .int) 1 := ⟨⟨_, rfl⟩, by decide +kernel⟩
theorem in_X6_breathes_X6 : ∀ w ∈ wsX60, w ∈ wsX6_breathes := fun _ h => List.mem_cons_of_mem _ (List.mem_append_right _ h)
set_option maxHeartbeats 4000000 in
set_option maxRecDepth 100000 in
theorem c_X6_breathes (l : Launch) (D : va_G) (y : Nat → ClassId) (b : Nat → Nat) (s : Nat → Int32) (q : mdQ) (hp : PF s) (x : Int32) : zDi l D y yX6_breathes wsX6_breathes ({ frames := 2, cells := 0, slots := 0, locals := 45 }) [.ref (b 0), .int (x)] (mdW y b s q) ((beR s x).1) (mdW y b (beR s x).2 q) := by
  refine zMi.mk (cc := cX6_breathes) (maxL := 2) (lv := [(0, .ref (b 0)), (1, .int (x))]) (by decide) rfl (Nat.le_of_ble_eq_true rfl) rfl (fun X G hE => ?_)
  have hin := in_X6_breathes_X6
  refine z_iload_n G dX6_breathes_0 1 rfl ?_
  refine z_iconst (v := nI 1) G dX6_breathes_1 rfl ?_
  refine z_bipush (v := nI 99) G dX6_breathes_2 rfl ?_
  refine z_pSi (As := [_, _, _]) G _ _ _ (fun l => c_X6_in l D y x (nI 1) (nI 99)) k_X6_in gX6_breathes_X6_in dX6_breathes_4 ⟨by decide, by decide⟩ ⟨rfl, rfl⟩ ⟨Nat.zero_le _, Nat.zero_le _⟩ rfl (Nat.le_of_ble_eq_true rfl) rfl (List.Perm.refl _) (List.Perm.refl _) ?_
  refine z_if_ne G dX6_breathes_7 13 (by decide) (fun c7 => ?_) (fun c7 => ?_)
  · obtain ⟨n1, n2⟩ := inB_t (bI_n c7)
    obtain ⟨m, hm, rfl⟩ := nI_of (x := x) (fun z => absurd (Int32.lt_of_le_of_lt n1 z) (by decide))
    refine z_aload_n G dX6_breathes_13 0 rfl ?_
    refine mg_s G hin (List.mem_of_getElem? (i := 1) rfl) dX6_breathes_14 ?_
    refine z_iconst (v := nI 4) G dX6_breathes_17 rfl ?_
    refine ml_s G (by omega) dX6_breathes_18 ?_
    refine z_iload_n G dX6_breathes_19 1 rfl ?_
    refine z_iadd G dX6_breathes_20 ?_
    refine z_sipush (v := nI 9999) G dX6_breathes_21 rfl ?_
    refine z_icmp_le G dX6_breathes_24 32 (by decide) (fun c24 => ?_) (fun c24 => ?_)
    · refine z_aload_n G dX6_breathes_32 0 rfl ?_
      refine z_iload_n G dX6_breathes_33 1 rfl ?_
      refine z_dVi (As := [_]) G _ _ (fun l => c_X6_breaths l D y b s q hp hm) k_X6_breaths gX6_breathes_X6_breaths 0 6 rfl rfl rfl dX6_breathes_34 ⟨by decide, by decide⟩ ⟨rfl, rfl⟩ ⟨Nat.zero_le _, Nat.zero_le _⟩ rfl (Nat.le_of_ble_eq_true rfl) rfl ?_
      exact hE _ _ _ _ dX6_breathes_37 rfl (by first | (rw [beR, if_neg (fun z => z.elim (Int32.not_lt.mpr n1) (Int32.not_lt.mpr n2)), if_pos (Int32.not_le.mp c24)]; exact ⟨rfl, rfl⟩) | (rw [beR, if_neg (fun z => z.elim (Int32.not_lt.mpr n1) (Int32.not_lt.mpr n2)), if_neg (Int32.not_lt.mpr c24), nI_clamp hm]; exact ⟨rfl, rfl⟩))
    · refine z_bipush (v := (-5)) G dX6_breathes_27 rfl ?_
      refine z_goto (tgt := 37) G dX6_breathes_29 (by decide) ?_
      exact hE _ _ _ _ dX6_breathes_37 rfl (by first | (rw [beR, if_neg (fun z => z.elim (Int32.not_lt.mpr n1) (Int32.not_lt.mpr n2)), if_pos (Int32.not_le.mp c24)]; exact ⟨rfl, rfl⟩) | (rw [beR, if_neg (fun z => z.elim (Int32.not_lt.mpr n1) (Int32.not_lt.mpr n2)), if_neg (Int32.not_lt.mpr c24), nI_clamp hm]; exact ⟨rfl, rfl⟩))
  · refine z_bipush (v := (-2)) G dX6_breathes_10 rfl ?_
    exact hE _ _ _ _ dX6_breathes_12 rfl (by rw [beR, if_pos (inB_f (bI_0 c7))]; exact ⟨rfl, rfl⟩)

theorem k_X6_seats : zCal yX6_seats wsX6_seats cX6_seats 3 (some .int) 0 := ⟨⟨_, rfl⟩, by decide +kernel⟩
theorem in_X6_seats_X6 : ∀ w ∈ wsX60, w ∈ wsX6_seats := fun _ h => List.mem_cons_of_mem _ (List.mem_append_right _ h)
set_option maxHeartbeats 4000000 in
set_option maxRecDepth 100000 in
theorem c_X6_seats (l : Launch) (D : va_G) (y : Nat → ClassId) (b : Nat → Nat) (s : Nat → Int32) (q : mdQ) (hb : OB s) : zDi l D y yX6_seats wsX6_seats ({ frames := 4, cells := 0, slots := 0, locals := 91 }) [.ref (b 0)] (mdW y b s q) (nI (cnt (stCP s) 9)) (mdW y b (stF s 9) (qs_ranks q (rkV (q_ranks q) s 9))) := by
  refine zMi.mk (cc := cX6_seats) (maxL := 3) (lv := [(0, .ref (b 0))]) (by decide) rfl (Nat.le_of_ble_eq_true rfl) rfl (fun X G hE => ?_)
  have hin := in_X6_seats_X6
  refine z_iconst (v := nI 0) G dX6_seats_0 rfl ?_
  refine z_istore_nA G dX6_seats_1 rfl (by decide) rfl ?_
  refine z_iconst (v := nI 0) G dX6_seats_2 rfl ?_
  refine z_istore_nA G dX6_seats_3 rfl (by decide) rfl ?_
  have lo : ∀ nj j : Nat, nj + j = 9 → zV D X (mdW y b s (qs_ranks q (rkV (q_ranks q) s (j)))) 0 0 4 [(0, .ref (b 0)), (1, .int (nI (0))), (2, .int (nI (j)))] [] := by
    intro nj
    induction nj with
    | zero =>
      intro j hj
      obtain rfl : j = 9 := by omega
      refine z_iload_n G dX6_seats_4 2 rfl ?_
      refine z_bipush (v := nI 9) G dX6_seats_5 rfl ?_
      refine z_icmp_geT G dX6_seats_7 39 (by decide) (nI_le (Nat.le_refl _) (by decide)) ?_
      refine z_iconst (v := nI 0) G dX6_seats_39 rfl ?_
      refine z_istore_n G dX6_seats_40 rfl (by decide) 2 rfl ?_
      have lo2 : ∀ nj j : Nat, nj + j = 9 → zV D X (mdW y b (stF s (j)) (qs_ranks q (rkV (q_ranks q) s 9))) 0 0 41 [(0, .ref (b 0)), (1, .int (nI (cnt (stCP s) (j)))), (2, .int (nI (j)))] [] := by
        intro nj
        induction nj with
        | zero =>
          intro j hj
          obtain rfl : j = 9 := by omega
          refine z_iload_n G dX6_seats_41 2 rfl ?_
          refine z_bipush (v := nI 9) G dX6_seats_42 rfl ?_
          refine z_icmp_geT G dX6_seats_44 106 (by decide) (nI_le (Nat.le_refl _) (by decide)) ?_
          refine z_iload_n G dX6_seats_106 1 rfl ?_
          exact hE _ _ _ _ dX6_seats_107 rfl ⟨rfl, rfl⟩
        | succ nj ihj =>
          intro j hj
          have lj : j < 9 := by omega
          refine z_iload_n G dX6_seats_41 2 rfl ?_
          refine z_bipush (v := nI 9) G dX6_seats_42 rfl ?_
          refine z_icmp_geF G dX6_seats_44 106 (by decide) (nI_ge lj (by decide)) ?_
          refine z_aload_n G dX6_seats_47 0 rfl ?_
          refine z_iload_n G dX6_seats_48 2 rfl ?_
          refine z_dVi (As := [_]) G _ _ (fun l => c_X6_isGuest_n l D y b _ _ lj) k_X6_isGuest gX6_seats_X6_isGuest 0 6 rfl rfl rfl dX6_seats_49 ⟨by decide, by decide⟩ ⟨rfl, rfl⟩ ⟨Nat.zero_le _, Nat.zero_le _⟩ rfl (Nat.le_of_ble_eq_true rfl) rfl ?_
          refine z_if_eq G dX6_seats_52 100 (by decide) (fun c52 => ?_) (fun c52 => ?_)
          · have g0 : gs s j = false := by rw [← gs_congr (stF_ne s (i := 13 + 17 * j) j (fun g hg => by omega))]; exact bI_0 c52
            refine z_iinc G dX6_seats_100 2 rfl (nI (j + 1)) (nI_inc _) (by decide) rfl ?_
            refine z_goto (tgt := 41) G dX6_seats_103 (by decide) ?_
            have e1 : stF s (j + 1) = stF s j := by rw [stF, if_neg (by rw [g0]; decide)]
            have e2 : cnt (stCP s) (j + 1) = cnt (stCP s) j := cnt_f (by rw [stCP, g0]; rfl)
            rw [← e1, ← e2]
            exact ihj (j + 1) (by omega)
          · have g1 : gs s j = true := by rw [← gs_congr (stF_ne s (i := 13 + 17 * j) j (fun g hg => by omega))]; exact bI_n c52
            have n0 : q_ranks (qs_ranks q (rkV (q_ranks q) s 9)) j = nI (rk s j) := (rkV_at (q_ranks q) s 9 j lj).trans (if_pos g1)
            have e0 : stF s j (14 + 17 * j) = s (14 + 17 * j) := stF_ne s j (fun g hg => by omega)
            have hc0 : stCP s j = decide (¬ stF s j (14 + 17 * j) = nI (rk s j)) := by rw [stCP, g1, e0]; rfl
            refine z_iload_n G dX6_seats_55 1 rfl ?_
            refine z_aload_n G dX6_seats_56 0 rfl ?_
            refine mg_s G hin (List.mem_of_getElem? (i := 2) rfl) dX6_seats_57 ?_
            refine z_iload_n G dX6_seats_60 2 rfl ?_
            refine z_pSi (As := [_]) G _ _ _ (fun l => c_X6_g l D y (j)) k_X6_g gX6_seats_X6_g dX6_seats_61 ⟨by decide, by decide⟩ ⟨rfl, rfl⟩ ⟨Nat.zero_le _, Nat.zero_le _⟩ rfl (Nat.le_of_ble_eq_true rfl) rfl (List.Perm.refl _) (List.Perm.refl _) ?_
            refine z_iconst (v := nI 1) G dX6_seats_64 rfl ?_
            refine z_iaddN G dX6_seats_65 (14 + 17 * j) (by omega) ?_
            refine ml_s G (by omega) dX6_seats_66 ?_
            refine z_aload_n G dX6_seats_67 0 rfl ?_
            refine mg_ranks G hin (List.mem_of_getElem? (i := 1) rfl) dX6_seats_68 ?_
            refine z_iload_n G dX6_seats_71 2 rfl ?_
            refine ml_ranks G (by omega) dX6_seats_72 ?_
            refine z_icmp_ne G dX6_seats_73 80 (by decide) (fun c73 => ?_) (fun c73 => ?_)
            · have hc1 : stCP s j = true := by rw [hc0]; exact decide_eq_true (fun z => c73 (z.trans n0.symm))
              refine z_iconst (v := nI 1) G dX6_seats_80 rfl ?_
              refine z_iaddN G dX6_seats_81 (cnt (stCP s) (j) + 1) (by omega) ?_
              refine z_top (w := .int (nI (cnt (stCP s) (j + 1)))) (congrArg Value.int (congrArg nI (by first | rw [cnt_t hc1] | rw [cnt_f hc1]))) ?_
              refine z_istore_n G dX6_seats_82 rfl (by decide) 1 rfl ?_
              refine z_aload_n G dX6_seats_83 0 rfl ?_
              refine mg_s G hin (List.mem_of_getElem? (i := 2) rfl) dX6_seats_84 ?_
              refine z_iload_n G dX6_seats_87 2 rfl ?_
              refine z_pSi (As := [_]) G _ _ _ (fun l => c_X6_g l D y (j)) k_X6_g gX6_seats_X6_g dX6_seats_88 ⟨by decide, by decide⟩ ⟨rfl, rfl⟩ ⟨Nat.zero_le _, Nat.zero_le _⟩ rfl (Nat.le_of_ble_eq_true rfl) rfl (List.Perm.refl _) (List.Perm.refl _) ?_
              refine z_iconst (v := nI 1) G dX6_seats_91 rfl ?_
              refine z_iaddN G dX6_seats_92 (14 + 17 * j) (by omega) ?_
              refine z_aload_n G dX6_seats_93 0 rfl ?_
              refine mg_ranks G hin (List.mem_of_getElem? (i := 1) rfl) dX6_seats_94 ?_
              refine z_iload_n G dX6_seats_97 2 rfl ?_
              refine ml_ranks G (by omega) dX6_seats_98 ?_
              refine ms_s G (by omega) dX6_seats_99 ?_
              refine z_iinc G dX6_seats_100 2 rfl (nI (j + 1)) (nI_inc _) (by decide) rfl ?_
              refine z_goto (tgt := 41) G dX6_seats_103 (by decide) ?_
              have e1 : stF s (j + 1) = upd (stF s j) (14 + 17 * j) (q_ranks (qs_ranks q (rkV (q_ranks q) s 9)) j) := by rw [stF, if_pos g1, n0]
              rw [← e1]
              exact ihj (j + 1) (by omega)
            · have hc1 : stCP s j = false := by rw [hc0]; exact decide_eq_false (fun z => z (c73.trans n0))
              refine z_iconst (v := nI 0) G dX6_seats_76 rfl ?_
              refine z_goto (tgt := 81) G dX6_seats_77 (by decide) ?_
              refine z_iaddN G dX6_seats_81 (cnt (stCP s) (j)) (by omega) ?_
              refine z_top (w := .int (nI (cnt (stCP s) (j + 1)))) (congrArg Value.int (congrArg nI (by first | rw [cnt_t hc1] | rw [cnt_f hc1]))) ?_
              refine z_istore_n G dX6_seats_82 rfl (by decide) 1 rfl ?_
              refine z_aload_n G dX6_seats_83 0 rfl ?_
              refine mg_s G hin (List.mem_of_getElem? (i := 2) rfl) dX6_seats_84 ?_
              refine z_iload_n G dX6_seats_87 2 rfl ?_
              refine z_pSi (As := [_]) G _ _ _ (fun l => c_X6_g l D y (j)) k_X6_g gX6_seats_X6_g dX6_seats_88 ⟨by decide, by decide⟩ ⟨rfl, rfl⟩ ⟨Nat.zero_le _, Nat.zero_le _⟩ rfl (Nat.le_of_ble_eq_true rfl) rfl (List.Perm.refl _) (List.Perm.refl _) ?_
              refine z_iconst (v := nI 1) G dX6_seats_91 rfl ?_
              refine z_iaddN G dX6_seats_92 (14 + 17 * j) (by omega) ?_
              refine z_aload_n G dX6_seats_93 0 rfl ?_
              refine mg_ranks G hin (List.mem_of_getElem? (i := 1) rfl) dX6_seats_94 ?_
              refine z_iload_n G dX6_seats_97 2 rfl ?_
              refine ml_ranks G (by omega) dX6_seats_98 ?_
              refine ms_s G (by omega) dX6_seats_99 ?_
              refine z_iinc G dX6_seats_100 2 rfl (nI (j + 1)) (nI_inc _) (by decide) rfl ?_
              refine z_goto (tgt := 41) G dX6_seats_103 (by decide) ?_
              have e1 : stF s (j + 1) = upd (stF s j) (14 + 17 * j) (q_ranks (qs_ranks q (rkV (q_ranks q) s 9)) j) := by rw [stF, if_pos g1, n0]
              rw [← e1]
              exact ihj (j + 1) (by omega)
      exact lo2 9 0 rfl
    | succ nj ihj =>
      intro j hj
      have lj : j < 9 := by omega
      refine z_iload_n G dX6_seats_4 2 rfl ?_
      refine z_bipush (v := nI 9) G dX6_seats_5 rfl ?_
      refine z_icmp_geF G dX6_seats_7 39 (by decide) (nI_ge lj (by decide)) ?_
      refine z_aload_n G dX6_seats_10 0 rfl ?_
      refine mg_ranks G hin (List.mem_of_getElem? (i := 1) rfl) dX6_seats_11 ?_
      refine z_iload_n G dX6_seats_14 2 rfl ?_
      refine z_aload_n G dX6_seats_15 0 rfl ?_
      refine z_iload_n G dX6_seats_16 2 rfl ?_
      refine z_dVi (As := [_]) G _ _ (fun l => c_X6_isGuest_n l D y b _ _ lj) k_X6_isGuest gX6_seats_X6_isGuest 0 6 rfl rfl rfl dX6_seats_17 ⟨by decide, by decide⟩ ⟨rfl, rfl⟩ ⟨Nat.zero_le _, Nat.zero_le _⟩ rfl (Nat.le_of_ble_eq_true rfl) rfl ?_
      refine z_if_eq G dX6_seats_20 31 (by decide) (fun c20 => ?_) (fun c20 => ?_)
      · refine z_iconst (v := nI 0) G dX6_seats_31 rfl ?_
        refine z_top (w := .int (if gs s j = true then nI (rk s j) else nI 0)) (congrArg Value.int (by rw [bI_0 c20]; rfl)) ?_
        refine ms_ranks G (by omega) dX6_seats_32 ?_
        refine z_iinc G dX6_seats_33 2 rfl (nI (j + 1)) (nI_inc _) (by decide) rfl ?_
        refine z_goto (tgt := 4) G dX6_seats_36 (by decide) ?_
        exact ihj (j + 1) (by omega)
      · refine z_aload_n G dX6_seats_23 0 rfl ?_
        refine z_iload_n G dX6_seats_24 2 rfl ?_
        refine z_dVi (As := [_]) G _ _ (fun l => c_X6_rankOf l D y b s _ hb lj) k_X6_rankOf gX6_seats_X6_rankOf 0 6 rfl rfl rfl dX6_seats_25 ⟨by decide, by decide⟩ ⟨rfl, rfl⟩ ⟨Nat.zero_le _, Nat.zero_le _⟩ rfl (Nat.le_of_ble_eq_true rfl) rfl ?_
        refine z_goto (tgt := 32) G dX6_seats_28 (by decide) ?_
        refine z_top (w := .int (if gs s j = true then nI (rk s j) else nI 0)) (congrArg Value.int (if_pos (bI_n c20)).symm) ?_
        refine ms_ranks G (by omega) dX6_seats_32 ?_
        refine z_iinc G dX6_seats_33 2 rfl (nI (j + 1)) (nI_inc _) (by decide) rfl ?_
        refine z_goto (tgt := 4) G dX6_seats_36 (by decide) ?_
        exact ihj (j + 1) (by omega)
  exact lo 9 0 rfl

theorem k_X6_goesRound : zCal yX6_goesRound wsX6_goesRound cX6_goesRound 6 (some .int) 0 := ⟨⟨_, rfl⟩, by decide +kernel⟩
theorem in_X6_goesRound_X6 : ∀ w ∈ wsX60, w ∈ wsX6_goesRound := fun _ h => List.mem_cons_of_mem _ (List.mem_append_right _ h)
set_option maxHeartbeats 4000000 in
set_option maxRecDepth 100000 in
theorem c_X6_goesRound (l : Launch) (D : va_G) (y : Nat → ClassId) (b : Nat → Nat) (s : Nat → Int32) (q : mdQ) (hp : PF s) (hu : SU s) (hj : SJ s) {c : Nat} (hc : s 0 = nI c) (hcm : c < 2 ^ 31) (hob : OB (cpH s c (ng s)).1) : zDi l D y yX6_goesRound wsX6_goesRound ({ frames := 5, cells := 0, slots := 0, locals := 113 }) [.ref (b 0)] (mdW y b s q) (nI (cpH s c (ng s)).2.2) (mdW y b (rnF s c) (goQ s c q)) := by
  refine zMi.mk (cc := cX6_goesRound) (maxL := 6) (lv := [(0, .ref (b 0))]) (by decide) rfl (Nat.le_of_ble_eq_true rfl) rfl (fun X G hE => ?_)
  have hin := in_X6_goesRound_X6
  refine z_aload_n G dX6_goesRound_0 0 rfl ?_
  refine z_dVi (As := []) G _ _ (fun l => c_X6_guests l D y b s q hp) k_X6_guests gX6_goesRound_X6_guests 0 6 rfl rfl rfl dX6_goesRound_1 ⟨by decide, by decide⟩ ⟨rfl, rfl⟩ ⟨Nat.zero_le _, Nat.zero_le _⟩ rfl (Nat.le_of_ble_eq_true rfl) rfl ?_
  refine z_istore_nA G dX6_goesRound_4 rfl (by decide) rfl ?_
  refine z_iconst (v := nI 0) G dX6_goesRound_5 rfl ?_
  refine z_istore_nA G dX6_goesRound_6 rfl (by decide) rfl ?_
  refine z_iconst (v := (-1)) G dX6_goesRound_7 rfl ?_
  refine z_istore_nA G dX6_goesRound_8 rfl (by decide) rfl ?_
  refine z_iconst (v := nI 0) G dX6_goesRound_9 rfl ?_
  refine z_istoreA G dX6_goesRound_10 (by decide) rfl ?_
  have lo : ∀ nt t : Nat, nt + t = ng s → zV D X (mdW y b s (qs_row q (rwF (q_row q) s (t)))) 0 0 12 [(0, .ref (b 0)), (1, .int (nI (ng s))), (2, .int (nI (0))), (3, .int (-1)), (4, .int (nI (t)))] [] := by
    intro nt
    induction nt with
    | zero =>
      intro t ht
      obtain rfl : t = ng s := by omega
      refine z_iload G dX6_goesRound_12 4 rfl ?_
      refine z_iload_n G dX6_goesRound_14 1 rfl ?_
      refine z_icmp_geT G dX6_goesRound_15 37 (by decide) (nI_le (Nat.le_refl _) (by have := ng_le s; omega)) ?_
      refine z_iconst (v := nI 0) G dX6_goesRound_37 rfl ?_
      refine z_istore G dX6_goesRound_38 (by decide) 4 rfl ?_
      have lo2 : ∀ nt t : Nat, nt + t = ng s → zV D X (mdW y b (cpH s c (t)).1 (qs_row q (rwF (q_row q) s (ng s)))) 0 0 40 [(0, .ref (b 0)), (1, .int (nI (ng s))), (2, .int (nI ((cpH s c (t)).2.2))), (3, .int (laI (cpH s c (t)).2.1)), (4, .int (nI (t)))] [] := by
        intro nt
        induction nt with
        | zero =>
          intro t ht
          obtain rfl : t = ng s := by omega
          refine z_iload G dX6_goesRound_40 4 rfl ?_
          refine z_iload_n G dX6_goesRound_42 1 rfl ?_
          refine z_icmp_geT G dX6_goesRound_43 117 (by decide) (nI_le (Nat.le_refl _) (by have := ng_le s; omega)) ?_
          refine z_aload_n G dX6_goesRound_117 0 rfl ?_
          refine z_dVi (As := []) G _ _ (fun l => c_X6_seats l D y b _ _ hob) k_X6_seats gX6_goesRound_X6_seats 0 6 rfl rfl rfl dX6_goesRound_118 ⟨by decide, by decide⟩ ⟨rfl, rfl⟩ ⟨Nat.zero_le _, Nat.zero_le _⟩ rfl (Nat.le_of_ble_eq_true rfl) rfl ?_
          refine z_istore G dX6_goesRound_121 (by decide) 4 rfl ?_
          refine z_aload_n G dX6_goesRound_123 0 rfl ?_
          refine mg_s G hin (List.mem_of_getElem? (i := 2) rfl) dX6_goesRound_124 ?_
          refine z_iconst (v := nI 5) G dX6_goesRound_127 rfl ?_
          refine z_dup2 G dX6_goesRound_128 rfl rfl ?_
          refine ml_s G (by omega) dX6_goesRound_129 ?_
          refine z_iconst (v := nI 1) G dX6_goesRound_130 rfl ?_
          refine z_iadd G dX6_goesRound_131 ?_
          refine ms_s G (by omega) dX6_goesRound_132 ?_
          refine z_iload_n G dX6_goesRound_133 2 rfl ?_
          exact hE _ _ _ _ dX6_goesRound_134 rfl ⟨rfl, rfl⟩
        | succ nt iht =>
          intro t ht
          have lt : t < ng s := by omega
          have lt2 : t < ng s := by omega
          have hng := ng_le s
          obtain ⟨k1, k2, k3⟩ := cpH_keep hu hj (c := c) t (by omega)
          obtain ⟨o1, o2, o3⟩ := od_is hu hj lt2
          refine z_iload G dX6_goesRound_40 4 rfl ?_
          refine z_iload_n G dX6_goesRound_42 1 rfl ?_
          refine z_icmp_geF G dX6_goesRound_43 117 (by decide) (nI_ge lt2 (by omega)) ?_
          refine z_aload_n G dX6_goesRound_46 0 rfl ?_
          refine mg_row G hin (List.mem_of_getElem? (i := 1) rfl) dX6_goesRound_47 ?_
          refine z_iload G dX6_goesRound_50 4 rfl ?_
          refine ml_row G (by omega) dX6_goesRound_52 ?_
          refine z_top (w := .int (nI (od s t))) (congrArg Value.int (rwF_at (q_row q) s (ng s) t lt2)) ?_
          refine z_istoreA G dX6_goesRound_53 (by decide) rfl ?_
          refine z_aload_n G dX6_goesRound_55 0 rfl ?_
          refine z_iload G dX6_goesRound_56 5 rfl ?_
          refine z_dVi (As := [_]) G _ _ (fun l => c_X6_reason l D y b _ _ o1) k_X6_reason gX6_goesRound_X6_reason 0 6 rfl rfl rfl dX6_goesRound_58 ⟨by decide, by decide⟩ ⟨rfl, rfl⟩ ⟨Nat.zero_le _, Nat.zero_le _⟩ rfl (Nat.le_of_ble_eq_true rfl) rfl ?_
          refine z_if_ne G dX6_goesRound_61 111 (by decide) (fun c61 => ?_) (fun c61 => ?_)
          · refine z_iinc G dX6_goesRound_111 4 rfl (nI (t + 1)) (nI_inc _) (by decide) rfl ?_
            refine z_goto (tgt := 40) G dX6_goesRound_114 (by decide) ?_
            have e : cpH s c (t + 1) = cpH s c t := by rw [cpH, if_neg c61]
            refine z_loc G [(0, .ref (b 0)), (1, .int (nI (ng s))), (2, .int (nI (cpH s c (t + 1)).2.2)), (3, .int (laI (cpH s c (t + 1)).2.1)), (4, .int (nI (t + 1)))] [0, 1, 2, 3, 4] (by rw [e]; rfl) ?_
            refine z_world (ws' := mdW y b (cpH s c (t + 1)).1 (qs_row q (rwF (q_row q) s (ng s)))) (by rw [e]) ?_
            exact iht (t + 1) (by omega)
          · refine z_aload_n G dX6_goesRound_64 0 rfl ?_
            refine z_iload G dX6_goesRound_65 5 rfl ?_
            refine z_dVv (As := [_]) G _ (fun l => c_X6_drinks l D y b _ _ (PF_stc hp k1) o1 ((k1 0 (by unfold stc; omega)).trans hc) hcm) k_X6_drinks gX6_goesRound_X6_drinks 0 6 rfl rfl rfl dX6_goesRound_67 ⟨by decide, by decide⟩ ⟨rfl, rfl⟩ ⟨Nat.zero_le _, Nat.zero_le _⟩ rfl (Nat.le_of_ble_eq_true rfl) rfl ?_
            rcases hla : (cpH s c t).2.1 with _ | o2
            · refine z_iload_n G dX6_goesRound_70 3 rfl ?_
              refine z_iconst (v := (-1)) G dX6_goesRound_71 rfl ?_
              refine z_icmp_eqT G dX6_goesRound_72 105 (by decide) rfl ?_
              refine z_iload G dX6_goesRound_105 5 rfl ?_
              refine z_istore_n G dX6_goesRound_107 rfl (by decide) 3 rfl ?_
              refine z_iinc G dX6_goesRound_108 2 rfl (nI ((cpH s c (t)).2.2 + 1)) (nI_inc _) (by decide) rfl ?_
              refine z_iinc G dX6_goesRound_111 4 rfl (nI (t + 1)) (nI_inc _) (by decide) rfl ?_
              refine z_goto (tgt := 40) G dX6_goesRound_114 (by decide) ?_
              have e : cpH s c (t + 1) = (layO (drF (cpH s c t).1 (od s t) c) (od s t) (cpH s c t).2.1, some (od s t), (cpH s c t).2.2 + 1) := by rw [cpH, if_pos c61]
              refine z_loc G [(0, .ref (b 0)), (1, .int (nI (ng s))), (2, .int (nI (cpH s c (t + 1)).2.2)), (3, .int (laI (cpH s c (t + 1)).2.1)), (4, .int (nI (t + 1)))] [0, 1, 2, 3, 4] (by rw [e]; rfl) ?_
              refine z_world (ws' := mdW y b (cpH s c (t + 1)).1 (qs_row q (rwF (q_row q) s (ng s)))) (by rw [e, hla]; rfl) ?_
              exact iht (t + 1) (by omega)
            · obtain ⟨ho2, so2, -⟩ := k2 o2 hla
              refine z_iload_n G dX6_goesRound_70 3 rfl ?_
              refine z_iconst (v := (-1)) G dX6_goesRound_71 rfl ?_
              refine z_icmp_eqF G dX6_goesRound_72 105 (by decide) (nI_ne1 ho2) ?_
              refine z_aload_n G dX6_goesRound_75 0 rfl ?_
              refine mg_s G hin (List.mem_of_getElem? (i := 2) rfl) dX6_goesRound_76 ?_
              refine z_iload G dX6_goesRound_79 5 rfl ?_
              refine z_pSi (As := [_]) G _ _ _ (fun l => c_X6_g l D y (od s t)) k_X6_g gX6_goesRound_X6_g dX6_goesRound_81 ⟨by decide, by decide⟩ ⟨rfl, rfl⟩ ⟨Nat.zero_le _, Nat.zero_le _⟩ rfl (Nat.le_of_ble_eq_true rfl) rfl (List.Perm.refl _) (List.Perm.refl _) ?_
              refine z_bipush (v := nI 8) G dX6_goesRound_84 rfl ?_
              refine z_iaddN G dX6_goesRound_86 (21 + 17 * od s t) (by omega) ?_
              refine z_iload_n G dX6_goesRound_87 3 rfl ?_
              refine z_iaddN G dX6_goesRound_88 (21 + 17 * od s t + o2) (by omega) ?_
              refine z_dup2 G dX6_goesRound_89 rfl rfl ?_
              refine ml_s G (by omega) dX6_goesRound_90 ?_
              refine z_iconst (v := nI 1) G dX6_goesRound_91 rfl ?_
              refine z_iadd G dX6_goesRound_92 ?_
              refine ms_s G (by omega) dX6_goesRound_93 ?_
              refine z_aload_n G dX6_goesRound_94 0 rfl ?_
              refine mg_s G hin (List.mem_of_getElem? (i := 2) rfl) dX6_goesRound_95 ?_
              refine z_bipush (v := nI 10) G dX6_goesRound_98 rfl ?_
              refine z_dup2 G dX6_goesRound_100 rfl rfl ?_
              refine ml_s G (by omega) dX6_goesRound_101 ?_
              refine z_iconst (v := nI 1) G dX6_goesRound_102 rfl ?_
              refine z_iadd G dX6_goesRound_103 ?_
              refine ms_s G (by omega) dX6_goesRound_104 ?_
              refine z_world (ws' := mdW y b (layF (drF (cpH s c t).1 (od s t) c) (od s t) o2 (nI 1)) (qs_row q (rwF (q_row q) s (ng s)))) (by rw [upd_ne (show 10 ≠ 21 + 17 * od s t + o2 by omega)]; rfl) ?_
              refine z_iload G dX6_goesRound_105 5 rfl ?_
              refine z_istore_n G dX6_goesRound_107 rfl (by decide) 3 rfl ?_
              refine z_iinc G dX6_goesRound_108 2 rfl (nI ((cpH s c (t)).2.2 + 1)) (nI_inc _) (by decide) rfl ?_
              refine z_iinc G dX6_goesRound_111 4 rfl (nI (t + 1)) (nI_inc _) (by decide) rfl ?_
              refine z_goto (tgt := 40) G dX6_goesRound_114 (by decide) ?_
              have e : cpH s c (t + 1) = (layO (drF (cpH s c t).1 (od s t) c) (od s t) (cpH s c t).2.1, some (od s t), (cpH s c t).2.2 + 1) := by rw [cpH, if_pos c61]
              refine z_loc G [(0, .ref (b 0)), (1, .int (nI (ng s))), (2, .int (nI (cpH s c (t + 1)).2.2)), (3, .int (laI (cpH s c (t + 1)).2.1)), (4, .int (nI (t + 1)))] [0, 1, 2, 3, 4] (by rw [e]; rfl) ?_
              refine z_world (ws' := mdW y b (cpH s c (t + 1)).1 (qs_row q (rwF (q_row q) s (ng s)))) (by rw [e, hla]; rfl) ?_
              exact iht (t + 1) (by omega)
      exact lo2 (ng s) 0 rfl
    | succ nt iht =>
      intro t ht
      have lt : t < ng s := by omega
      have lt2 : t < ng s := by omega
      have hng := ng_le s
      obtain ⟨o1, o2, o3⟩ := od_is hu hj lt2
      refine z_iload G dX6_goesRound_12 4 rfl ?_
      refine z_iload_n G dX6_goesRound_14 1 rfl ?_
      refine z_icmp_geF G dX6_goesRound_15 37 (by decide) (nI_ge lt2 (by omega)) ?_
      refine z_aload_n G dX6_goesRound_18 0 rfl ?_
      refine mg_row G hin (List.mem_of_getElem? (i := 1) rfl) dX6_goesRound_19 ?_
      refine z_iload G dX6_goesRound_22 4 rfl ?_
      refine z_aload_n G dX6_goesRound_24 0 rfl ?_
      refine z_iload G dX6_goesRound_25 4 rfl ?_
      refine z_dVi (As := [_]) G _ _ (fun l => c_X6_guestAt l D y b s _ (nI t)) k_X6_guestAt gX6_goesRound_X6_guestAt 0 6 rfl rfl rfl dX6_goesRound_27 ⟨by decide, by decide⟩ ⟨rfl, rfl⟩ ⟨Nat.zero_le _, Nat.zero_le _⟩ rfl (Nat.le_of_ble_eq_true rfl) rfl ?_
      refine z_top (w := .int (nI (od s t))) (congrArg Value.int o3) ?_
      refine ms_row G (by omega) dX6_goesRound_30 ?_
      refine z_iinc G dX6_goesRound_31 4 rfl (nI (t + 1)) (nI_inc _) (by decide) rfl ?_
      refine z_goto (tgt := 12) G dX6_goesRound_34 (by decide) ?_
      exact iht (t + 1) (by omega)
  exact lo (ng s) 0 rfl

theorem k_X6_rounds : zCal yX6_rounds wsX6_rounds cX6_rounds 1 (some .int) 0 := ⟨⟨_, rfl⟩, by decide +kernel⟩
theorem in_X6_rounds_X6 : ∀ w ∈ wsX60, w ∈ wsX6_rounds := fun _ h => List.mem_cons_of_mem _ (List.mem_append_right _ h)
set_option maxHeartbeats 4000000 in
set_option maxRecDepth 100000 in
theorem c_X6_rounds (l : Launch) (D : va_G) (y : Nat → ClassId) (b : Nat → Nat) (s : Nat → Int32) (q : mdQ) (hp : PF s) (hu : SU s) (hj : SJ s) {c : Nat} (hc : s 0 = nI c) (hcm : c < 2 ^ 31) (hob : OB (cpH s c (ng s)).1) : zDi l D y yX6_rounds wsX6_rounds ({ frames := 6, cells := 0, slots := 0, locals := 138 }) [.ref (b 0)] (mdW y b s q) ((roR s c).1) (mdW y b (roR s c).2 (roQ s c q)) := by
  refine zMi.mk (cc := cX6_rounds) (maxL := 1) (lv := [(0, .ref (b 0))]) (by decide) rfl (Nat.le_of_ble_eq_true rfl) rfl (fun X G hE => ?_)
  have hin := in_X6_rounds_X6
  refine z_aload_n G dX6_rounds_0 0 rfl ?_
  refine z_dVi (As := []) G _ _ (fun l => c_X6_guests l D y b s q hp) k_X6_guests gX6_rounds_X6_guests 0 6 rfl rfl rfl dX6_rounds_1 ⟨by decide, by decide⟩ ⟨rfl, rfl⟩ ⟨Nat.zero_le _, Nat.zero_le _⟩ rfl (Nat.le_of_ble_eq_true rfl) rfl ?_
  refine z_if_eq G dX6_rounds_4 19 (by decide) (fun c4 => ?_) (fun c4 => ?_)
  · refine z_bipush (v := (-5)) G dX6_rounds_19 rfl ?_
    refine z_goto (tgt := 28) G dX6_rounds_21 (by decide) ?_
    exact hE _ _ _ _ dX6_rounds_28 rfl (by first | (have n : ng s = 0 := (nI_eq (by have := ng_le s; omega) (by decide)).mp c4; rw [roR, roQ, if_pos (Or.inl n), if_pos (Or.inl n)]; exact ⟨rfl, rfl⟩) | (have n := Int32.not_le.mp c16; rw [roR, roQ, if_pos (Or.inr n), if_pos (Or.inr n)]; exact ⟨rfl, rfl⟩) | (have n : ¬ (ng s = 0 ∨ nI 9900 < s 4) := fun z => z.elim (fun z => c4 (congrArg nI z)) (Int32.not_lt.mpr c16); rw [roR, roQ, if_neg n, if_neg n]; exact ⟨rfl, rfl⟩))
  · refine z_aload_n G dX6_rounds_7 0 rfl ?_
    refine mg_s G hin (List.mem_of_getElem? (i := 1) rfl) dX6_rounds_8 ?_
    refine z_iconst (v := nI 4) G dX6_rounds_11 rfl ?_
    refine ml_s G (by omega) dX6_rounds_12 ?_
    refine z_sipush (v := nI 9900) G dX6_rounds_13 rfl ?_
    refine z_icmp_le G dX6_rounds_16 24 (by decide) (fun c16 => ?_) (fun c16 => ?_)
    · refine z_aload_n G dX6_rounds_24 0 rfl ?_
      refine z_dVi (As := []) G _ _ (fun l => c_X6_goesRound l D y b s q hp hu hj hc hcm hob) k_X6_goesRound gX6_rounds_X6_goesRound 0 6 rfl rfl rfl dX6_rounds_25 ⟨by decide, by decide⟩ ⟨rfl, rfl⟩ ⟨Nat.zero_le _, Nat.zero_le _⟩ rfl (Nat.le_of_ble_eq_true rfl) rfl ?_
      exact hE _ _ _ _ dX6_rounds_28 rfl (by first | (have n : ng s = 0 := (nI_eq (by have := ng_le s; omega) (by decide)).mp c4; rw [roR, roQ, if_pos (Or.inl n), if_pos (Or.inl n)]; exact ⟨rfl, rfl⟩) | (have n := Int32.not_le.mp c16; rw [roR, roQ, if_pos (Or.inr n), if_pos (Or.inr n)]; exact ⟨rfl, rfl⟩) | (have n : ¬ (ng s = 0 ∨ nI 9900 < s 4) := fun z => z.elim (fun z => c4 (congrArg nI z)) (Int32.not_lt.mpr c16); rw [roR, roQ, if_neg n, if_neg n]; exact ⟨rfl, rfl⟩))
    · refine z_bipush (v := (-5)) G dX6_rounds_19 rfl ?_
      refine z_goto (tgt := 28) G dX6_rounds_21 (by decide) ?_
      exact hE _ _ _ _ dX6_rounds_28 rfl (by first | (have n : ng s = 0 := (nI_eq (by have := ng_le s; omega) (by decide)).mp c4; rw [roR, roQ, if_pos (Or.inl n), if_pos (Or.inl n)]; exact ⟨rfl, rfl⟩) | (have n := Int32.not_le.mp c16; rw [roR, roQ, if_pos (Or.inr n), if_pos (Or.inr n)]; exact ⟨rfl, rfl⟩) | (have n : ¬ (ng s = 0 ∨ nI 9900 < s 4) := fun z => z.elim (fun z => c4 (congrArg nI z)) (Int32.not_lt.mpr c16); rw [roR, roQ, if_neg n, if_neg n]; exact ⟨rfl, rfl⟩))

theorem k_X6_hold : zCal yX6_hold wsX6_hold cX6_hold 2 none 0 := ⟨⟨_, rfl⟩, by decide +kernel⟩
theorem in_X6_hold_X6 : ∀ w ∈ wsX60, w ∈ wsX6_hold := fun _ h => List.mem_cons_of_mem _ (List.mem_append_right _ h)
set_option maxHeartbeats 4000000 in
set_option maxRecDepth 100000 in
theorem c_X6_hold (l : Launch) (D : va_G) (y : Nat → ClassId) (b : Nat → Nat) (s : Nat → Int32) (q : mdQ) : zDv l D y yX6_hold wsX6_hold ({ frames := 0, cells := 0, slots := 0, locals := 0 }) [.ref (b 0)] (mdW y b s q) (mdW y b s (qs_spare q s)) := by
  refine zMv.mk (cc := cX6_hold) (maxL := 2) (lv := [(0, .ref (b 0))]) (by decide) rfl (Nat.le_of_ble_eq_true rfl) rfl (fun X G hE => ?_)
  have hin := in_X6_hold_X6
  refine z_iconst (v := nI 0) G dX6_hold_0 rfl ?_
  refine z_istore_nA G dX6_hold_1 rfl (by decide) rfl ?_
  have lo : ∀ nj j : Nat, nj + j = 166 → zV D X (mdW y b s (qs_spare q (cpF (q_spare q) s (j)))) 0 0 2 [(0, .ref (b 0)), (1, .int (nI (j)))] [] := by
    intro nj
    induction nj with
    | zero =>
      intro j hj
      obtain rfl : j = 166 := by omega
      refine z_iload_n G dX6_hold_2 1 rfl ?_
      refine z_sipush (v := nI 166) G dX6_hold_3 rfl ?_
      refine z_icmp_geT G dX6_hold_6 27 (by decide) (nI_le (Nat.le_refl _) (by decide)) ?_
      exact hE _ _ _ dX6_hold_27 (md_spare (fun i hi => cpF_at hi))
    | succ nj ihj =>
      intro j hj
      have lj : j < 166 := by omega
      refine z_iload_n G dX6_hold_2 1 rfl ?_
      refine z_sipush (v := nI 166) G dX6_hold_3 rfl ?_
      refine z_icmp_geF G dX6_hold_6 27 (by decide) (nI_ge lj (by decide)) ?_
      refine z_aload_n G dX6_hold_9 0 rfl ?_
      refine mg_spare G hin (List.mem_of_getElem? (i := 1) rfl) dX6_hold_10 ?_
      refine z_iload_n G dX6_hold_13 1 rfl ?_
      refine z_aload_n G dX6_hold_14 0 rfl ?_
      refine mg_s G hin (List.mem_of_getElem? (i := 2) rfl) dX6_hold_15 ?_
      refine z_iload_n G dX6_hold_18 1 rfl ?_
      refine ml_s G (by omega) dX6_hold_19 ?_
      refine ms_spare G (by omega) dX6_hold_20 ?_
      refine z_iinc G dX6_hold_21 1 rfl (nI (j + 1)) (nI_inc _) (by decide) rfl ?_
      refine z_goto (tgt := 2) G dX6_hold_24 (by decide) ?_
      refine z_world (ws' := mdW y b s (qs_spare q (cpF (q_spare q) s (j + 1)))) (by rw [← cpF_s]; rfl) ?_
      exact ihj (j + 1) (by omega)
  exact lo 166 0 rfl

theorem k_X6_keepTrial : zCal yX6_keepTrial wsX6_keepTrial cX6_keepTrial 2 none 0 := ⟨⟨_, rfl⟩, by decide +kernel⟩
theorem in_X6_keepTrial_X6 : ∀ w ∈ wsX60, w ∈ wsX6_keepTrial := fun _ h => List.mem_cons_of_mem _ (List.mem_append_right _ h)
set_option maxHeartbeats 4000000 in
set_option maxRecDepth 100000 in
theorem c_X6_keepTrial (l : Launch) (D : va_G) (y : Nat → ClassId) (b : Nat → Nat) (s : Nat → Int32) (q : mdQ) : zDv l D y yX6_keepTrial wsX6_keepTrial ({ frames := 0, cells := 0, slots := 0, locals := 0 }) [.ref (b 0)] (mdW y b s q) (mdW y b s (qs_trial q s)) := by
  refine zMv.mk (cc := cX6_keepTrial) (maxL := 2) (lv := [(0, .ref (b 0))]) (by decide) rfl (Nat.le_of_ble_eq_true rfl) rfl (fun X G hE => ?_)
  have hin := in_X6_keepTrial_X6
  refine z_iconst (v := nI 0) G dX6_keepTrial_0 rfl ?_
  refine z_istore_nA G dX6_keepTrial_1 rfl (by decide) rfl ?_
  have lo : ∀ nj j : Nat, nj + j = 166 → zV D X (mdW y b s (qs_trial q (cpF (q_trial q) s (j)))) 0 0 2 [(0, .ref (b 0)), (1, .int (nI (j)))] [] := by
    intro nj
    induction nj with
    | zero =>
      intro j hj
      obtain rfl : j = 166 := by omega
      refine z_iload_n G dX6_keepTrial_2 1 rfl ?_
      refine z_sipush (v := nI 166) G dX6_keepTrial_3 rfl ?_
      refine z_icmp_geT G dX6_keepTrial_6 27 (by decide) (nI_le (Nat.le_refl _) (by decide)) ?_
      exact hE _ _ _ dX6_keepTrial_27 (md_trial (fun i hi => cpF_at hi))
    | succ nj ihj =>
      intro j hj
      have lj : j < 166 := by omega
      refine z_iload_n G dX6_keepTrial_2 1 rfl ?_
      refine z_sipush (v := nI 166) G dX6_keepTrial_3 rfl ?_
      refine z_icmp_geF G dX6_keepTrial_6 27 (by decide) (nI_ge lj (by decide)) ?_
      refine z_aload_n G dX6_keepTrial_9 0 rfl ?_
      refine mg_trial G hin (List.mem_of_getElem? (i := 1) rfl) dX6_keepTrial_10 ?_
      refine z_iload_n G dX6_keepTrial_13 1 rfl ?_
      refine z_aload_n G dX6_keepTrial_14 0 rfl ?_
      refine mg_s G hin (List.mem_of_getElem? (i := 2) rfl) dX6_keepTrial_15 ?_
      refine z_iload_n G dX6_keepTrial_18 1 rfl ?_
      refine ml_s G (by omega) dX6_keepTrial_19 ?_
      refine ms_trial G (by omega) dX6_keepTrial_20 ?_
      refine z_iinc G dX6_keepTrial_21 1 rfl (nI (j + 1)) (nI_inc _) (by decide) rfl ?_
      refine z_goto (tgt := 2) G dX6_keepTrial_24 (by decide) ?_
      refine z_world (ws' := mdW y b s (qs_trial q (cpF (q_trial q) s (j + 1)))) (by rw [← cpF_s]; rfl) ?_
      exact ihj (j + 1) (by omega)
  exact lo 166 0 rfl

theorem k_X6_putBack : zCal yX6_putBack wsX6_putBack cX6_putBack 2 none 0 := ⟨⟨_, rfl⟩, by decide +kernel⟩
theorem in_X6_putBack_X6 : ∀ w ∈ wsX60, w ∈ wsX6_putBack := fun _ h => List.mem_cons_of_mem _ (List.mem_append_right _ h)
set_option maxHeartbeats 4000000 in
set_option maxRecDepth 100000 in
theorem c_X6_putBack (l : Launch) (D : va_G) (y : Nat → ClassId) (b : Nat → Nat) (s : Nat → Int32) (q : mdQ) : zDv l D y yX6_putBack wsX6_putBack ({ frames := 0, cells := 0, slots := 0, locals := 0 }) [.ref (b 0)] (mdW y b s q) (mdW y b (q_trial q) q) := by
  refine zMv.mk (cc := cX6_putBack) (maxL := 2) (lv := [(0, .ref (b 0))]) (by decide) rfl (Nat.le_of_ble_eq_true rfl) rfl (fun X G hE => ?_)
  have hin := in_X6_putBack_X6
  refine z_iconst (v := nI 0) G dX6_putBack_0 rfl ?_
  refine z_istore_nA G dX6_putBack_1 rfl (by decide) rfl ?_
  have lo : ∀ nj j : Nat, nj + j = 166 → zV D X (mdW y b (cpF s (q_trial q) (j)) q) 0 0 2 [(0, .ref (b 0)), (1, .int (nI (j)))] [] := by
    intro nj
    induction nj with
    | zero =>
      intro j hj
      obtain rfl : j = 166 := by omega
      refine z_iload_n G dX6_putBack_2 1 rfl ?_
      refine z_sipush (v := nI 166) G dX6_putBack_3 rfl ?_
      refine z_icmp_geT G dX6_putBack_6 27 (by decide) (nI_le (Nat.le_refl _) (by decide)) ?_
      exact hE _ _ _ dX6_putBack_27 (mdW_eq (fun i hi => cpF_at hi))
    | succ nj ihj =>
      intro j hj
      have lj : j < 166 := by omega
      refine z_iload_n G dX6_putBack_2 1 rfl ?_
      refine z_sipush (v := nI 166) G dX6_putBack_3 rfl ?_
      refine z_icmp_geF G dX6_putBack_6 27 (by decide) (nI_ge lj (by decide)) ?_
      refine z_aload_n G dX6_putBack_9 0 rfl ?_
      refine mg_s G hin (List.mem_of_getElem? (i := 1) rfl) dX6_putBack_10 ?_
      refine z_iload_n G dX6_putBack_13 1 rfl ?_
      refine z_aload_n G dX6_putBack_14 0 rfl ?_
      refine mg_trial G hin (List.mem_of_getElem? (i := 2) rfl) dX6_putBack_15 ?_
      refine z_iload_n G dX6_putBack_18 1 rfl ?_
      refine ml_trial G (by omega) dX6_putBack_19 ?_
      refine ms_s G (by omega) dX6_putBack_20 ?_
      refine z_iinc G dX6_putBack_21 1 rfl (nI (j + 1)) (nI_inc _) (by decide) rfl ?_
      refine z_goto (tgt := 2) G dX6_putBack_24 (by decide) ?_
      refine z_world (ws' := mdW y b (cpF s (q_trial q) (j + 1)) q) (by rw [← cpF_s]) ?_
      exact ihj (j + 1) (by omega)
  exact lo 166 0 rfl

theorem k_X6_recorded : zCal yX6_recorded wsX6_recorded cX6_recorded 3 (some .int) 1 := ⟨⟨_, rfl⟩, by decide +kernel⟩
theorem in_X6_recorded_X6 : ∀ w ∈ wsX60, w ∈ wsX6_recorded := fun _ h => List.mem_cons_of_mem _ (List.mem_append_right _ h)
set_option maxHeartbeats 4000000 in
set_option maxRecDepth 100000 in
theorem c_X6_recorded (l : Launch) (D : va_G) (y : Nat → ClassId) (b : Nat → Nat) (s : Nat → Int32) (q : mdQ) {st : Nat} (hst : q_states q = nI st) (h6 : st ≤ 6) (r : Int32) : zDi l D y yX6_recorded wsX6_recorded ({ frames := 0, cells := 0, slots := 0, locals := 0 }) [.ref (b 0), .int (r)] (mdW y b s q) (r) (mdW y b s (rcQ q st r)) := by
  refine zMi.mk (cc := cX6_recorded) (maxL := 3) (lv := [(0, .ref (b 0)), (1, .int (r))]) (by decide) rfl (Nat.le_of_ble_eq_true rfl) rfl (fun X G hE => ?_)
  have hin := in_X6_recorded_X6
  refine z_iload_n G dX6_recorded_0 1 rfl ?_
  refine z_if_lt G dX6_recorded_1 100 (by decide) (fun c1 => ?_) (fun c1 => ?_)
  · have hr : ¬ 0 ≤ r := Int32.not_le.mpr c1
    refine z_iload_n G dX6_recorded_100 1 rfl ?_
    exact hE _ _ _ _ dX6_recorded_101 rfl (by rw [rcQ, if_neg hr]; exact ⟨rfl, rfl⟩)
  · have hr : 0 ≤ r := Int32.not_lt.mp c1
    refine z_aload_n G dX6_recorded_4 0 rfl ?_
    refine mg_states G hin (List.mem_of_getElem? (i := 1) rfl) dX6_recorded_5 ?_
    refine z_top (w := .int (nI (st))) (congrArg Value.int hst) ?_
    refine z_bipush (v := nI 6) G dX6_recorded_8 rfl ?_
    refine z_icmp_ne G dX6_recorded_10 54 (by decide) (fun c10 => ?_) (fun c10 => ?_)
    · have n6 : ¬ st = 6 := fun z => c10 (congrArg nI z)
      refine z_iconst (v := nI 0) G dX6_recorded_54 rfl ?_
      refine z_istore_nA G dX6_recorded_55 rfl (by decide) rfl ?_
      have lp : ∀ nj j : Nat, nj + j = 166 → zV D X (mdW y b s (qs_before q (plF (q_before q) (q_spare q) (st) (j)))) 0 0 56 [(0, .ref (b 0)), (1, .int (r)), (2, .int (nI (j)))] [] := by
        intro nj
        induction nj with
        | zero =>
          intro j hj
          obtain rfl : j = 166 := by omega
          refine z_iload_n G dX6_recorded_56 2 rfl ?_
          refine z_sipush (v := nI 166) G dX6_recorded_57 rfl ?_
          refine z_icmp_geT G dX6_recorded_60 90 (by decide) (nI_le (Nat.le_refl _) (by decide)) ?_
          refine z_aload_n G dX6_recorded_90 0 rfl ?_
          refine z_dup G dX6_recorded_91 rfl ?_
          refine mg_states G hin (List.mem_of_getElem? (i := 1) rfl) dX6_recorded_92 ?_
          refine z_top (w := .int (nI (st))) (congrArg Value.int hst) ?_
          refine z_iconst (v := nI 1) G dX6_recorded_95 rfl ?_
          refine z_iaddN G dX6_recorded_96 (st + 1) (by omega) ?_
          refine mp_states G hin (List.mem_of_getElem? (i := 1) rfl) dX6_recorded_97 ?_
          refine z_iload_n G dX6_recorded_100 1 rfl ?_
          exact hE _ _ _ _ dX6_recorded_101 rfl (by rw [rcQ, if_pos hr, reQ, if_neg n6]; exact ⟨rfl, rfl⟩)
        | succ nj ihj =>
          intro j hj
          have lj : j < 166 := by omega
          refine z_iload_n G dX6_recorded_56 2 rfl ?_
          refine z_sipush (v := nI 166) G dX6_recorded_57 rfl ?_
          refine z_icmp_geF G dX6_recorded_60 90 (by decide) (nI_ge lj (by decide)) ?_
          refine z_aload_n G dX6_recorded_63 0 rfl ?_
          refine mg_before G hin (List.mem_of_getElem? (i := 2) rfl) dX6_recorded_64 ?_
          refine z_sipush (v := nI 166) G dX6_recorded_67 rfl ?_
          refine z_aload_n G dX6_recorded_70 0 rfl ?_
          refine mg_states G hin (List.mem_of_getElem? (i := 1) rfl) dX6_recorded_71 ?_
          refine z_top (w := .int (nI (st))) (congrArg Value.int hst) ?_
          refine z_imulN G dX6_recorded_74 (166 * st) (by omega) ?_
          refine z_iload_n G dX6_recorded_75 2 rfl ?_
          refine z_iaddN G dX6_recorded_76 (166 * st + j) (by omega) ?_
          refine z_aload_n G dX6_recorded_77 0 rfl ?_
          refine mg_spare G hin (List.mem_of_getElem? (i := 3) rfl) dX6_recorded_78 ?_
          refine z_iload_n G dX6_recorded_81 2 rfl ?_
          refine ml_spare G (by omega) dX6_recorded_82 ?_
          refine ms_before G (by omega) dX6_recorded_83 ?_
          refine z_iinc G dX6_recorded_84 2 rfl (nI (j + 1)) (nI_inc _) (by decide) rfl ?_
          refine z_goto (tgt := 56) G dX6_recorded_87 (by decide) ?_
          refine z_world (ws' := mdW y b s (qs_before q (plF (q_before q) (q_spare q) (st) (j + 1)))) (by rw [← plF_s]; rfl) ?_
          exact ihj (j + 1) (by omega)
      exact z_world (ws' := mdW y b s (qs_before q (plF (q_before q) (q_spare q) (st) (0)))) (by rw [plF_0]; rfl) (lp 166 0 rfl)
    · have e6 : st = 6 := (nI_eq (by omega) (by decide)).mp c10
      refine z_iconst (v := nI 0) G dX6_recorded_13 rfl ?_
      refine z_istore_nA G dX6_recorded_14 rfl (by decide) rfl ?_
      have ls : ∀ nj j : Nat, nj + j = 830 → zV D X (mdW y b s (qs_before q (shF (q_before q) (j)))) 0 0 15 [(0, .ref (b 0)), (1, .int (r)), (2, .int (nI (j)))] [] := by
        intro nj
        induction nj with
        | zero =>
          intro j hj
          obtain rfl : j = 830 := by omega
          refine z_iload_n G dX6_recorded_15 2 rfl ?_
          refine z_sipush (v := nI 830) G dX6_recorded_16 rfl ?_
          refine z_icmp_geT G dX6_recorded_19 44 (by decide) (nI_le (Nat.le_refl _) (by decide)) ?_
          refine z_aload_n G dX6_recorded_44 0 rfl ?_
          refine z_dup G dX6_recorded_45 rfl ?_
          refine mg_states G hin (List.mem_of_getElem? (i := 1) rfl) dX6_recorded_46 ?_
          refine z_top (w := .int (nI (6))) (congrArg Value.int (hst.trans (congrArg nI e6))) ?_
          refine z_iconst (v := nI 1) G dX6_recorded_49 rfl ?_
          refine z_isubN G dX6_recorded_50 (by omega) (5) (by omega) ?_
          refine mp_states G hin (List.mem_of_getElem? (i := 1) rfl) dX6_recorded_51 ?_
          refine z_iconst (v := nI 0) G dX6_recorded_54 rfl ?_
          refine z_istore_n G dX6_recorded_55 rfl (by decide) 2 rfl ?_
          have lp : ∀ nj j : Nat, nj + j = 166 → zV D X (mdW y b s (qs_before (qs_states (qs_before q (shF (q_before q) 830)) (nI 5)) (plF (q_before (qs_states (qs_before q (shF (q_before q) 830)) (nI 5))) (q_spare q) (5) (j)))) 0 0 56 [(0, .ref (b 0)), (1, .int (r)), (2, .int (nI (j)))] [] := by
            intro nj
            induction nj with
            | zero =>
              intro j hj
              obtain rfl : j = 166 := by omega
              refine z_iload_n G dX6_recorded_56 2 rfl ?_
              refine z_sipush (v := nI 166) G dX6_recorded_57 rfl ?_
              refine z_icmp_geT G dX6_recorded_60 90 (by decide) (nI_le (Nat.le_refl _) (by decide)) ?_
              refine z_aload_n G dX6_recorded_90 0 rfl ?_
              refine z_dup G dX6_recorded_91 rfl ?_
              refine mg_states G hin (List.mem_of_getElem? (i := 1) rfl) dX6_recorded_92 ?_
              refine z_top (w := .int (nI (5))) rfl ?_
              refine z_iconst (v := nI 1) G dX6_recorded_95 rfl ?_
              refine z_iaddN G dX6_recorded_96 (5 + 1) (by omega) ?_
              refine mp_states G hin (List.mem_of_getElem? (i := 1) rfl) dX6_recorded_97 ?_
              refine z_iload_n G dX6_recorded_100 1 rfl ?_
              exact hE _ _ _ _ dX6_recorded_101 rfl (by rw [rcQ, if_pos hr, reQ, if_pos e6]; exact ⟨rfl, rfl⟩)
            | succ nj ihj =>
              intro j hj
              have lj : j < 166 := by omega
              refine z_iload_n G dX6_recorded_56 2 rfl ?_
              refine z_sipush (v := nI 166) G dX6_recorded_57 rfl ?_
              refine z_icmp_geF G dX6_recorded_60 90 (by decide) (nI_ge lj (by decide)) ?_
              refine z_aload_n G dX6_recorded_63 0 rfl ?_
              refine mg_before G hin (List.mem_of_getElem? (i := 2) rfl) dX6_recorded_64 ?_
              refine z_sipush (v := nI 166) G dX6_recorded_67 rfl ?_
              refine z_aload_n G dX6_recorded_70 0 rfl ?_
              refine mg_states G hin (List.mem_of_getElem? (i := 1) rfl) dX6_recorded_71 ?_
              refine z_top (w := .int (nI (5))) rfl ?_
              refine z_imulN G dX6_recorded_74 (166 * 5) (by omega) ?_
              refine z_iload_n G dX6_recorded_75 2 rfl ?_
              refine z_iaddN G dX6_recorded_76 (166 * 5 + j) (by omega) ?_
              refine z_aload_n G dX6_recorded_77 0 rfl ?_
              refine mg_spare G hin (List.mem_of_getElem? (i := 3) rfl) dX6_recorded_78 ?_
              refine z_iload_n G dX6_recorded_81 2 rfl ?_
              refine ml_spare G (by omega) dX6_recorded_82 ?_
              refine ms_before G (by omega) dX6_recorded_83 ?_
              refine z_iinc G dX6_recorded_84 2 rfl (nI (j + 1)) (nI_inc _) (by decide) rfl ?_
              refine z_goto (tgt := 56) G dX6_recorded_87 (by decide) ?_
              refine z_world (ws' := mdW y b s (qs_before (qs_states (qs_before q (shF (q_before q) 830)) (nI 5)) (plF (q_before (qs_states (qs_before q (shF (q_before q) 830)) (nI 5))) (q_spare q) (5) (j + 1)))) (by rw [← plF_s]; rfl) ?_
              exact ihj (j + 1) (by omega)
          exact z_world (ws' := mdW y b s (qs_before (qs_states (qs_before q (shF (q_before q) 830)) (nI 5)) (plF (q_before (qs_states (qs_before q (shF (q_before q) 830)) (nI 5))) (q_spare q) (5) (0)))) (by rw [plF_0]; rfl) (lp 166 0 rfl)
        | succ nj ihj =>
          intro j hj
          have lj : j < 830 := by omega
          refine z_iload_n G dX6_recorded_15 2 rfl ?_
          refine z_sipush (v := nI 830) G dX6_recorded_16 rfl ?_
          refine z_icmp_geF G dX6_recorded_19 44 (by decide) (nI_ge lj (by decide)) ?_
          refine z_aload_n G dX6_recorded_22 0 rfl ?_
          refine mg_before G hin (List.mem_of_getElem? (i := 2) rfl) dX6_recorded_23 ?_
          refine z_iload_n G dX6_recorded_26 2 rfl ?_
          refine z_aload_n G dX6_recorded_27 0 rfl ?_
          refine mg_before G hin (List.mem_of_getElem? (i := 2) rfl) dX6_recorded_28 ?_
          refine z_sipush (v := nI 166) G dX6_recorded_31 rfl ?_
          refine z_iload_n G dX6_recorded_34 2 rfl ?_
          refine z_iaddN G dX6_recorded_35 (j + 166) (by omega) ?_
          refine ml_before G (by omega) dX6_recorded_36 ?_
          refine ms_before G (by omega) dX6_recorded_37 ?_
          refine z_iinc G dX6_recorded_38 2 rfl (nI (j + 1)) (nI_inc _) (by decide) rfl ?_
          refine z_goto (tgt := 15) G dX6_recorded_41 (by decide) ?_
          refine z_world (ws' := mdW y b s (qs_before q (shF (q_before q) (j + 1)))) (by rw [← shF_s, Nat.add_comm 166 j]; rfl) ?_
          exact ihj (j + 1) (by omega)
      exact ls 830 0 rfl
