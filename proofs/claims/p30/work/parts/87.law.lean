/-! the words of the answers, one by one -/
theorem cow_0 (f : Nat → Int32) : coR1 f (nI 0) = f 4 := by rw [coR1, if_pos rfl]
theorem cow_1 (f : Nat → Int32) : coR1 f (nI 1) = nI (ng f) := by rw [coR1, if_neg (by decide), if_pos rfl]
theorem cow_2 (f : Nat → Int32) : coR1 f (nI 2) = f 5 := by rw [coR1, if_neg (by decide), if_neg (by decide), if_pos rfl]
theorem cow_3 (f : Nat → Int32) : coR1 f (nI 3) = f 6 := by rw [coR1, if_neg (by decide), if_neg (by decide), if_neg (by decide), if_pos rfl]
theorem cow_4 (f : Nat → Int32) : coR1 f (nI 4) = owa f := by rw [coR1, if_neg (by decide), if_neg (by decide), if_neg (by decide), if_neg (by decide), if_pos rfl]
theorem cow_5 (f : Nat → Int32) : coR1 f (nI 5) = f 7 := by rw [coR1, if_neg (by decide), if_neg (by decide), if_neg (by decide), if_neg (by decide), if_neg (by decide), if_pos rfl]
theorem cow_6 (f : Nat → Int32) : coR1 f (nI 6) = f 8 := by rw [coR1, if_neg (by decide), if_neg (by decide), if_neg (by decide), if_neg (by decide), if_neg (by decide), if_neg (by decide), if_pos rfl]
theorem cow_7 (f : Nat → Int32) : coR1 f (nI 7) = f 9 := by rw [coR1, if_neg (by decide), if_neg (by decide), if_neg (by decide), if_neg (by decide), if_neg (by decide), if_neg (by decide), if_neg (by decide), if_pos rfl]
theorem cow_8 (f : Nat → Int32) : coR1 f (nI 8) = f 10 := by rw [coR1, if_neg (by decide), if_neg (by decide), if_neg (by decide), if_neg (by decide), if_neg (by decide), if_neg (by decide), if_neg (by decide), if_neg (by decide), if_pos rfl]
theorem cow_9 (f : Nat → Int32) : coR1 f (nI 9) = f 11 := by rw [coR1, if_neg (by decide), if_neg (by decide), if_neg (by decide), if_neg (by decide), if_neg (by decide), if_neg (by decide), if_neg (by decide), if_neg (by decide), if_neg (by decide), if_pos rfl]
theorem cow_10 (f : Nat → Int32) : coR1 f (nI 10) = f 12 := by rw [coR1, if_neg (by decide), if_neg (by decide), if_neg (by decide), if_neg (by decide), if_neg (by decide), if_neg (by decide), if_neg (by decide), if_neg (by decide), if_neg (by decide), if_neg (by decide), if_pos rfl]
theorem cow_11 (f : Nat → Int32) : coR1 f (nI 11) = orI (gs f) 9 := by rw [coR1, if_neg (by decide), if_neg (by decide), if_neg (by decide), if_neg (by decide), if_neg (by decide), if_neg (by decide), if_neg (by decide), if_neg (by decide), if_neg (by decide), if_neg (by decide), if_neg (by decide), if_pos rfl]
theorem cow_12 (f : Nat → Int32) : coR1 f (nI 12) = orI (psP f) 9 := by rw [coR1, if_neg (by decide), if_neg (by decide), if_neg (by decide), if_neg (by decide), if_neg (by decide), if_neg (by decide), if_neg (by decide), if_neg (by decide), if_neg (by decide), if_neg (by decide), if_neg (by decide), if_neg (by decide), if_pos rfl]
theorem ofw_0 {f : Nat → Int32} {g : Nat} (hg : g < 9) (sg : gs f g = true) : ofR1 f (nI g) (nI 0) = f (14 + 17 * g) := (of_t hg sg _).trans (by rw [faR, if_pos rfl])
theorem ofw_1 {f : Nat → Int32} {g : Nat} (hg : g < 9) (sg : gs f g = true) : ofR1 f (nI g) (nI 1) = f (15 + 17 * g) := (of_t hg sg _).trans (by rw [faR, if_neg (by decide), if_pos rfl])
theorem ofw_2 {f : Nat → Int32} {g : Nat} (hg : g < 9) (sg : gs f g = true) : ofR1 f (nI g) (nI 2) = f (16 + 17 * g) := (of_t hg sg _).trans (by rw [faR, if_neg (by decide), if_neg (by decide), if_pos rfl])
theorem ofw_3 {f : Nat → Int32} {g : Nat} (hg : g < 9) (sg : gs f g = true) : ofR1 f (nI g) (nI 3) = f (17 + 17 * g) := (of_t hg sg _).trans (by rw [faR, if_neg (by decide), if_neg (by decide), if_neg (by decide), if_pos rfl])
theorem ofw_4 {f : Nat → Int32} {g : Nat} (hg : g < 9) (sg : gs f g = true) : ofR1 f (nI g) (nI 4) = f (18 + 17 * g) := (of_t hg sg _).trans (by rw [faR, if_neg (by decide), if_neg (by decide), if_neg (by decide), if_neg (by decide), if_pos rfl])
theorem ofw_5 {f : Nat → Int32} {g : Nat} (hg : g < 9) (sg : gs f g = true) : ofR1 f (nI g) (nI 5) = f (19 + 17 * g) := (of_t hg sg _).trans (by rw [faR, if_neg (by decide), if_neg (by decide), if_neg (by decide), if_neg (by decide), if_neg (by decide), if_pos rfl])
theorem ofw_6 {f : Nat → Int32} {g : Nat} (hg : g < 9) (sg : gs f g = true) : ofR1 f (nI g) (nI 6) = owd f g := (of_t hg sg _).trans (by rw [faR, if_neg (by decide), if_neg (by decide), if_neg (by decide), if_neg (by decide), if_neg (by decide), if_neg (by decide), if_pos rfl])
theorem ofw_7 {f : Nat → Int32} {g : Nat} (hg : g < 9) (sg : gs f g = true) : ofR1 f (nI g) (nI 7) = owt f g := (of_t hg sg _).trans (by rw [faR, if_neg (by decide), if_neg (by decide), if_neg (by decide), if_neg (by decide), if_neg (by decide), if_neg (by decide), if_neg (by decide), if_pos rfl])
theorem ofw_8 {f : Nat → Int32} {g : Nat} (hg : g < 9) (sg : gs f g = true) : ofR1 f (nI g) (nI 8) = f (20 + 17 * g) := (of_t hg sg _).trans (by rw [faR, if_neg (by decide), if_neg (by decide), if_neg (by decide), if_neg (by decide), if_neg (by decide), if_neg (by decide), if_neg (by decide), if_neg (by decide), if_pos rfl])
theorem ofw_9 {f : Nat → Int32} {g : Nat} (hg : g < 9) (sg : gs f g = true) : ofR1 f (nI g) (nI 9) = nI (rk f g) := (of_t hg sg _).trans (by rw [faR, if_neg (by decide), if_neg (by decide), if_neg (by decide), if_neg (by decide), if_neg (by decide), if_neg (by decide), if_neg (by decide), if_neg (by decide), if_neg (by decide), if_pos rfl])
theorem k_L_isAhead : zCal yL_isAhead wsL_isAhead cL_isAhead 6 (some .boolean) 3 := ⟨⟨_, rfl⟩, by decide +kernel⟩
set_option maxHeartbeats 8000000 in
set_option maxRecDepth 100000 in
theorem c_L_isAhead {D : va_G} {y : Nat → ClassId} {f : Nat → Int32} {T : Nat} (h : JV f T) {a b : Nat} (ha : a < 9) (hb : b < 9) (sa : gs f a = true) (sb : gs f b = true) : LC D y yL_isAhead wsL_isAhead ({ frames := 5, cells := 0, slots := 0, locals := 115 }) [.int (nI (a)), .int (nI (b))] f (bI (ahd f a b)) (f) := by
  intro o sv k0 w hT l
  refine zMi.mk (cc := cL_isAhead) (maxL := 6) (lv := [(0, .ref (o)), (1, .int (nI (a))), (2, .int (nI (b)))]) (by decide) rfl (Nat.le_of_ble_eq_true rfl) rfl (fun X G hE => ?_)
  refine z_aload_n G dL_isAhead_0 0 rfl ?_
  refine z_iload_n G dL_isAhead_1 1 rfl ?_
  refine z_iconst (v := nI 2) G dL_isAhead_2 rfl ?_
  refine z_q (As := [_, _]) G (lc_of h.iv (nI (a)) (nI (2))) hT k_X5_of gL_isAhead_X5_of rfl dL_isAhead_3 ⟨by decide, by decide⟩ ⟨rfl, rfl⟩ ⟨Nat.zero_le _, Nat.zero_le _⟩ rfl (Nat.le_of_ble_eq_true rfl) rfl ?_
  intro w hT
  refine z_top (w := .int (f (16 + 17 * a))) (congrArg Value.int (ofw_2 ha sa)) ?_
  refine z_aload_n G dL_isAhead_6 0 rfl ?_
  refine z_iload_n G dL_isAhead_7 2 rfl ?_
  refine z_iconst (v := nI 2) G dL_isAhead_8 rfl ?_
  refine z_q (As := [_, _]) G (lc_of h.iv (nI (b)) (nI (2))) hT k_X5_of gL_isAhead_X5_of rfl dL_isAhead_9 ⟨by decide, by decide⟩ ⟨rfl, rfl⟩ ⟨Nat.zero_le _, Nat.zero_le _⟩ rfl (Nat.le_of_ble_eq_true rfl) rfl ?_
  intro w hT
  refine z_top (w := .int (f (16 + 17 * b))) (congrArg Value.int (ofw_2 hb sb)) ?_
  refine z_isub G dL_isAhead_12 ?_
  refine z_istore_nA G dL_isAhead_13 rfl (by decide) rfl ?_
  refine z_aload_n G dL_isAhead_14 0 rfl ?_
  refine z_iload_n G dL_isAhead_15 2 rfl ?_
  refine z_iconst (v := nI 3) G dL_isAhead_16 rfl ?_
  refine z_q (As := [_, _]) G (lc_of h.iv (nI (b)) (nI (3))) hT k_X5_of gL_isAhead_X5_of rfl dL_isAhead_17 ⟨by decide, by decide⟩ ⟨rfl, rfl⟩ ⟨Nat.zero_le _, Nat.zero_le _⟩ rfl (Nat.le_of_ble_eq_true rfl) rfl ?_
  intro w hT
  refine z_top (w := .int (f (17 + 17 * b))) (congrArg Value.int (ofw_3 hb sb)) ?_
  refine z_aload_n G dL_isAhead_20 0 rfl ?_
  refine z_iload_n G dL_isAhead_21 1 rfl ?_
  refine z_iconst (v := nI 3) G dL_isAhead_22 rfl ?_
  refine z_q (As := [_, _]) G (lc_of h.iv (nI (a)) (nI (3))) hT k_X5_of gL_isAhead_X5_of rfl dL_isAhead_23 ⟨by decide, by decide⟩ ⟨rfl, rfl⟩ ⟨Nat.zero_le _, Nat.zero_le _⟩ rfl (Nat.le_of_ble_eq_true rfl) rfl ?_
  intro w hT
  refine z_top (w := .int (f (17 + 17 * a))) (congrArg Value.int (ofw_3 ha sa)) ?_
  refine z_isub G dL_isAhead_26 ?_
  refine z_istoreA G dL_isAhead_27 (by decide) rfl ?_
  refine z_aload_n G dL_isAhead_29 0 rfl ?_
  refine z_iload_n G dL_isAhead_30 2 rfl ?_
  refine z_bipush (v := nI 6) G dL_isAhead_31 rfl ?_
  refine z_q (As := [_, _]) G (lc_of h.iv (nI (b)) (nI (6))) hT k_X5_of gL_isAhead_X5_of rfl dL_isAhead_33 ⟨by decide, by decide⟩ ⟨rfl, rfl⟩ ⟨Nat.zero_le _, Nat.zero_le _⟩ rfl (Nat.le_of_ble_eq_true rfl) rfl ?_
  intro w hT
  refine z_top (w := .int (owd f b)) (congrArg Value.int (ofw_6 hb sb)) ?_
  refine z_aload_n G dL_isAhead_36 0 rfl ?_
  refine z_iload_n G dL_isAhead_37 1 rfl ?_
  refine z_bipush (v := nI 6) G dL_isAhead_38 rfl ?_
  refine z_q (As := [_, _]) G (lc_of h.iv (nI (a)) (nI (6))) hT k_X5_of gL_isAhead_X5_of rfl dL_isAhead_40 ⟨by decide, by decide⟩ ⟨rfl, rfl⟩ ⟨Nat.zero_le _, Nat.zero_le _⟩ rfl (Nat.le_of_ble_eq_true rfl) rfl ?_
  intro w hT
  refine z_top (w := .int (owd f a)) (congrArg Value.int (ofw_6 ha sa)) ?_
  refine z_isub G dL_isAhead_43 ?_
  refine z_istoreA G dL_isAhead_44 (by decide) rfl ?_
  refine z_iload_n G dL_isAhead_46 3 rfl ?_
  refine z_if_eq G dL_isAhead_47 62 (by decide) (fun c1 => ?_) (fun c1 => ?_)
  · refine z_iload G dL_isAhead_62 4 rfl ?_
    refine z_if_eq G dL_isAhead_64 80 (by decide) (fun c3 => ?_) (fun c3 => ?_)
    · refine z_iload G dL_isAhead_80 5 rfl ?_
      refine z_if_eq G dL_isAhead_82 98 (by decide) (fun c5 => ?_) (fun c5 => ?_)
      · refine z_aload_n G dL_isAhead_98 0 rfl ?_
        refine z_iload_n G dL_isAhead_99 1 rfl ?_
        refine z_iconst (v := nI 0) G dL_isAhead_100 rfl ?_
        refine z_q (As := [_, _]) G (lc_of h.iv (nI (a)) (nI (0))) hT k_X5_of gL_isAhead_X5_of rfl dL_isAhead_101 ⟨by decide, by decide⟩ ⟨rfl, rfl⟩ ⟨Nat.zero_le _, Nat.zero_le _⟩ rfl (Nat.le_of_ble_eq_true rfl) rfl ?_
        intro w hT
        refine z_top (w := .int (f (14 + 17 * a))) (congrArg Value.int (ofw_0 ha sa)) ?_
        refine z_aload_n G dL_isAhead_104 0 rfl ?_
        refine z_iload_n G dL_isAhead_105 2 rfl ?_
        refine z_iconst (v := nI 0) G dL_isAhead_106 rfl ?_
        refine z_q (As := [_, _]) G (lc_of h.iv (nI (b)) (nI (0))) hT k_X5_of gL_isAhead_X5_of rfl dL_isAhead_107 ⟨by decide, by decide⟩ ⟨rfl, rfl⟩ ⟨Nat.zero_le _, Nat.zero_le _⟩ rfl (Nat.le_of_ble_eq_true rfl) rfl ?_
        intro w hT
        refine z_top (w := .int (f (14 + 17 * b))) (congrArg Value.int (ofw_0 hb sb)) ?_
        refine z_icmp_ge G dL_isAhead_110 117 (by decide) (fun c7 => ?_) (fun c7 => ?_)
        · refine z_iconst (v := nI 0) G dL_isAhead_117 rfl ?_
          exact hE _ _ _ _ dL_isAhead_118 (by rfl) ⟨dc_f (ia4 c1 c3 c5) (fun z => z c7), hT⟩
        · refine z_iconst (v := nI 1) G dL_isAhead_113 rfl ?_
          refine z_goto (tgt := 118) G dL_isAhead_114 (by decide) ?_
          exact hE _ _ _ _ dL_isAhead_118 (by rfl) ⟨dc_t (ia4 c1 c3 c5) c7, hT⟩
      · refine z_iload G dL_isAhead_85 5 rfl ?_
        refine z_if_le G dL_isAhead_87 94 (by decide) (fun c6 => ?_) (fun c6 => ?_)
        · refine z_iconst (v := nI 0) G dL_isAhead_94 rfl ?_
          refine z_goto (tgt := 118) G dL_isAhead_95 (by decide) ?_
          exact hE _ _ _ _ dL_isAhead_118 (by rfl) ⟨dc_f (ia3 h ha hb c1 c3 c5) (fun z => z c6), hT⟩
        · refine z_iconst (v := nI 1) G dL_isAhead_90 rfl ?_
          refine z_goto (tgt := 118) G dL_isAhead_91 (by decide) ?_
          exact hE _ _ _ _ dL_isAhead_118 (by rfl) ⟨dc_t (ia3 h ha hb c1 c3 c5) c6, hT⟩
    · refine z_iload G dL_isAhead_67 4 rfl ?_
      refine z_if_le G dL_isAhead_69 76 (by decide) (fun c4 => ?_) (fun c4 => ?_)
      · refine z_iconst (v := nI 0) G dL_isAhead_76 rfl ?_
        refine z_goto (tgt := 118) G dL_isAhead_77 (by decide) ?_
        exact hE _ _ _ _ dL_isAhead_118 (by rfl) ⟨dc_f (ia2 h ha hb c1 c3) (fun z => z c4), hT⟩
      · refine z_iconst (v := nI 1) G dL_isAhead_72 rfl ?_
        refine z_goto (tgt := 118) G dL_isAhead_73 (by decide) ?_
        exact hE _ _ _ _ dL_isAhead_118 (by rfl) ⟨dc_t (ia2 h ha hb c1 c3) c4, hT⟩
  · refine z_iload_n G dL_isAhead_50 3 rfl ?_
    refine z_if_le G dL_isAhead_51 58 (by decide) (fun c2 => ?_) (fun c2 => ?_)
    · refine z_iconst (v := nI 0) G dL_isAhead_58 rfl ?_
      refine z_goto (tgt := 118) G dL_isAhead_59 (by decide) ?_
      exact hE _ _ _ _ dL_isAhead_118 (by rfl) ⟨dc_f (ia1 h ha hb c1) (fun z => z c2), hT⟩
    · refine z_iconst (v := nI 1) G dL_isAhead_54 rfl ?_
      refine z_goto (tgt := 118) G dL_isAhead_55 (by decide) ?_
      exact hE _ _ _ _ dL_isAhead_118 (by rfl) ⟨dc_t (ia1 h ha hb c1) c2, hT⟩
