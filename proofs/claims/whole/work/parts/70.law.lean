set_option maxHeartbeats 4000000 in
set_option maxRecDepth 100000 in
/-- the law's loop -/
theorem law_loop {D : va_G} {y : Nat → ClassId} {X : zX} {e A : Nat → Nat → Nat} {b : Nat → Nat} {bb L ms : Nat} {xs : Nat → Int32} (G : zG D y X cL_law RL room_1 4 wsL_law) (hZ : zSX ms X) (hX : scX bb L xs X) (hL : L ≤ 1536) (hE : ∀ ws lv, zV D X ws 150 4112 804 lv [.int 1]) : ∀ n j : Nat, L < 3 * (j + n) + 3 → 3 * j ≤ L → LI D y X e A b bb j := by
  intro n
  induction n with
  | zero =>
    intro j h1 h2 R Q Gr K b0 b1 nx kp t len s q h
    refine z_iload_n G dL_law_18 3 rfl ?_
    refine z_aload_n G dL_law_19 0 rfl ?_
    refine z_slen G hX dL_law_20 ?_
    refine z_iconst (v := nI 3) G dL_law_21 rfl ?_
    refine z_isub G dL_law_22 ?_
    refine z_icmp_gtT G dL_law_23 803 (by decide) ((sc_gt hL h2).mpr (by omega)) ?_
    refine z_iconst (v := 1) G dL_law_803 rfl ?_
    exact hE _ _
  | succ n ih =>
    intro j h1 h2 R Q Gr K b0 b1 nx kp t len s q h
    refine z_iload_n G dL_law_18 3 rfl ?_
    refine z_aload_n G dL_law_19 0 rfl ?_
    refine z_slen G hX dL_law_20 ?_
    refine z_iconst (v := nI 3) G dL_law_21 rfl ?_
    refine z_isub G dL_law_22 ?_
    by_cases hj : 3 * j + 3 ≤ L
    · have IH := ih (j + 1) (by omega) (by omega)
      refine z_icmp_gtF G dL_law_23 803 (by decide) (fun z => (sc_gt hL h2).mp z hj) ?_
      refine z_aload_n G dL_law_26 0 rfl ?_
      refine z_iload_n G dL_law_27 3 rfl ?_
      refine z_sld G hX (i := 3 * j) (by omega) hL dL_law_28 ?_
      refine z_bipush (v := nI 31) G dL_law_29 rfl ?_
      refine z_iand G dL_law_31 ?_
      generalize xs (3 * j) &&& nI 31 = op
      rcases x_sw2 0 26 (by decide) op with hsw | ⟨k, hk1, hk2, rfl⟩
      · refine z_tableOut G 797 dL_law_32 hsw (by decide) ?_
        exact lw_nx G (IH _ _ _ _ _ _ _ _ _ _ _ _ h)
      · rcases (by omega : k = 0 ∨ k = 1 ∨ k = 2 ∨ k = 3 ∨ k = 4 ∨ k = 5 ∨ k = 6 ∨ k = 7 ∨ k = 8 ∨ k = 9 ∨ k = 10 ∨ k = 11 ∨ k = 12 ∨ k = 13 ∨ k = 14 ∨ k = 15 ∨ k = 16 ∨ k = 17 ∨ k = 18 ∨ k = 19 ∨ k = 20 ∨ k = 21 ∨ k = 22 ∨ k = 23 ∨ k = 24 ∨ k = 25 ∨ k = 26) with rfl | rfl | rfl | rfl | rfl | rfl | rfl | rfl | rfl | rfl | rfl | rfl | rfl | rfl | rfl | rfl | rfl | rfl | rfl | rfl | rfl | rfl | rfl | rfl | rfl | rfl | rfl
        · exact z_tableIn G 156 dL_law_32 (by decide) (by decide) rfl (by decide) (lo_set G hZ hX hL hj h IH)
        · exact z_tableIn G 189 dL_law_32 (by decide) (by decide) rfl (by decide) (lo_guest G hX hL hj h IH)
        · exact z_tableIn G 212 dL_law_32 (by decide) (by decide) rfl (by decide) (lo_leave G hX hL hj h IH)
        · exact z_tableIn G 235 dL_law_32 (by decide) (by decide) rfl (by decide) (lo_word G hX hL hj h IH)
        · exact z_tableIn G 258 dL_law_32 (by decide) (by decide) rfl (by decide) (lo_bow G hX hL hj h IH)
        · exact z_tableIn G 291 dL_law_32 (by decide) (by decide) rfl (by decide) (lo_offer G hX hL hj h IH)
        · exact z_tableIn G 324 dL_law_32 (by decide) (by decide) rfl (by decide) (lo_breathe G hX hL hj h IH)
        · exact z_tableIn G 347 dL_law_32 (by decide) (by decide) rfl (by decide) (lo_round G hX hL hj h IH)
        · exact z_tableIn G 360 dL_law_32 (by decide) (by decide) rfl (by decide) (lo_seatAnew G hX hL hj h IH)
        · exact z_tableIn G 373 dL_law_32 (by decide) (by decide) rfl (by decide) (lo_of G hX hL hj h IH)
        · exact z_tableIn G 406 dL_law_32 (by decide) (by decide) rfl (by decide) (lo_owes G hX hL hj h IH)
        · exact z_tableIn G 439 dL_law_32 (by decide) (by decide) rfl (by decide) (lo_at G hX hL hj h IH)
        · exact z_tableIn G 462 dL_law_32 (by decide) (by decide) rfl (by decide) (lo_ranked G hX hL hj h IH)
        · exact z_tableIn G 485 dL_law_32 (by decide) (by decide) rfl (by decide) (lo_silent G hX hL hj h IH)
        · exact z_tableIn G 508 dL_law_32 (by decide) (by decide) rfl (by decide) (lo_count G hX hL hj h IH)
        · exact z_tableIn G 531 dL_law_32 (by decide) (by decide) rfl (by decide) (lo_why G hX hL hj h IH)
        · exact z_tableIn G 554 dL_law_32 (by decide) (by decide) rfl (by decide) (lo_seatedIn G hX hL hj h IH)
        · exact z_tableIn G 587 dL_law_32 (by decide) (by decide) rfl (by decide) (lo_ifWord G hX hL hj h IH)
        · exact z_tableIn G 610 dL_law_32 (by decide) (by decide) rfl (by decide) (lo_ifRound G hX hL hj h IH)
        · exact z_tableIn G 633 dL_law_32 (by decide) (by decide) rfl (by decide) (lo_canLead G hX hL hj h IH)
        · exact z_tableIn G 646 dL_law_32 (by decide) (by decide) rfl (by decide) (lo_put G hX hL hj h IH)
        · exact z_tableIn G 699 dL_law_32 (by decide) (by decide) rfl (by decide) (lo_wipe G hX hL hj h IH)
        · exact z_tableIn G 712 dL_law_32 (by decide) (by decide) rfl (by decide) (lo_fault G hX hL hj h IH)
        · exact z_tableIn G 725 dL_law_32 (by decide) (by decide) rfl (by decide) (lo_carryOut G hX hL hj h IH)
        · exact z_tableIn G 738 dL_law_32 (by decide) (by decide) rfl (by decide) (lo_undo G hX hL hj h IH)
        · exact z_tableIn G 751 dL_law_32 (by decide) (by decide) rfl (by decide) (lo_save G hX hL hj h IH)
        · exact z_tableIn G 774 dL_law_32 (by decide) (by decide) rfl (by decide) (lo_restore G hX hL hj h IH)
    · refine z_icmp_gtT G dL_law_23 803 (by decide) ((sc_gt hL h2).mpr hj) ?_
      refine z_iconst (v := 1) G dL_law_803 rfl ?_
      exact hE _ _
set_option maxHeartbeats 4000000 in
set_option maxRecDepth 100000 in
/-- the law from its entry -/
theorem law_main {D : va_G} {y : Nat → ClassId} {X : zX} {bb L ms : Nat} {xs : Nat → Int32} (G : zG D y X cL_law RL room_1 4 wsL_law) (hI : zIX X) (hZ : zSX ms X) (hX : scX bb L xs X) (hL : L ≤ 1536) (hE : ∀ ws lv, zV D X ws 150 4112 804 lv [.int 1]) : zV D X [] 0 0 0 [(0, .ref bb)] [] := by
  refine z_new (k' := 1) (n' := 7) (ci := 5) G inlX5 tyX5 tyX5_ok (List.mem_of_getElem? (i := 0) rfl) (List.mem_of_getElem? (i := 1) rfl) (List.mem_of_getElem? (i := 2) rfl) rfl [.null, .null, .null, .null, .null, .null, .null] nw_X5 rfl rfl (Nat.le_of_ble_eq_true rfl) (Nat.le_of_ble_eq_true rfl) dL_law_0 (fun q1 => ?_)
  refine z_dup G dL_law_3 rfl ?_
  refine z_perm List.perm_append_comm ?_
  refine z_callII (k' := 139) (n' := 2049) G hI (As := []) (fun l => c_X5_init l D y q1) k_X5_init gL_law_X5_init (List.mem_of_getElem? (i := 2) rfl) (List.mem_of_getElem? (i := 7) rfl) (List.mem_of_getElem? (i := 8) rfl) rfl dL_law_4 ⟨by decide, by decide⟩ rfl rfl (Nat.le_of_ble_eq_true rfl) (Nat.le_of_ble_eq_true rfl) rfl (Nat.le_of_ble_eq_true rfl) _ rfl (fun w1 hw => ?_)
  obtain ⟨e, A, rfl, rfl⟩ := hw
  rw [List.append_nil]
  refine z_astore_nA G dL_law_7 rfl (by decide) rfl ?_
  refine z_new (k' := 140) (n' := 2063) (ci := 6) G inlX6 tyX6 tyX6_ok (List.mem_of_getElem? (i := 3) rfl) (List.mem_of_getElem? (i := 4) rfl) (List.mem_of_getElem? (i := 5) rfl) rfl [.null, .null, .null, .null, .null, .null, .null, .null, .null, .null, .int (nI 0), .int (nI 0), .int (nI 0), .int (nI 0)] nw_X6 rfl rfl (Nat.le_of_ble_eq_true rfl) (Nat.le_of_ble_eq_true rfl) dL_law_8 (fun q2 => ?_)
  refine z_dup G dL_law_11 rfl ?_
  refine z_perm List.perm_append_comm ?_
  refine z_callII (k' := 150) (n' := 4112) G hI (As := []) (fun l => c_X6_init l D y q2) k_X6_init gL_law_X6_init (List.mem_of_getElem? (i := 5) rfl) (List.mem_of_getElem? (i := 69) rfl) (List.mem_of_getElem? (i := 70) rfl) rfl dL_law_12 ⟨by decide, by decide⟩ rfl rfl (Nat.le_of_ble_eq_true rfl) (Nat.le_of_ble_eq_true rfl) rfl (Nat.le_of_ble_eq_true rfl) _ rfl (fun w1 hw => ?_)
  obtain ⟨b, rfl, rfl⟩ := hw
  refine z_perm List.perm_append_comm ?_
  refine z_astore_nA G dL_law_15 rfl (by decide) rfl ?_
  refine z_iconst (v := nI 0) G dL_law_16 rfl ?_
  refine z_istore_nA G dL_law_17 rfl (by decide) rfl ?_
  exact law_loop G hZ hX hL hE 513 0 (by omega) (by omega) _ _ _ _ _ _ _ _ _ _ _ _ LK_0
