theorem nn_and (x : Int32) : ¬ (x &&& 2147483647) < 0 := by
  obtain ⟨j, hj, e⟩ := pk_andE x (m := 2147483647) 31 (by decide)
  rw [e]
  exact nI_pos (by omega)
theorem k_L_cell : zCal yL_cell wsL_cell cL_cell 2 (some .int) 2 := ⟨⟨_, rfl⟩, by decide +kernel⟩
set_option maxHeartbeats 8000000 in
set_option maxRecDepth 100000 in
theorem c_L_cell {D : va_G} {y : Nat → ClassId} {b L : Nat} {xs : Nat → Int32} (hL : L ≤ 260) {k : Nat} (hk : k < 44) (l : Launch) : zMiX l D y b L xs yL_cell wsL_cell ({ frames := 0, cells := 0, slots := 0, locals := 0 }) [.ref b, .int (nI k)] [] (fun r w => ¬ r < 0 ∧ w = []) := by
  refine zMiX.mk (cc := cL_cell) (maxL := 2) (lv := [(0, .ref (b)), (1, .int (nI (k)))]) (by decide) rfl (Nat.le_of_ble_eq_true rfl) rfl (fun X G hX hE => ?_)
  refine z_iload_n G dL_cell_0 1 rfl ?_
  refine z_aload_n G dL_cell_1 0 rfl ?_
  refine z_slen G hX dL_cell_2 ?_
  refine z_icmp_ge G dL_cell_3 12 (by decide) (fun c => ?_) (fun c => ?_)
  · refine z_ldc G (List.mem_of_getElem? (i := 1) rfl) dL_cell_12 ?_
    refine z_iload_n G dL_cell_14 1 rfl ?_
    refine z_imul G dL_cell_15 ?_
    refine z_sipush (v := nI 8460) G dL_cell_16 rfl ?_
    refine z_iadd G dL_cell_19 ?_
    refine z_ldc G (List.mem_of_getElem? (i := 2) rfl) dL_cell_20 ?_
    refine z_iand G dL_cell_22 ?_
    exact hE _ _ _ _ dL_cell_23 rfl ⟨nn_and _, rfl⟩
  · have hk2 : k < L := Nat.lt_of_not_le (fun z => c (nI_le z (by omega)))
    refine z_aload_n G dL_cell_6 0 rfl ?_
    refine z_iload_n G dL_cell_7 1 rfl ?_
    refine z_sld G hX hk2 hL dL_cell_8 ?_
    refine z_goto (tgt := 20) G dL_cell_9 (by decide) ?_
    refine z_ldc G (List.mem_of_getElem? (i := 2) rfl) dL_cell_20 ?_
    refine z_iand G dL_cell_22 ?_
    exact hE _ _ _ _ dL_cell_23 rfl ⟨nn_and _, rfl⟩
section ZCE
variable {D : va_G} {y : Nat → ClassId} {X : zX} {ws : va_W} {lv : List (Nat × Value)}
/-- a cell of the script -/
theorem z_cell (G : zG D y X cL_law RL room_1 8 wsL_law) {b L : Nat} {xs : Nat → Int32} (hX : scX b L xs X) (hL : L ≤ 260) {i : Nat} (hi : i < 44) {v : Value} (hv : v.category = 1) (kk : ∀ r : Int32, ¬ r < 0 → zV D X ws 139 2049 92 lv (.int r :: [v])) : zV D X ws 139 2049 89 lv (.int (nI i) :: .ref b :: [v]) := by
  have e := z_callSiX hX G (k := 139) (n := 2049) (wc := []) (wr := ws) (As := [.ref b, .int (nI i)]) (rest := [v]) (fun l => c_L_cell hL hi l) k_L_cell gL_law_L_cell dL_law_89 ⟨by decide, by decide⟩ ⟨Nat.le_of_ble_eq_true rfl, Nat.le_of_ble_eq_true rfl⟩ rfl (by show v.category + 0 ≤ 8; rw [hv]; decide) _ rfl (fun r w1 h => by obtain ⟨h1, rfl⟩ := h; exact kk r h1)
  exact e
end ZCE
set_option maxHeartbeats 8000000 in
set_option maxRecDepth 100000 in
theorem lw_307 {D : va_G} {y : Nat → ClassId} {f : Nat → Int32} {X : zX} {o : Nat} {sv : Option (Nat → Int32)} {k0 : Nat} (G : zG D y X cL_law RL room_1 8 wsL_law) {bb T : Nat} (h : JV f T) (hT9 : T ≤ 9800) (hE : ∀ (ws : va_W) (lv : List (Nat × Value)), zV D X ws 139 2049 357 lv [.int (nI 1)]) (w : va_W) (hT : TW y o f (some f) k0 w) : zV D X w 139 2049 307 [(0, .ref (bb)), (1, .ref (o)), (2, .int (nI (1))), (3, .int (nI (ng f))), (4, .int (clR f)), (5, .int (orI (gs f) 9)), (6, .int (nI (9)))] [] := by
  refine z_iload_n G dL_law_307 2 rfl ?_
  refine z_if_eqF G dL_law_308 356 (by decide) (by decide) ?_
  refine z_aload_n G dL_law_311 1 rfl ?_
  refine z_qS (As := []) G (c_L_isRound h (by omega)) hT k_L_isRound gL_law_L_isRound dL_law_312 ⟨by decide, by decide⟩ ⟨rfl, rfl⟩ ⟨Nat.le_of_ble_eq_true rfl, Nat.le_of_ble_eq_true rfl⟩ rfl (Nat.le_of_ble_eq_true rfl) rfl ?_
  intro w hT
  refine z_if_eqF G dL_law_315 356 (by decide) (by decide) ?_
  refine z_aload_n G dL_law_318 1 rfl ?_
  refine z_qS (As := []) G (c_L_areGuests (JV_rd h)) hT k_L_areGuests gL_law_L_areGuests dL_law_319 ⟨by decide, by decide⟩ ⟨rfl, rfl⟩ ⟨Nat.le_of_ble_eq_true rfl, Nat.le_of_ble_eq_true rfl⟩ rfl (Nat.le_of_ble_eq_true rfl) rfl ?_
  intro w hT
  refine z_if_eqF G dL_law_322 356 (by decide) (by decide) ?_
  refine z_aload_n G dL_law_325 1 rfl ?_
  refine z_iconst (v := nI 1) G dL_law_326 rfl ?_
  obtain ⟨fs, hr⟩ := hT.at0
  refine z_wVi (As := [_]) G (fun l => lc_restore h.iv hT l) k_X5_restore gL_law_X5_restore 0 5 hr rfl rfl dL_law_327 ⟨by decide, by decide⟩ ⟨rfl, rfl⟩ ⟨Nat.le_of_ble_eq_true rfl, Nat.le_of_ble_eq_true rfl⟩ rfl (Nat.le_of_ble_eq_true rfl) rfl (fun r w hP => ?_)
  obtain ⟨rfl, hT⟩ := hP
  refine z_iload_n G dL_law_330 3 rfl ?_
  refine z_icmp_neF G dL_law_331 356 (by decide) rfl ?_
  refine z_aload_n G dL_law_334 1 rfl ?_
  refine z_bipush (v := nI 11) G dL_law_335 rfl ?_
  refine z_q (As := [_]) G (lc_count h.iv (nI (11)) (by decide) (by decide)) hT k_X5_count gL_law_X5_count rfl dL_law_337 ⟨by decide, by decide⟩ ⟨rfl, rfl⟩ ⟨Nat.le_of_ble_eq_true rfl, Nat.le_of_ble_eq_true rfl⟩ rfl (Nat.le_of_ble_eq_true rfl) rfl ?_
  intro w hT
  refine z_top (w := .int (orI (gs f) 9)) (congrArg Value.int (cow_11 f)) ?_
  refine z_iload G dL_law_340 5 rfl ?_
  refine z_icmp_neF G dL_law_342 356 (by decide) rfl ?_
  refine z_aload_n G dL_law_345 1 rfl ?_
  obtain ⟨fs, hr⟩ := hT.at0
  refine z_wVi (As := []) G (fun l => lc_undo hT l) k_X5_undo gL_law_X5_undo 0 5 hr rfl rfl dL_law_346 ⟨by decide, by decide⟩ ⟨rfl, rfl⟩ ⟨Nat.le_of_ble_eq_true rfl, Nat.le_of_ble_eq_true rfl⟩ rfl (Nat.le_of_ble_eq_true rfl) rfl (fun r w hP => ?_)
  refine z_if_ltF G dL_law_349 356 (by decide) hP ?_
  refine z_iconst (v := nI 1) G dL_law_352 rfl ?_
  refine z_goto (tgt := 357) G dL_law_353 (by decide) ?_
  exact hE _ _

set_option maxHeartbeats 8000000 in
set_option maxRecDepth 100000 in
theorem lw_223 {D : va_G} {y : Nat → ClassId} {f : Nat → Int32} {X : zX} {o : Nat} {sv : Option (Nat → Int32)} {k0 : Nat} (G : zG D y X cL_law RL room_1 8 wsL_law) {bb T : Nat} (h : JV f T) {g : Nat} (hg : g < 9) (IH : ∀ w : va_W, TW y o f sv k0 w → zV D X w 139 2049 223 [(0, .ref (bb)), (1, .ref (o)), (2, .int (nI (1))), (3, .int (nI (ng f))), (4, .int (clR f)), (5, .int (orI (gs f) 9)), (6, .int (nI (g + 1)))] []) (w : va_W) (hT : TW y o f sv k0 w) : zV D X w 139 2049 223 [(0, .ref (bb)), (1, .ref (o)), (2, .int (nI (1))), (3, .int (nI (ng f))), (4, .int (clR f)), (5, .int (orI (gs f) 9)), (6, .int (nI (g)))] [] := by
  refine z_iload G dL_law_223 6 rfl ?_
  refine z_bipush (v := nI 9) G dL_law_225 rfl ?_
  refine z_icmp_geF G dL_law_227 307 (by decide) (nI_ge hg (by decide)) ?_
  refine z_iload_n G dL_law_230 2 rfl ?_
  refine z_if_eqF G dL_law_231 307 (by decide) (by decide) ?_
  refine z_iload G dL_law_234 5 rfl ?_
  refine z_iload G dL_law_236 6 rfl ?_
  refine z_ishr G dL_law_238 ?_
  refine z_iconst (v := nI 1) G dL_law_239 rfl ?_
  refine z_iand G dL_law_240 ?_
  refine z_iconst (v := nI 1) G dL_law_241 rfl ?_
  cases sg : gs f g
  · refine z_icmp_neT G dL_law_242 255 (by decide) (by rw [bit_f hg sg]; decide) ?_
    refine z_bipush (v := (-6)) G dL_law_255 rfl ?_
    refine z_istoreA G dL_law_257 (by decide) rfl ?_
    refine z_iload G dL_law_259 7 rfl ?_
    refine z_if_ltT G dL_law_261 275 (by decide) (by decide) ?_
    refine z_iconst (v := nI 0) G dL_law_275 rfl ?_
    refine z_iload G dL_law_276 4 rfl ?_
    refine z_iload G dL_law_278 6 rfl ?_
    refine z_ishr G dL_law_280 ?_
    refine z_iconst (v := nI 1) G dL_law_281 rfl ?_
    refine z_iand G dL_law_282 ?_
    refine z_iconst (v := nI 1) G dL_law_283 rfl ?_
    refine z_icmp_neT G dL_law_284 291 (by decide) (by rw [cl_bf h.iv hg (ld_f sg)]; decide) ?_
    refine z_iconst (v := nI 0) G dL_law_291 rfl ?_
    refine z_icmp_neF G dL_law_292 299 (by decide) rfl ?_
    refine z_iconst (v := nI 1) G dL_law_295 rfl ?_
    refine z_goto (tgt := 300) G dL_law_296 (by decide) ?_
    refine z_istore_n G dL_law_300 rfl (by decide) 2 rfl ?_
    refine z_iinc G dL_law_301 6 rfl (nI (g + 1)) (nI_inc _) (by decide) rfl ?_
    refine z_goto (tgt := 223) G dL_law_304 (by decide) ?_
    refine z_loc G [(0, .ref (bb)), (1, .ref (o)), (2, .int (nI (1))), (3, .int (nI (ng f))), (4, .int (clR f)), (5, .int (orI (gs f) 9)), (6, .int (nI (g + 1)))] [0, 1, 2, 3, 4, 5, 6] rfl ?_
    exact IH w hT
  · refine z_icmp_neF G dL_law_242 255 (by decide) (bit_t hg sg) ?_
    refine z_aload_n G dL_law_245 1 rfl ?_
    refine z_iload G dL_law_246 6 rfl ?_
    refine z_iconst (v := nI 0) G dL_law_248 rfl ?_
    refine z_q (As := [_, _]) G (lc_seatedIn h.iv (nI (g)) (nI (0))) hT k_X5_seatedIn gL_law_X5_seatedIn rfl dL_law_249 ⟨by decide, by decide⟩ ⟨rfl, rfl⟩ ⟨Nat.le_of_ble_eq_true rfl, Nat.le_of_ble_eq_true rfl⟩ rfl (Nat.le_of_ble_eq_true rfl) rfl ?_
    intro w hT
    refine z_goto (tgt := 257) G dL_law_252 (by decide) ?_
    refine z_istoreA G dL_law_257 (by decide) rfl ?_
    refine z_iload G dL_law_259 7 rfl ?_
    cases el : ldN f 101 g
    · refine z_if_lt G dL_law_261 275 (by decide) (fun c261 => ?_) (fun c261 => ?_)
      · refine z_iconst (v := nI 0) G dL_law_275 rfl ?_
        refine z_iload G dL_law_276 4 rfl ?_
        refine z_iload G dL_law_278 6 rfl ?_
        refine z_ishr G dL_law_280 ?_
        refine z_iconst (v := nI 1) G dL_law_281 rfl ?_
        refine z_iand G dL_law_282 ?_
        refine z_iconst (v := nI 1) G dL_law_283 rfl ?_
        refine z_icmp_neT G dL_law_284 291 (by decide) (by rw [cl_bf h.iv hg el]; decide) ?_
        refine z_iconst (v := nI 0) G dL_law_291 rfl ?_
        refine z_icmp_neF G dL_law_292 299 (by decide) rfl ?_
        refine z_iconst (v := nI 1) G dL_law_295 rfl ?_
        refine z_goto (tgt := 300) G dL_law_296 (by decide) ?_
        refine z_istore_n G dL_law_300 rfl (by decide) 2 rfl ?_
        refine z_iinc G dL_law_301 6 rfl (nI (g + 1)) (nI_inc _) (by decide) rfl ?_
        refine z_goto (tgt := 223) G dL_law_304 (by decide) ?_
        refine z_loc G [(0, .ref (bb)), (1, .ref (o)), (2, .int (nI (1))), (3, .int (nI (ng f))), (4, .int (clR f)), (5, .int (orI (gs f) 9)), (6, .int (nI (g + 1)))] [0, 1, 2, 3, 4, 5, 6] rfl ?_
        exact IH w hT
      · refine z_iload G dL_law_264 7 rfl ?_
        refine z_bipush (v := nI 100) G dL_law_266 rfl ?_
        refine z_icmp_gtT G dL_law_268 275 (by decide) (un_f hg sg el c261) ?_
        refine z_iconst (v := nI 0) G dL_law_275 rfl ?_
        refine z_iload G dL_law_276 4 rfl ?_
        refine z_iload G dL_law_278 6 rfl ?_
        refine z_ishr G dL_law_280 ?_
        refine z_iconst (v := nI 1) G dL_law_281 rfl ?_
        refine z_iand G dL_law_282 ?_
        refine z_iconst (v := nI 1) G dL_law_283 rfl ?_
        refine z_icmp_neT G dL_law_284 291 (by decide) (by rw [cl_bf h.iv hg el]; decide) ?_
        refine z_iconst (v := nI 0) G dL_law_291 rfl ?_
        refine z_icmp_neF G dL_law_292 299 (by decide) rfl ?_
        refine z_iconst (v := nI 1) G dL_law_295 rfl ?_
        refine z_goto (tgt := 300) G dL_law_296 (by decide) ?_
        refine z_istore_n G dL_law_300 rfl (by decide) 2 rfl ?_
        refine z_iinc G dL_law_301 6 rfl (nI (g + 1)) (nI_inc _) (by decide) rfl ?_
        refine z_goto (tgt := 223) G dL_law_304 (by decide) ?_
        refine z_loc G [(0, .ref (bb)), (1, .ref (o)), (2, .int (nI (1))), (3, .int (nI (ng f))), (4, .int (clR f)), (5, .int (orI (gs f) 9)), (6, .int (nI (g + 1)))] [0, 1, 2, 3, 4, 5, 6] rfl ?_
        exact IH w hT
    · refine z_if_ltF G dL_law_261 275 (by decide) (un_t hg el).1 ?_
      refine z_iload G dL_law_264 7 rfl ?_
      refine z_bipush (v := nI 100) G dL_law_266 rfl ?_
      refine z_icmp_gtF G dL_law_268 275 (by decide) (un_t hg el).2 ?_
      refine z_iconst (v := nI 1) G dL_law_271 rfl ?_
      refine z_goto (tgt := 276) G dL_law_272 (by decide) ?_
      refine z_iload G dL_law_276 4 rfl ?_
      refine z_iload G dL_law_278 6 rfl ?_
      refine z_ishr G dL_law_280 ?_
      refine z_iconst (v := nI 1) G dL_law_281 rfl ?_
      refine z_iand G dL_law_282 ?_
      refine z_iconst (v := nI 1) G dL_law_283 rfl ?_
      refine z_icmp_neF G dL_law_284 291 (by decide) (cl_bt h.iv hg el) ?_
      refine z_iconst (v := nI 1) G dL_law_287 rfl ?_
      refine z_goto (tgt := 292) G dL_law_288 (by decide) ?_
      refine z_icmp_neF G dL_law_292 299 (by decide) rfl ?_
      refine z_iconst (v := nI 1) G dL_law_295 rfl ?_
      refine z_goto (tgt := 300) G dL_law_296 (by decide) ?_
      refine z_istore_n G dL_law_300 rfl (by decide) 2 rfl ?_
      refine z_iinc G dL_law_301 6 rfl (nI (g + 1)) (nI_inc _) (by decide) rfl ?_
      refine z_goto (tgt := 223) G dL_law_304 (by decide) ?_
      refine z_loc G [(0, .ref (bb)), (1, .ref (o)), (2, .int (nI (1))), (3, .int (nI (ng f))), (4, .int (clR f)), (5, .int (orI (gs f) 9)), (6, .int (nI (g + 1)))] [0, 1, 2, 3, 4, 5, 6] rfl ?_
      exact IH w hT

set_option maxHeartbeats 8000000 in
set_option maxRecDepth 100000 in
theorem lw_lo {D : va_G} {y : Nat → ClassId} {f : Nat → Int32} {X : zX} {o k0 : Nat} (G : zG D y X cL_law RL room_1 8 wsL_law) {bb T : Nat} (h : JV f T) (hT9 : T ≤ 9800) (hE : ∀ (ws : va_W) (lv : List (Nat × Value)), zV D X ws 139 2049 357 lv [.int (nI 1)]) : ∀ n g : Nat, n + g = 9 → ∀ w : va_W, TW y o f (some f) k0 w → zV D X w 139 2049 223 [(0, .ref (bb)), (1, .ref (o)), (2, .int (nI (1))), (3, .int (nI (ng f))), (4, .int (clR f)), (5, .int (orI (gs f) 9)), (6, .int (nI (g)))] [] := by
  intro n
  induction n with
  | zero =>
    intro g hg w hT
    obtain rfl : g = 9 := by omega
    refine z_iload G dL_law_223 6 rfl ?_
    refine z_bipush (v := nI 9) G dL_law_225 rfl ?_
    refine z_icmp_geT G dL_law_227 307 (by decide) (nI_le (Nat.le_refl _) (by decide)) ?_
    exact lw_307 (sv := none) G h hT9 hE w hT
  | succ n ih =>
    intro g hg w hT
    exact lw_223 G h (by omega) (fun w hT => ih (g + 1) (by omega) w hT) w hT

set_option maxHeartbeats 8000000 in
set_option maxRecDepth 100000 in
theorem lw_124 {D : va_G} {y : Nat → ClassId} {f : Nat → Int32} {X : zX} {o : Nat} {sv : Option (Nat → Int32)} {k0 : Nat} (G : zG D y X cL_law RL room_1 8 wsL_law) {bb T : Nat} (h : JV f T) (hT9 : T ≤ 9800) (hE : ∀ (ws : va_W) (lv : List (Nat × Value)), zV D X ws 139 2049 357 lv [.int (nI 1)]) (w : va_W) (hT : TW y o f sv k0 w) : zV D X w 139 2049 124 [(0, .ref (bb)), (1, .ref (o)), (2, .int (nI (1))), (3, .int (nI (44)))] [] := by
  refine z_aload_n G dL_law_124 1 rfl ?_
  refine z_iconst (v := nI 1) G dL_law_125 rfl ?_
  obtain ⟨fs, hr⟩ := hT.at0
  refine z_wVi (As := [_]) G (fun l => lc_save h.iv hT l) k_X5_save gL_law_X5_save 0 5 hr rfl rfl dL_law_126 ⟨by decide, by decide⟩ ⟨rfl, rfl⟩ ⟨Nat.le_of_ble_eq_true rfl, Nat.le_of_ble_eq_true rfl⟩ rfl (Nat.le_of_ble_eq_true rfl) rfl (fun r w hP => ?_)
  obtain ⟨rfl, hT⟩ := hP
  refine z_istore_n G dL_law_129 rfl (by decide) 3 rfl ?_
  refine z_aload_n G dL_law_130 1 rfl ?_
  refine z_q (As := []) G (lc_canLead h.iv) hT k_X5_canLead gL_law_X5_canLead rfl dL_law_131 ⟨by decide, by decide⟩ ⟨rfl, rfl⟩ ⟨Nat.le_of_ble_eq_true rfl, Nat.le_of_ble_eq_true rfl⟩ rfl (Nat.le_of_ble_eq_true rfl) rfl ?_
  intro w hT
  refine z_istoreA G dL_law_134 (by decide) rfl ?_
  refine z_aload_n G dL_law_136 1 rfl ?_
  refine z_bipush (v := nI 11) G dL_law_137 rfl ?_
  refine z_q (As := [_]) G (lc_count h.iv (nI (11)) (by decide) (by decide)) hT k_X5_count gL_law_X5_count rfl dL_law_139 ⟨by decide, by decide⟩ ⟨rfl, rfl⟩ ⟨Nat.le_of_ble_eq_true rfl, Nat.le_of_ble_eq_true rfl⟩ rfl (Nat.le_of_ble_eq_true rfl) rfl ?_
  intro w hT
  refine z_top (w := .int (orI (gs f) 9)) (congrArg Value.int (cow_11 f)) ?_
  refine z_istoreA G dL_law_142 (by decide) rfl ?_
  refine z_iload_n G dL_law_144 2 rfl ?_
  refine z_if_eqF G dL_law_145 218 (by decide) (by decide) ?_
  refine z_aload_n G dL_law_148 1 rfl ?_
  refine z_qS (As := []) G (c_L_areGuests h) hT k_L_areGuests gL_law_L_areGuests dL_law_149 ⟨by decide, by decide⟩ ⟨rfl, rfl⟩ ⟨Nat.le_of_ble_eq_true rfl, Nat.le_of_ble_eq_true rfl⟩ rfl (Nat.le_of_ble_eq_true rfl) rfl ?_
  intro w hT
  refine z_if_eqF G dL_law_152 218 (by decide) (by decide) ?_
  refine z_iload_n G dL_law_155 3 rfl ?_
  refine z_aload_n G dL_law_156 1 rfl ?_
  refine z_iconst (v := nI 1) G dL_law_157 rfl ?_
  refine z_q (As := [_]) G (lc_count h.iv (nI (1)) (by decide) (by decide)) hT k_X5_count gL_law_X5_count rfl dL_law_158 ⟨by decide, by decide⟩ ⟨rfl, rfl⟩ ⟨Nat.le_of_ble_eq_true rfl, Nat.le_of_ble_eq_true rfl⟩ rfl (Nat.le_of_ble_eq_true rfl) rfl ?_
  intro w hT
  refine z_top (w := .int (nI (ng f))) (congrArg Value.int (cow_1 f)) ?_
  refine z_icmp_neF G dL_law_161 218 (by decide) rfl ?_
  refine z_iload G dL_law_164 4 rfl ?_
  refine z_iload G dL_law_166 5 rfl ?_
  refine z_iconst (v := (-1)) G dL_law_168 rfl ?_
  refine z_ixor G dL_law_169 ?_
  refine z_iand G dL_law_170 ?_
  refine z_if_neF G dL_law_171 218 (by decide) (cl_nt h.iv) ?_
  by_cases n : ng f = 0
  · refine z_iload_n G dL_law_174 3 rfl ?_
    refine z_if_neF G dL_law_175 182 (by decide) (by rw [n]; rfl) ?_
    refine z_iconst (v := nI 1) G dL_law_178 rfl ?_
    refine z_goto (tgt := 183) G dL_law_179 (by decide) ?_
    refine z_iload G dL_law_183 4 rfl ?_
    refine z_if_neF G dL_law_185 192 (by decide) (cl_0 n) ?_
    refine z_iconst (v := nI 1) G dL_law_188 rfl ?_
    refine z_goto (tgt := 193) G dL_law_189 (by decide) ?_
    refine z_icmp_neF G dL_law_193 218 (by decide) rfl ?_
    refine z_iload_n G dL_law_196 3 rfl ?_
    refine z_if_eqT G dL_law_197 214 (by decide) (by rw [n]; rfl) ?_
    refine z_iconst (v := nI 1) G dL_law_214 rfl ?_
    refine z_goto (tgt := 219) G dL_law_215 (by decide) ?_
    refine z_istore_n G dL_law_219 rfl (by decide) 2 rfl ?_
    refine z_iconst (v := nI 0) G dL_law_220 rfl ?_
    refine z_istoreA G dL_law_221 (by decide) rfl ?_
    exact lw_lo G h hT9 hE 9 0 rfl w hT
  · refine z_iload_n G dL_law_174 3 rfl ?_
    refine z_if_neT G dL_law_175 182 (by decide) (fun z => n ((nI_eq (b := 0) (by have := ng_le f; omega) (by decide)).mp z)) ?_
    refine z_iconst (v := nI 0) G dL_law_182 rfl ?_
    refine z_iload G dL_law_183 4 rfl ?_
    refine z_if_neT G dL_law_185 192 (by decide) (cl_n0 h.iv n) ?_
    refine z_iconst (v := nI 0) G dL_law_192 rfl ?_
    refine z_icmp_neF G dL_law_193 218 (by decide) rfl ?_
    refine z_iload_n G dL_law_196 3 rfl ?_
    refine z_if_eqF G dL_law_197 214 (by decide) (fun z => n ((nI_eq (b := 0) (by have := ng_le f; omega) (by decide)).mp z)) ?_
    refine z_iload G dL_law_200 4 rfl ?_
    refine z_aload_n G dL_law_202 1 rfl ?_
    refine z_iconst (v := nI 0) G dL_law_203 rfl ?_
    refine z_q (As := [_]) G (lc_ranked h.iv (nI (0))) hT k_X5_ranked gL_law_X5_ranked rfl dL_law_204 ⟨by decide, by decide⟩ ⟨rfl, rfl⟩ ⟨Nat.le_of_ble_eq_true rfl, Nat.le_of_ble_eq_true rfl⟩ rfl (Nat.le_of_ble_eq_true rfl) rfl ?_
    intro w hT
    refine z_ishr G dL_law_207 ?_
    refine z_iconst (v := nI 1) G dL_law_208 rfl ?_
    refine z_iand G dL_law_209 ?_
    refine z_iconst (v := nI 1) G dL_law_210 rfl ?_
    refine z_icmp_neF G dL_law_211 218 (by decide) (cl_r0 h.iv n) ?_
    refine z_iconst (v := nI 1) G dL_law_214 rfl ?_
    refine z_goto (tgt := 219) G dL_law_215 (by decide) ?_
    refine z_istore_n G dL_law_219 rfl (by decide) 2 rfl ?_
    refine z_iconst (v := nI 0) G dL_law_220 rfl ?_
    refine z_istoreA G dL_law_221 (by decide) rfl ?_
    exact lw_lo G h hT9 hE 9 0 rfl w hT

theorem z_nil0 {D : va_G} {X : zX} {w : va_W} {k n pc : Nat} {lv : List (Nat × Value)} {st : List Value} (kk : zV D X (w ++ []) k n pc lv st) : zV D X w k n pc lv st := by rwa [List.append_nil] at kk

set_option maxHeartbeats 8000000 in
set_option maxRecDepth 100000 in
theorem lw_76 {D : va_G} {y : Nat → ClassId} {f : Nat → Int32} {X : zX} {o : Nat} {sv : Option (Nat → Int32)} {k0 : Nat} (G : zG D y X cL_law RL room_1 8 wsL_law) {bb L : Nat} {xs : Nat → Int32} {ms : Nat} (hZ : zSX ms X) (hX : scX bb L xs X) (hL : L ≤ 260) {j : Nat} (hj : j < 44) (h : JV f (99 * j)) (IH : ∀ (f : Nat → Int32), JV f (99 * (j + 1)) → ∀ w : va_W, TW y o f sv k0 w → zV D X w 139 2049 76 [(0, .ref (bb)), (1, .ref (o)), (2, .int (nI (1))), (3, .int (nI (j + 1)))] []) (w : va_W) (hT : TW y o f sv k0 w) : zV D X w 139 2049 76 [(0, .ref (bb)), (1, .ref (o)), (2, .int (nI (1))), (3, .int (nI (j)))] [] := by
  refine z_iload_n G dL_law_76 3 rfl ?_
  refine z_bipush (v := nI 44) G dL_law_77 rfl ?_
  refine z_icmp_geF G dL_law_79 124 (by decide) (nI_ge hj (by decide)) ?_
  refine z_iload_n G dL_law_82 2 rfl ?_
  refine z_if_eqF G dL_law_83 124 (by decide) (by decide) ?_
  refine z_aload_n G dL_law_86 1 rfl ?_
  refine z_aload_n G dL_law_87 0 rfl ?_
  refine z_iload_n G dL_law_88 3 rfl ?_
  refine z_cell G hX hL hj rfl (fun r hr => ?_)
  obtain ⟨c, hc, rfl⟩ := nI_of hr
  refine z_nil0 ?_
  refine z_callSiS hZ G (wc := w) (wr := []) (As := [_, _]) (fun l => c_L_acts h (by omega) hc hT l) k_L_acts gL_law_L_acts dL_law_92 ⟨by decide, by decide⟩ ⟨Nat.le_of_ble_eq_true rfl, Nat.le_of_ble_eq_true rfl⟩ rfl (Nat.le_of_ble_eq_true rfl) _ rfl (fun r w hP => z_nil ?_)
  obtain ⟨rfl, f, h, hT⟩ := hP
  refine z_if_eqF G dL_law_95 116 (by decide) (by decide) ?_
  refine z_iload_n G dL_law_98 3 rfl ?_
  refine z_bipush (v := nI 11) G dL_law_99 rfl ?_
  refine z_iremN G (j % 11) dL_law_101 (by omega) (by decide) (by decide) rfl ?_
  refine z_if_gt G dL_law_102 112 (by decide) (fun c102 => ?_) (fun c102 => ?_)
  · refine z_iconst (v := nI 1) G dL_law_112 rfl ?_
    refine z_goto (tgt := 117) G dL_law_113 (by decide) ?_
    refine z_istore_n G dL_law_117 rfl (by decide) 2 rfl ?_
    refine z_iinc G dL_law_118 3 rfl (nI (j + 1)) (nI_inc _) (by decide) rfl ?_
    refine z_goto (tgt := 76) G dL_law_121 (by decide) ?_
    exact IH f (h.mono (by omega)) w hT
  · refine z_aload_n G dL_law_105 1 rfl ?_
    refine z_qS (As := []) G (c_L_areGuests h) hT k_L_areGuests gL_law_L_areGuests dL_law_106 ⟨by decide, by decide⟩ ⟨rfl, rfl⟩ ⟨Nat.le_of_ble_eq_true rfl, Nat.le_of_ble_eq_true rfl⟩ rfl (Nat.le_of_ble_eq_true rfl) rfl ?_
    intro w hT
    refine z_if_eqF G dL_law_109 116 (by decide) (by decide) ?_
    refine z_iconst (v := nI 1) G dL_law_112 rfl ?_
    refine z_goto (tgt := 117) G dL_law_113 (by decide) ?_
    refine z_istore_n G dL_law_117 rfl (by decide) 2 rfl ?_
    refine z_iinc G dL_law_118 3 rfl (nI (j + 1)) (nI_inc _) (by decide) rfl ?_
    refine z_goto (tgt := 76) G dL_law_121 (by decide) ?_
    exact IH f (h.mono (by omega)) w hT

set_option maxHeartbeats 8000000 in
set_option maxRecDepth 100000 in
theorem lw_acts {D : va_G} {y : Nat → ClassId} {X : zX} {o : Nat} {sv : Option (Nat → Int32)} {k0 : Nat} (G : zG D y X cL_law RL room_1 8 wsL_law) {bb L : Nat} {xs : Nat → Int32} {ms : Nat} (hZ : zSX ms X) (hX : scX bb L xs X) (hL : L ≤ 260) (hE : ∀ (ws : va_W) (lv : List (Nat × Value)), zV D X ws 139 2049 357 lv [.int (nI 1)]) : ∀ n j : Nat, n + j = 44 → ∀ (f : Nat → Int32), JV f (99 * j) → ∀ w : va_W, TW y o f sv k0 w → zV D X w 139 2049 76 [(0, .ref (bb)), (1, .ref (o)), (2, .int (nI (1))), (3, .int (nI (j)))] [] := by
  intro n
  induction n with
  | zero =>
    intro j hj f h w hT
    obtain rfl : j = 44 := by omega
    refine z_iload_n G dL_law_76 3 rfl ?_
    refine z_bipush (v := nI 44) G dL_law_77 rfl ?_
    refine z_icmp_geT G dL_law_79 124 (by decide) (nI_le (Nat.le_refl _) (by decide)) ?_
    exact lw_124 G h (by decide) hE w hT
  | succ n ih =>
    intro j hj f h w hT
    exact lw_76 G hZ hX hL (by omega) h (fun f h w hT => ih (j + 1) (by omega) f h w hT) w hT

def f1F : Nat → Int32 := nwF iF 0 (nI 5)
def f2F : Nat → Int32 := nwF f1F 1 (nI 7)
theorem fre_0 : fre iF 9 0 = 0 := by
  rw [fre, gs_iF]
  rfl
theorem ng_n9 {f : Nat → Int32} {g : Nat} (hg : g < 9) (sg : gs f g = false) : ¬ ng f = 9 := fun z => by
  have := cnt_lt (P := gs f) sg 9 hg
  have e : cnt (gs f) 9 = ng f := rfl
  omega
theorem gs_1 : gs f1F 1 = false := (gs_congr (f := iF) (f' := f1F) (nw_ne (by decide) (by decide) (by decide))).trans (gs_iF 1)
theorem fre_1 : fre f1F 9 0 = 1 := by
  rw [fre, if_pos (show gs f1F 0 = true from nw_g), fre, gs_1]
  rfl
theorem cog_1 : coR iF (nI 5) = (nI 0, f1F) := by
  rw [co_n (by decide) (by decide) (ng_n9 (g := 0) (by decide) (gs_iF 0)), fre_0]
  rfl
theorem cog_2 : coR f1F (nI 7) = (nI 1, f2F) := by
  rw [co_n (by decide) (by decide) (ng_n9 (g := 1) (by decide) gs_1), fre_1]
  rfl
theorem JV_f1 : JV f1F 0 := JV_nw JV_iF (by decide) (gs_iF 0) (by decide) (by decide)
theorem JV_f2 : JV f2F 0 := JV_nw JV_f1 (by decide) gs_1 (by decide) (by decide)

set_option maxHeartbeats 8000000 in
set_option maxRecDepth 100000 in
theorem lw_27 {D : va_G} {y : Nat → ClassId} {X : zX} {o : Nat} {sv : Option (Nat → Int32)} {k0 : Nat} (G : zG D y X cL_law RL room_1 8 wsL_law) {bb L : Nat} {xs : Nat → Int32} {ms : Nat} (hZ : zSX ms X) (hX : scX bb L xs X) (hL : L ≤ 260) (hE : ∀ (ws : va_W) (lv : List (Nat × Value)), zV D X ws 139 2049 357 lv [.int (nI 1)]) (w : va_W) (hT : TW y o iF sv k0 w) : zV D X w 139 2049 27 [(0, .ref (bb)), (1, .ref (o))] [] := by
  have m1 : LC D y yX5_round wsX5_round ({ frames := 6, cells := 0, slots := 0, locals := 145 }) [] iF (-5) (iF) := by
    have z := lc_round (D := D) (y := y) IV_iF
    rw [ro_0 ng_iF] at z
    exact z
  have m2 : LC D y yX5_seatAnew wsX5_seatAnew ({ frames := 6, cells := 0, slots := 0, locals := 145 }) [] iF (nI 0) (iF) := by
    have z := lc_seatAnew (D := D) (y := y) IV_iF
    rw [SR_cnt SR_iF, SR_stF SR_iF 9 (Nat.le_refl _)] at z
    exact z
  have m3 : LC D y yX5_guest wsX5_guest ({ frames := 6, cells := 0, slots := 0, locals := 145 }) [.int (nI 5)] iF (nI 0) (f1F) := by
    have z := lc_guest (D := D) (y := y) IV_iF (nI 5)
    rw [cog_1] at z
    exact z
  have m4 : LC D y yX5_guest wsX5_guest ({ frames := 6, cells := 0, slots := 0, locals := 145 }) [.int (nI 7)] f1F (nI 1) (f2F) := by
    have z := lc_guest (D := D) (y := y) JV_f1.iv (nI 7)
    rw [cog_2] at z
    exact z
  refine z_aload_n G dL_law_27 1 rfl ?_
  refine z_q (As := []) G (m1) hT k_X5_round gL_law_X5_round rfl dL_law_28 ⟨by decide, by decide⟩ ⟨rfl, rfl⟩ ⟨Nat.le_of_ble_eq_true rfl, Nat.le_of_ble_eq_true rfl⟩ rfl (Nat.le_of_ble_eq_true rfl) rfl ?_
  intro w hT
  refine z_bipush (v := (-5)) G dL_law_31 rfl ?_
  refine z_icmp_neF G dL_law_33 72 (by decide) rfl ?_
  refine z_aload_n G dL_law_36 1 rfl ?_
  refine z_q (As := []) G (lc_canLead IV_iF) hT k_X5_canLead gL_law_X5_canLead rfl dL_law_37 ⟨by decide, by decide⟩ ⟨rfl, rfl⟩ ⟨Nat.le_of_ble_eq_true rfl, Nat.le_of_ble_eq_true rfl⟩ rfl (Nat.le_of_ble_eq_true rfl) rfl ?_
  intro w hT
  refine z_if_neF G dL_law_40 72 (by decide) (cl_0 ng_iF) ?_
  refine z_aload_n G dL_law_43 1 rfl ?_
  refine z_q (As := []) G (m2) hT k_X5_seatAnew gL_law_X5_seatAnew rfl dL_law_44 ⟨by decide, by decide⟩ ⟨rfl, rfl⟩ ⟨Nat.le_of_ble_eq_true rfl, Nat.le_of_ble_eq_true rfl⟩ rfl (Nat.le_of_ble_eq_true rfl) rfl ?_
  intro w hT
  refine z_if_neF G dL_law_47 72 (by decide) rfl ?_
  refine z_aload_n G dL_law_50 1 rfl ?_
  refine z_iconst (v := nI 5) G dL_law_51 rfl ?_
  refine z_q (As := [_]) G (m3) hT k_X5_guest gL_law_X5_guest rfl dL_law_52 ⟨by decide, by decide⟩ ⟨rfl, rfl⟩ ⟨Nat.le_of_ble_eq_true rfl, Nat.le_of_ble_eq_true rfl⟩ rfl (Nat.le_of_ble_eq_true rfl) rfl ?_
  intro w hT
  refine z_if_neF G dL_law_55 72 (by decide) rfl ?_
  refine z_aload_n G dL_law_58 1 rfl ?_
  refine z_bipush (v := nI 7) G dL_law_59 rfl ?_
  refine z_q (As := [_]) G (m4) hT k_X5_guest gL_law_X5_guest rfl dL_law_61 ⟨by decide, by decide⟩ ⟨rfl, rfl⟩ ⟨Nat.le_of_ble_eq_true rfl, Nat.le_of_ble_eq_true rfl⟩ rfl (Nat.le_of_ble_eq_true rfl) rfl ?_
  intro w hT
  refine z_iconst (v := nI 1) G dL_law_64 rfl ?_
  refine z_icmp_neF G dL_law_65 72 (by decide) rfl ?_
  refine z_iconst (v := nI 1) G dL_law_68 rfl ?_
  refine z_goto (tgt := 73) G dL_law_69 (by decide) ?_
  refine z_istore_nA G dL_law_73 rfl (by decide) rfl ?_
  refine z_iconst (v := nI 0) G dL_law_74 rfl ?_
  refine z_istore_nA G dL_law_75 rfl (by decide) rfl ?_
  exact lw_acts G hZ hX hL hE 44 0 rfl f2F JV_f2 w hT

set_option maxHeartbeats 8000000 in
set_option maxRecDepth 100000 in
/-- the law from its entry -/
theorem law_main {D : va_G} {y : Nat → ClassId} {X : zX} (G : zG D y X cL_law RL room_1 8 wsL_law) (hI : zIX X) {bb L : Nat} {xs : Nat → Int32} {ms : Nat} (hZ : zSX ms X) (hX : scX bb L xs X) (hL : L ≤ 260) (hE : ∀ (ws : va_W) (lv : List (Nat × Value)), zV D X ws 139 2049 357 lv [.int (nI 1)]) : zV D X [] 0 0 0 [(0, .ref bb)] [] := by
  refine z_new (k' := 1) (n' := 7) (ci := 5) G inlX5 tyX5 tyX5_ok (List.mem_of_getElem? (i := 0) rfl) (List.mem_of_getElem? (i := 1) rfl) (List.mem_of_getElem? (i := 2) rfl) rfl [.null, .null, .null, .null, .null, .null, .null] nw_X5 rfl rfl (Nat.le_of_ble_eq_true rfl) (Nat.le_of_ble_eq_true rfl) dL_law_0 (fun q1 => ?_)
  refine z_dup G dL_law_3 rfl ?_
  refine z_perm List.perm_append_comm ?_
  refine z_callII (k' := 139) (n' := 2049) G hI (As := []) (fun l => c_X5_init l D y q1) k_X5_init gL_law_X5_init (List.mem_of_getElem? (i := 2) rfl) (List.mem_of_getElem? (i := 3) rfl) (List.mem_of_getElem? (i := 4) rfl) rfl dL_law_4 ⟨by decide, by decide⟩ rfl rfl (Nat.le_of_ble_eq_true rfl) (Nat.le_of_ble_eq_true rfl) rfl (Nat.le_of_ble_eq_true rfl) _ rfl (fun w1 hw => ?_)
  obtain ⟨e, A, rfl, rfl⟩ := hw
  rw [List.append_nil]
  refine z_astore_nA G dL_law_7 rfl (by decide) rfl ?_
  refine z_aload_n G dL_law_8 1 rfl ?_
  refine z_dVi (As := []) G _ _ (fun l => c_X5_undo_0 l D y e A (fun _ => iF) (fun _ => zF) false false 0 0 (fun _ => iF) (fun _ => zF) zF 0) k_X5_undo gL_law_X5_undo 0 5 rfl rfl rfl dL_law_9 ⟨by decide, by decide⟩ ⟨rfl, rfl⟩ ⟨Nat.le_of_ble_eq_true rfl, Nat.le_of_ble_eq_true rfl⟩ rfl (Nat.le_of_ble_eq_true rfl) rfl ?_
  refine z_bipush (v := (-5)) G dL_law_12 rfl ?_
  refine z_icmp_neF G dL_law_14 72 (by decide) rfl ?_
  refine z_aload_n G dL_law_17 1 rfl ?_
  refine z_iconst (v := nI 0) G dL_law_18 rfl ?_
  refine z_dVi (As := [_]) G _ _ (fun l => c_X5_restore_0f l D y e A (fun _ => iF) (fun _ => zF) false false 0 0 (fun _ => iF) (fun _ => zF) zF 0) k_X5_restore gL_law_X5_restore 0 5 rfl rfl rfl dL_law_19 ⟨by decide, by decide⟩ ⟨rfl, rfl⟩ ⟨Nat.le_of_ble_eq_true rfl, Nat.le_of_ble_eq_true rfl⟩ rfl (Nat.le_of_ble_eq_true rfl) rfl ?_
  refine z_bipush (v := (-5)) G dL_law_22 rfl ?_
  refine z_icmp_neF G dL_law_24 72 (by decide) rfl ?_
  exact lw_27 (sv := none) (k0 := 0) G hZ hX hL hE _ ⟨e, A, _, _, false, false, 0, 0, _, _, zF, rfl, rfl, rfl, by decide, Nat.le_refl _, by decide, fun s z => (by cases z)⟩
