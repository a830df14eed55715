/-! the end of one of the law's own methods -/
def HE (D : va_G) (X : zX) (cc : ByteArray) (rm : Room) (Post : Int32 → va_W → Prop) : Prop := ∀ (ws1 : va_W) (pc : Nat) (lv1 : List (Nat × Value)) (r : Int32), decode cc pc = .ok (.ireturn, 1) → narrow .boolean (.int r) = .int r → Post r ws1 → zV D X ws1 rm.cells rm.slots pc lv1 [.int r]
set_option maxHeartbeats 8000000 in
set_option maxRecDepth 100000 in
theorem ag_382 {D : va_G} {y : Nat → ClassId} {f : Nat → Int32} {X : zX} {o : Nat} {sv : Option (Nat → Int32)} {k0 : Nat} (G : zG D y X cL_areGuests RL ({ frames := 6, cells := 0, slots := 0, locals := 140 }) 11 wsL_areGuests) {T : Nat} (h : JV f T) {j : Nat} (lj : j < 9) (sg : gs f j = true) (IH : (∀ w : va_W, TW y o f sv k0 w → zV D X w 0 0 70 [(0, .ref (o)), (1, .int (orI (gs f) 9)), (2, .int (nI (cnt (gs f) (j + 1)))), (3, .int (sumI (owd f) (j + 1))), (4, .int (orI (psP f) (j + 1))), (5, .int (nI (1))), (6, .int (nI (j + 1)))] [])) (w : va_W) (hT : TW y o f sv k0 w) : zV D X w 0 0 382 [(0, .ref (o)), (1, .int (orI (gs f) 9)), (2, .int (nI (cnt (gs f) j + 1))), (3, .int (sumI (owd f) (j + 1))), (4, .int (orI (psP f) (j + 1))), (5, .int (nI (1))), (6, .int (nI (j))), (7, .int (owd f j)), (8, .int (owt f j)), (9, .int (nI (rk f j))), (10, .int (rsn f j))] [] := by
  refine z_iload G dL_areGuests_382 5 rfl ?_
  refine z_if_eqF G dL_areGuests_384 447 (by decide) (by decide) ?_
  refine z_aload_n G dL_areGuests_387 0 rfl ?_
  refine z_iload G dL_areGuests_388 6 rfl ?_
  refine z_iload G dL_areGuests_390 9 rfl ?_
  refine z_q (As := [_, _]) G (lc_seatedIn h.iv (nI (j)) (nI (rk f j))) hT k_X5_seatedIn gL_areGuests_X5_seatedIn rfl dL_areGuests_392 ⟨by decide, by decide⟩ ⟨rfl, rfl⟩ ⟨Nat.zero_le _, Nat.zero_le _⟩ rfl (Nat.le_of_ble_eq_true rfl) rfl ?_
  intro w hT
  refine z_if_neF G dL_areGuests_395 447 (by decide) (st_z lj sg) ?_
  refine z_iload G dL_areGuests_398 9 rfl ?_
  refine z_if_eq G dL_areGuests_400 416 (by decide) (fun c400 => ?_) (fun c400 => ?_)
  · refine z_aload_n G dL_areGuests_416 0 rfl ?_
    refine z_iload G dL_areGuests_417 6 rfl ?_
    refine z_q (As := [_]) G (lc_ifWord h.iv (nI (j))) hT k_X5_ifWord gL_areGuests_X5_ifWord rfl dL_areGuests_419 ⟨by decide, by decide⟩ ⟨rfl, rfl⟩ ⟨Nat.zero_le _, Nat.zero_le _⟩ rfl (Nat.le_of_ble_eq_true rfl) rfl ?_
    intro w hT
    refine z_iload G dL_areGuests_422 9 rfl ?_
    refine z_icmp_ltF G dL_areGuests_424 447 (by decide) (wd_ge h lj sg) ?_
    refine z_aload_n G dL_areGuests_427 0 rfl ?_
    refine z_aload_n G dL_areGuests_428 0 rfl ?_
    refine z_iload G dL_areGuests_429 6 rfl ?_
    refine z_iconst (v := nI 2) G dL_areGuests_431 rfl ?_
    refine z_q (As := [_, _]) G (lc_of h.iv (nI (j)) (nI (2))) hT k_X5_of gL_areGuests_X5_of rfl dL_areGuests_432 ⟨by decide, by decide⟩ ⟨rfl, rfl⟩ ⟨Nat.zero_le _, Nat.zero_le _⟩ rfl (Nat.le_of_ble_eq_true rfl) rfl ?_
    intro w hT
    refine z_top (w := .int (f (16 + 17 * j))) (congrArg Value.int (ofw_2 lj sg)) ?_
    refine z_q (As := [_]) G (lc_silent h.iv (f (16 + 17 * j))) hT k_X5_silent gL_areGuests_X5_silent rfl dL_areGuests_435 ⟨by decide, by decide⟩ ⟨rfl, rfl⟩ ⟨Nat.zero_le _, Nat.zero_le _⟩ rfl (Nat.le_of_ble_eq_true rfl) rfl ?_
    intro w hT
    refine z_iload G dL_areGuests_438 9 rfl ?_
    refine z_icmp_leF G dL_areGuests_440 447 (by decide) (sl_gt h lj sg) ?_
    refine z_iconst (v := nI 1) G dL_areGuests_443 rfl ?_
    refine z_goto (tgt := 448) G dL_areGuests_444 (by decide) ?_
    refine z_istore G dL_areGuests_448 (by decide) 5 rfl ?_
    refine z_iinc G dL_areGuests_450 6 rfl (nI (j + 1)) (nI_inc _) (by decide) rfl ?_
    refine z_goto (tgt := 70) G dL_areGuests_453 (by decide) ?_
    refine z_loc G [(0, .ref (o)), (1, .int (orI (gs f) 9)), (2, .int (nI (cnt (gs f) j + 1))), (3, .int (sumI (owd f) (j + 1))), (4, .int (orI (psP f) (j + 1))), (5, .int (nI (1))), (6, .int (nI (j + 1)))] [0, 1, 2, 3, 4, 5, 6] rfl ?_
    refine z_lv (lv' := [(0, .ref (o)), (1, .int (orI (gs f) 9)), (2, .int (nI (cnt (gs f) (j + 1)))), (3, .int (sumI (owd f) (j + 1))), (4, .int (orI (psP f) (j + 1))), (5, .int (nI (1))), (6, .int (nI (j + 1)))]) (by rw [cnt_t sg]; try rfl) ?_
    exact IH w hT
  · refine z_aload_n G dL_areGuests_403 0 rfl ?_
    refine z_iload G dL_areGuests_404 6 rfl ?_
    refine z_iload G dL_areGuests_406 9 rfl ?_
    refine z_iconst (v := nI 1) G dL_areGuests_408 rfl ?_
    refine z_isub G dL_areGuests_409 ?_
    refine z_q (As := [_, _]) G (lc_seatedIn h.iv (nI (j)) ((nI (rk f j)) - (nI (1)))) hT k_X5_seatedIn gL_areGuests_X5_seatedIn rfl dL_areGuests_410 ⟨by decide, by decide⟩ ⟨rfl, rfl⟩ ⟨Nat.zero_le _, Nat.zero_le _⟩ rfl (Nat.le_of_ble_eq_true rfl) rfl ?_
    intro w hT
    refine z_if_eqF G dL_areGuests_413 447 (by decide) (st_nz lj sg c400) ?_
    refine z_aload_n G dL_areGuests_416 0 rfl ?_
    refine z_iload G dL_areGuests_417 6 rfl ?_
    refine z_q (As := [_]) G (lc_ifWord h.iv (nI (j))) hT k_X5_ifWord gL_areGuests_X5_ifWord rfl dL_areGuests_419 ⟨by decide, by decide⟩ ⟨rfl, rfl⟩ ⟨Nat.zero_le _, Nat.zero_le _⟩ rfl (Nat.le_of_ble_eq_true rfl) rfl ?_
    intro w hT
    refine z_iload G dL_areGuests_422 9 rfl ?_
    refine z_icmp_ltF G dL_areGuests_424 447 (by decide) (wd_ge h lj sg) ?_
    refine z_aload_n G dL_areGuests_427 0 rfl ?_
    refine z_aload_n G dL_areGuests_428 0 rfl ?_
    refine z_iload G dL_areGuests_429 6 rfl ?_
    refine z_iconst (v := nI 2) G dL_areGuests_431 rfl ?_
    refine z_q (As := [_, _]) G (lc_of h.iv (nI (j)) (nI (2))) hT k_X5_of gL_areGuests_X5_of rfl dL_areGuests_432 ⟨by decide, by decide⟩ ⟨rfl, rfl⟩ ⟨Nat.zero_le _, Nat.zero_le _⟩ rfl (Nat.le_of_ble_eq_true rfl) rfl ?_
    intro w hT
    refine z_top (w := .int (f (16 + 17 * j))) (congrArg Value.int (ofw_2 lj sg)) ?_
    refine z_q (As := [_]) G (lc_silent h.iv (f (16 + 17 * j))) hT k_X5_silent gL_areGuests_X5_silent rfl dL_areGuests_435 ⟨by decide, by decide⟩ ⟨rfl, rfl⟩ ⟨Nat.zero_le _, Nat.zero_le _⟩ rfl (Nat.le_of_ble_eq_true rfl) rfl ?_
    intro w hT
    refine z_iload G dL_areGuests_438 9 rfl ?_
    refine z_icmp_leF G dL_areGuests_440 447 (by decide) (sl_gt h lj sg) ?_
    refine z_iconst (v := nI 1) G dL_areGuests_443 rfl ?_
    refine z_goto (tgt := 448) G dL_areGuests_444 (by decide) ?_
    refine z_istore G dL_areGuests_448 (by decide) 5 rfl ?_
    refine z_iinc G dL_areGuests_450 6 rfl (nI (j + 1)) (nI_inc _) (by decide) rfl ?_
    refine z_goto (tgt := 70) G dL_areGuests_453 (by decide) ?_
    refine z_loc G [(0, .ref (o)), (1, .int (orI (gs f) 9)), (2, .int (nI (cnt (gs f) j + 1))), (3, .int (sumI (owd f) (j + 1))), (4, .int (orI (psP f) (j + 1))), (5, .int (nI (1))), (6, .int (nI (j + 1)))] [0, 1, 2, 3, 4, 5, 6] rfl ?_
    refine z_lv (lv' := [(0, .ref (o)), (1, .int (orI (gs f) 9)), (2, .int (nI (cnt (gs f) (j + 1)))), (3, .int (sumI (owd f) (j + 1))), (4, .int (orI (psP f) (j + 1))), (5, .int (nI (1))), (6, .int (nI (j + 1)))]) (by rw [cnt_t sg]; try rfl) ?_
    exact IH w hT

set_option maxHeartbeats 8000000 in
set_option maxRecDepth 100000 in
theorem ag_275 {D : va_G} {y : Nat → ClassId} {f : Nat → Int32} {X : zX} {o : Nat} {sv : Option (Nat → Int32)} {k0 : Nat} (G : zG D y X cL_areGuests RL ({ frames := 6, cells := 0, slots := 0, locals := 140 }) 11 wsL_areGuests) {T : Nat} (h : JV f T) {j : Nat} (lj : j < 9) (sg : gs f j = true) (IH : (∀ w : va_W, TW y o f sv k0 w → zV D X w 0 0 70 [(0, .ref (o)), (1, .int (orI (gs f) 9)), (2, .int (nI (cnt (gs f) (j + 1)))), (3, .int (sumI (owd f) (j + 1))), (4, .int (orI (psP f) (j + 1))), (5, .int (nI (1))), (6, .int (nI (j + 1)))] [])) (w : va_W) (hT : TW y o f sv k0 w) : zV D X w 0 0 275 [(0, .ref (o)), (1, .int (orI (gs f) 9)), (2, .int (nI (cnt (gs f) j + 1))), (3, .int (sumI (owd f) (j + 1))), (4, .int (orI (psP f) (j + 1))), (5, .int (nI (1))), (6, .int (nI (j))), (7, .int (owd f j)), (8, .int (owt f j)), (9, .int (nI (rk f j))), (10, .int (rsn f j))] [] := by
  refine z_aload_n G dL_areGuests_275 0 rfl ?_
  refine z_aload_n G dL_areGuests_276 0 rfl ?_
  refine z_iload G dL_areGuests_277 6 rfl ?_
  refine z_iconst (v := nI 0) G dL_areGuests_279 rfl ?_
  refine z_q (As := [_, _]) G (lc_of h.iv (nI (j)) (nI (0))) hT k_X5_of gL_areGuests_X5_of rfl dL_areGuests_280 ⟨by decide, by decide⟩ ⟨rfl, rfl⟩ ⟨Nat.zero_le _, Nat.zero_le _⟩ rfl (Nat.le_of_ble_eq_true rfl) rfl ?_
  intro w hT
  refine z_top (w := .int (f (14 + 17 * j))) (congrArg Value.int (ofw_0 lj sg)) ?_
  refine z_q (As := [_]) G (lc_at h.iv (f (14 + 17 * j))) hT k_X5_at gL_areGuests_X5_at rfl dL_areGuests_283 ⟨by decide, by decide⟩ ⟨rfl, rfl⟩ ⟨Nat.zero_le _, Nat.zero_le _⟩ rfl (Nat.le_of_ble_eq_true rfl) rfl ?_
  intro w hT
  refine z_iload G dL_areGuests_286 6 rfl ?_
  refine z_icmp_neF G dL_areGuests_288 379 (by decide) (sat h.iv lj sg) ?_
  refine z_aload_n G dL_areGuests_291 0 rfl ?_
  refine z_iload G dL_areGuests_292 9 rfl ?_
  refine z_q (As := [_]) G (lc_ranked h.iv (nI (rk f j))) hT k_X5_ranked gL_areGuests_X5_ranked rfl dL_areGuests_294 ⟨by decide, by decide⟩ ⟨rfl, rfl⟩ ⟨Nat.zero_le _, Nat.zero_le _⟩ rfl (Nat.le_of_ble_eq_true rfl) rfl ?_
  intro w hT
  refine z_iload G dL_areGuests_297 6 rfl ?_
  refine z_icmp_neF G dL_areGuests_299 379 (by decide) (rat h.iv lj sg) ?_
  refine z_aload_n G dL_areGuests_302 0 rfl ?_
  refine z_iload G dL_areGuests_303 6 rfl ?_
  refine z_bipush (v := nI 9) G dL_areGuests_305 rfl ?_
  refine z_q (As := [_, _]) G (lc_of h.iv (nI (j)) (nI (9))) hT k_X5_of gL_areGuests_X5_of rfl dL_areGuests_307 ⟨by decide, by decide⟩ ⟨rfl, rfl⟩ ⟨Nat.zero_le _, Nat.zero_le _⟩ rfl (Nat.le_of_ble_eq_true rfl) rfl ?_
  intro w hT
  refine z_top (w := .int (nI (rk f j))) (congrArg Value.int (ofw_9 lj sg)) ?_
  refine z_iload G dL_areGuests_310 9 rfl ?_
  refine z_icmp_neF G dL_areGuests_312 379 (by decide) rfl ?_
  refine z_aload_n G dL_areGuests_315 0 rfl ?_
  refine z_iload G dL_areGuests_316 6 rfl ?_
  refine z_bipush (v := nI 6) G dL_areGuests_318 rfl ?_
  refine z_q (As := [_, _]) G (lc_of h.iv (nI (j)) (nI (6))) hT k_X5_of gL_areGuests_X5_of rfl dL_areGuests_320 ⟨by decide, by decide⟩ ⟨rfl, rfl⟩ ⟨Nat.zero_le _, Nat.zero_le _⟩ rfl (Nat.le_of_ble_eq_true rfl) rfl ?_
  intro w hT
  refine z_top (w := .int (owd f j)) (congrArg Value.int (ofw_6 lj sg)) ?_
  refine z_iload G dL_areGuests_323 7 rfl ?_
  refine z_icmp_neF G dL_areGuests_325 379 (by decide) rfl ?_
  refine z_aload_n G dL_areGuests_328 0 rfl ?_
  refine z_iload G dL_areGuests_329 6 rfl ?_
  refine z_bipush (v := nI 7) G dL_areGuests_331 rfl ?_
  refine z_q (As := [_, _]) G (lc_of h.iv (nI (j)) (nI (7))) hT k_X5_of gL_areGuests_X5_of rfl dL_areGuests_333 ⟨by decide, by decide⟩ ⟨rfl, rfl⟩ ⟨Nat.zero_le _, Nat.zero_le _⟩ rfl (Nat.le_of_ble_eq_true rfl) rfl ?_
  intro w hT
  refine z_top (w := .int (owt f j)) (congrArg Value.int (ofw_7 lj sg)) ?_
  refine z_iload G dL_areGuests_336 8 rfl ?_
  refine z_icmp_neF G dL_areGuests_338 379 (by decide) rfl ?_
  refine z_aload_n G dL_areGuests_341 0 rfl ?_
  refine z_iload G dL_areGuests_342 6 rfl ?_
  refine z_q (As := [_]) G (lc_why h.iv (nI (j))) hT k_X5_why gL_areGuests_X5_why rfl dL_areGuests_344 ⟨by decide, by decide⟩ ⟨rfl, rfl⟩ ⟨Nat.zero_le _, Nat.zero_le _⟩ rfl (Nat.le_of_ble_eq_true rfl) rfl ?_
  intro w hT
  refine z_iload G dL_areGuests_347 10 rfl ?_
  refine z_icmp_neF G dL_areGuests_349 379 (by decide) (wh_t lj sg) ?_
  refine z_aload_n G dL_areGuests_352 0 rfl ?_
  refine z_iload G dL_areGuests_353 6 rfl ?_
  refine z_iload G dL_areGuests_355 6 rfl ?_
  refine z_q (As := [_, _]) G (lc_owes h.iv (nI (j)) (nI (j))) hT k_X5_owes gL_areGuests_X5_owes rfl dL_areGuests_357 ⟨by decide, by decide⟩ ⟨rfl, rfl⟩ ⟨Nat.zero_le _, Nat.zero_le _⟩ rfl (Nat.le_of_ble_eq_true rfl) rfl ?_
  intro w hT
  refine z_bipush (v := (-2)) G dL_areGuests_360 rfl ?_
  refine z_icmp_neF G dL_areGuests_362 379 (by decide) (ow_s lj sg) ?_
  refine z_aload_n G dL_areGuests_365 0 rfl ?_
  refine z_iload G dL_areGuests_366 6 rfl ?_
  refine z_iconst (v := nI 2) G dL_areGuests_368 rfl ?_
  refine z_q (As := [_, _]) G (lc_of h.iv (nI (j)) (nI (2))) hT k_X5_of gL_areGuests_X5_of rfl dL_areGuests_369 ⟨by decide, by decide⟩ ⟨rfl, rfl⟩ ⟨Nat.zero_le _, Nat.zero_le _⟩ rfl (Nat.le_of_ble_eq_true rfl) rfl ?_
  intro w hT
  refine z_top (w := .int (f (16 + 17 * j))) (congrArg Value.int (ofw_2 lj sg)) ?_
  refine z_if_ltF G dL_areGuests_372 379 (by decide) (Int32.not_lt.mpr (sm_0 (sm_si h lj))) ?_
  refine z_iconst (v := nI 1) G dL_areGuests_375 rfl ?_
  refine z_goto (tgt := 380) G dL_areGuests_376 (by decide) ?_
  refine z_istore G dL_areGuests_380 (by decide) 5 rfl ?_
  exact ag_382 G h lj sg IH w hT

set_option maxHeartbeats 8000000 in
set_option maxRecDepth 100000 in
theorem ag_250 {D : va_G} {y : Nat → ClassId} {f : Nat → Int32} {X : zX} {o : Nat} {sv : Option (Nat → Int32)} {k0 : Nat} (G : zG D y X cL_areGuests RL ({ frames := 6, cells := 0, slots := 0, locals := 140 }) 11 wsL_areGuests) {T : Nat} (h : JV f T) {j : Nat} (lj : j < 9) (sg : gs f j = true) (IH : (∀ w : va_W, TW y o f sv k0 w → zV D X w 0 0 70 [(0, .ref (o)), (1, .int (orI (gs f) 9)), (2, .int (nI (cnt (gs f) (j + 1)))), (3, .int (sumI (owd f) (j + 1))), (4, .int (orI (psP f) (j + 1))), (5, .int (nI (1))), (6, .int (nI (j + 1)))] [])) (w : va_W) (hT : TW y o f sv k0 w) : zV D X w 0 0 250 [(0, .ref (o)), (1, .int (orI (gs f) 9)), (2, .int (nI (cnt (gs f) j + 1))), (3, .int (sumI (owd f) j)), (4, .int (orI (psP f) j)), (5, .int (nI (1))), (6, .int (nI (j))), (7, .int (owd f j)), (8, .int (owt f j)), (9, .int (nI (rk f j))), (10, .int (nI (9)))] [.int (rsn f j)] := by
  refine z_istore G dL_areGuests_250 (by decide) 10 rfl ?_
  refine z_iload_n G dL_areGuests_252 3 rfl ?_
  refine z_iload G dL_areGuests_253 7 rfl ?_
  refine z_iadd G dL_areGuests_255 ?_
  refine z_istore_n G dL_areGuests_256 rfl (by decide) 3 rfl ?_
  refine z_iload G dL_areGuests_257 4 rfl ?_
  refine z_iload G dL_areGuests_259 10 rfl ?_
  refine z_if_le G dL_areGuests_261 271 (by decide) (fun c261 => ?_) (fun c261 => ?_)
  · refine z_iconst (v := nI 0) G dL_areGuests_271 rfl ?_
    refine z_ior G dL_areGuests_272 ?_
    refine z_top (w := .int (orI (psP f) j)) (congrArg Value.int (or0 _)) ?_
    refine z_istore G dL_areGuests_273 (by decide) 4 rfl ?_
    refine z_lv (lv' := [(0, .ref (o)), (1, .int (orI (gs f) 9)), (2, .int (nI (cnt (gs f) j + 1))), (3, .int (sumI (owd f) (j + 1))), (4, .int (orI (psP f) (j + 1))), (5, .int (nI (1))), (6, .int (nI (j))), (7, .int (owd f j)), (8, .int (owt f j)), (9, .int (nI (rk f j))), (10, .int (rsn f j))]) (by rw [sumI_s (owd f) j, orI_f (psP_f (rsn_le c261))]; try rfl) ?_
    exact ag_275 G h lj sg IH w hT
  · refine z_iconst (v := nI 1) G dL_areGuests_264 rfl ?_
    refine z_iload G dL_areGuests_265 6 rfl ?_
    refine z_ishl G dL_areGuests_267 ?_
    refine z_goto (tgt := 272) G dL_areGuests_268 (by decide) ?_
    refine z_ior G dL_areGuests_272 ?_
    refine z_istore G dL_areGuests_273 (by decide) 4 rfl ?_
    refine z_lv (lv' := [(0, .ref (o)), (1, .int (orI (gs f) 9)), (2, .int (nI (cnt (gs f) j + 1))), (3, .int (sumI (owd f) (j + 1))), (4, .int (orI (psP f) (j + 1))), (5, .int (nI (1))), (6, .int (nI (j))), (7, .int (owd f j)), (8, .int (owt f j)), (9, .int (nI (rk f j))), (10, .int (rsn f j))]) (by rw [sumI_s (owd f) j, ← orI_t (psP_t sg (rsn_nl c261))]; try rfl) ?_
    exact ag_275 G h lj sg IH w hT

set_option maxHeartbeats 8000000 in
set_option maxRecDepth 100000 in
theorem ag_214 {D : va_G} {y : Nat → ClassId} {f : Nat → Int32} {X : zX} {o : Nat} {sv : Option (Nat → Int32)} {k0 : Nat} (G : zG D y X cL_areGuests RL ({ frames := 6, cells := 0, slots := 0, locals := 140 }) 11 wsL_areGuests) {T : Nat} (h : JV f T) {j : Nat} (lj : j < 9) (sg : gs f j = true) (IH : (∀ w : va_W, TW y o f sv k0 w → zV D X w 0 0 70 [(0, .ref (o)), (1, .int (orI (gs f) 9)), (2, .int (nI (cnt (gs f) (j + 1)))), (3, .int (sumI (owd f) (j + 1))), (4, .int (orI (psP f) (j + 1))), (5, .int (nI (1))), (6, .int (nI (j + 1)))] [])) (w : va_W) (hT : TW y o f sv k0 w) : zV D X w 0 0 214 [(0, .ref (o)), (1, .int (orI (gs f) 9)), (2, .int (nI (cnt (gs f) j + 1))), (3, .int (sumI (owd f) j)), (4, .int (orI (psP f) j)), (5, .int (nI (1))), (6, .int (nI (j))), (7, .int (owd f j)), (8, .int (owt f j)), (9, .int (nI (rk f j))), (10, .int (nI (9)))] [] := by
  refine z_aload_n G dL_areGuests_214 0 rfl ?_
  refine z_iload G dL_areGuests_215 6 rfl ?_
  refine z_iconst (v := nI 3) G dL_areGuests_217 rfl ?_
  refine z_q (As := [_, _]) G (lc_of h.iv (nI (j)) (nI (3))) hT k_X5_of gL_areGuests_X5_of rfl dL_areGuests_218 ⟨by decide, by decide⟩ ⟨rfl, rfl⟩ ⟨Nat.zero_le _, Nat.zero_le _⟩ rfl (Nat.le_of_ble_eq_true rfl) rfl ?_
  intro w hT
  refine z_top (w := .int (f (17 + 17 * j))) (congrArg Value.int (ofw_3 lj sg)) ?_
  refine z_aload_n G dL_areGuests_221 0 rfl ?_
  refine z_bipush (v := nI 15) G dL_areGuests_222 rfl ?_
  refine z_q (As := [_]) G (lc_count h.iv (nI (15)) (by decide) (by decide)) hT k_X5_count gL_areGuests_X5_count rfl dL_areGuests_224 ⟨by decide, by decide⟩ ⟨rfl, rfl⟩ ⟨Nat.zero_le _, Nat.zero_le _⟩ rfl (Nat.le_of_ble_eq_true rfl) rfl ?_
  intro w hT
  refine z_top (w := .int (f 2)) (congrArg Value.int (se_13 (k := 2) (by decide))) ?_
  refine z_icmp_lt G dL_areGuests_227 234 (by decide) (fun c227 => ?_) (fun c227 => ?_)
  · refine z_iload G dL_areGuests_234 7 rfl ?_
    refine z_aload_n G dL_areGuests_236 0 rfl ?_
    refine z_bipush (v := nI 14) G dL_areGuests_237 rfl ?_
    refine z_q (As := [_]) G (lc_count h.iv (nI (14)) (by decide) (by decide)) hT k_X5_count gL_areGuests_X5_count rfl dL_areGuests_239 ⟨by decide, by decide⟩ ⟨rfl, rfl⟩ ⟨Nat.zero_le _, Nat.zero_le _⟩ rfl (Nat.le_of_ble_eq_true rfl) rfl ?_
    intro w hT
    refine z_top (w := .int (f 1)) (congrArg Value.int (se_13 (k := 1) (by decide))) ?_
    refine z_icmp_lt G dL_areGuests_242 249 (by decide) (fun c242 => ?_) (fun c242 => ?_)
    · refine z_iconst (v := nI 0) G dL_areGuests_249 rfl ?_
      refine z_top (w := .int (rsn f j)) (congrArg Value.int (rsn_3 (Int32.not_le.mpr c227) (Int32.not_le.mpr c242))) ?_
      exact ag_250 G h lj sg IH w hT
    · refine z_iconst (v := nI 2) G dL_areGuests_245 rfl ?_
      refine z_goto (tgt := 250) G dL_areGuests_246 (by decide) ?_
      refine z_top (w := .int (rsn f j)) (congrArg Value.int (rsn_2 (Int32.not_le.mpr c227) (Int32.not_lt.mp c242))) ?_
      exact ag_250 G h lj sg IH w hT
  · refine z_iconst (v := nI 1) G dL_areGuests_230 rfl ?_
    refine z_goto (tgt := 250) G dL_areGuests_231 (by decide) ?_
    refine z_top (w := .int (rsn f j)) (congrArg Value.int (rsn_1 (Int32.not_lt.mp c227))) ?_
    exact ag_250 G h lj sg IH w hT

set_option maxHeartbeats 8000000 in
set_option maxRecDepth 100000 in
theorem ag_in {D : va_G} {y : Nat → ClassId} {f : Nat → Int32} {X : zX} {o : Nat} {sv : Option (Nat → Int32)} {k0 : Nat} (G : zG D y X cL_areGuests RL ({ frames := 6, cells := 0, slots := 0, locals := 140 }) 11 wsL_areGuests) {T : Nat} (h : JV f T) {j : Nat} (lj : j < 9) (sg : gs f j = true) {i : Nat} (li : i < 9) (IHi : (∀ w : va_W, TW y o f sv k0 w → zV D X w 0 0 137 [(0, .ref (o)), (1, .int (orI (gs f) 9)), (2, .int (nI (cnt (gs f) j + 1))), (3, .int (sumI (owd f) j)), (4, .int (orI (psP f) j)), (5, .int (nI (1))), (6, .int (nI (j))), (7, .int (sumI (fun o => f (21 + 17 * j + o)) (i + 1))), (8, .int (sumI (fun o => f (21 + 17 * o + j)) (i + 1))), (9, .int (nI (cnt (rkP f j) (i + 1)))), (10, .int (nI (i + 1)))] [])) (w : va_W) (hT : TW y o f sv k0 w) : zV D X w 0 0 137 [(0, .ref (o)), (1, .int (orI (gs f) 9)), (2, .int (nI (cnt (gs f) j + 1))), (3, .int (sumI (owd f) j)), (4, .int (orI (psP f) j)), (5, .int (nI (1))), (6, .int (nI (j))), (7, .int (sumI (fun o => f (21 + 17 * j + o)) i)), (8, .int (sumI (fun o => f (21 + 17 * o + j)) i)), (9, .int (nI (cnt (rkP f j) i))), (10, .int (nI (i)))] [] := by
  have zi : ∀ i, i < 9 → gs f i = false → f (21 + 17 * i + j) = 0 := fun i li si => by rw [show 21 + 17 * i + j = 13 + 17 * i + (8 + j) by omega]; exact h.iv.zr i li si (8 + j) (by omega)
  refine z_iload G dL_areGuests_137 10 rfl ?_
  refine z_bipush (v := nI 9) G dL_areGuests_139 rfl ?_
  refine z_icmp_geF G dL_areGuests_141 214 (by decide) (nI_ge li (by decide)) ?_
  refine z_iload_n G dL_areGuests_144 1 rfl ?_
  refine z_iload G dL_areGuests_145 10 rfl ?_
  refine z_ishr G dL_areGuests_147 ?_
  refine z_iconst (v := nI 1) G dL_areGuests_148 rfl ?_
  refine z_iand G dL_areGuests_149 ?_
  refine z_iconst (v := nI 1) G dL_areGuests_150 rfl ?_
  cases si : gs f i
  · refine z_icmp_neT G dL_areGuests_151 208 (by decide) (by rw [bit_f li si]; decide) ?_
    refine z_iinc G dL_areGuests_208 10 rfl (nI (i + 1)) (nI_inc _) (by decide) rfl ?_
    refine z_goto (tgt := 137) G dL_areGuests_211 (by decide) ?_
    refine z_lv (lv' := [(0, .ref (o)), (1, .int (orI (gs f) 9)), (2, .int (nI (cnt (gs f) j + 1))), (3, .int (sumI (owd f) j)), (4, .int (orI (psP f) j)), (5, .int (nI (1))), (6, .int (nI (j))), (7, .int (sumI (fun o => f (21 + 17 * j + o)) (i + 1))), (8, .int (sumI (fun o => f (21 + 17 * o + j)) (i + 1))), (9, .int (nI (cnt (rkP f j) (i + 1)))), (10, .int (nI (i + 1)))]) (by rw [cnt_f (rkP_no si), sumI_z (h := fun o => f (21 + 17 * j + o)) (h.jo j i lj li (Or.inl si)), sumI_z (h := fun o => f (21 + 17 * o + j)) (zi i li si)]; try rfl) ?_
    exact IHi w hT
  · refine z_icmp_neF G dL_areGuests_151 208 (by decide) (bit_t li si) ?_
    refine z_iload G dL_areGuests_154 10 rfl ?_
    refine z_iload G dL_areGuests_156 6 rfl ?_
    by_cases e : i = j
    · refine z_icmp_eqT G dL_areGuests_158 208 (by decide) (by rw [e]) ?_
      refine z_iinc G dL_areGuests_208 10 rfl (nI (i + 1)) (nI_inc _) (by decide) rfl ?_
      refine z_goto (tgt := 137) G dL_areGuests_211 (by decide) ?_
      refine z_lv (lv' := [(0, .ref (o)), (1, .int (orI (gs f) 9)), (2, .int (nI (cnt (gs f) j + 1))), (3, .int (sumI (owd f) j)), (4, .int (orI (psP f) j)), (5, .int (nI (1))), (6, .int (nI (j))), (7, .int (sumI (fun o => f (21 + 17 * j + o)) (i + 1))), (8, .int (sumI (fun o => f (21 + 17 * o + j)) (i + 1))), (9, .int (nI (cnt (rkP f j) (i + 1)))), (10, .int (nI (i + 1)))]) (by rw [e, cnt_f (rkP_me f j), sumI_z (h := fun o => f (21 + 17 * j + o)) (h.jo j j lj lj (Or.inr rfl)), sumI_z (h := fun o => f (21 + 17 * o + j)) (h.jo j j lj lj (Or.inr rfl))]; try rfl) ?_
      exact IHi w hT
    · refine z_icmp_eqF G dL_areGuests_158 208 (by decide) (fun z => e ((nI_eq (by omega) (by omega)).mp z)) ?_
      refine z_iload G dL_areGuests_161 7 rfl ?_
      refine z_aload_n G dL_areGuests_163 0 rfl ?_
      refine z_iload G dL_areGuests_164 6 rfl ?_
      refine z_iload G dL_areGuests_166 10 rfl ?_
      refine z_q (As := [_, _]) G (lc_owes h.iv (nI (j)) (nI (i))) hT k_X5_owes gL_areGuests_X5_owes rfl dL_areGuests_168 ⟨by decide, by decide⟩ ⟨rfl, rfl⟩ ⟨Nat.zero_le _, Nat.zero_le _⟩ rfl (Nat.le_of_ble_eq_true rfl) rfl ?_
      intro w hT
      refine z_iadd G dL_areGuests_171 ?_
      refine z_istore G dL_areGuests_172 (by decide) 7 rfl ?_
      refine z_iload G dL_areGuests_174 8 rfl ?_
      refine z_aload_n G dL_areGuests_176 0 rfl ?_
      refine z_iload G dL_areGuests_177 10 rfl ?_
      refine z_iload G dL_areGuests_179 6 rfl ?_
      refine z_q (As := [_, _]) G (lc_owes h.iv (nI (i)) (nI (j))) hT k_X5_owes gL_areGuests_X5_owes rfl dL_areGuests_181 ⟨by decide, by decide⟩ ⟨rfl, rfl⟩ ⟨Nat.zero_le _, Nat.zero_le _⟩ rfl (Nat.le_of_ble_eq_true rfl) rfl ?_
      intro w hT
      refine z_iadd G dL_areGuests_184 ?_
      refine z_istore G dL_areGuests_185 (by decide) 8 rfl ?_
      refine z_iload G dL_areGuests_187 9 rfl ?_
      refine z_aload_n G dL_areGuests_189 0 rfl ?_
      refine z_iload G dL_areGuests_190 10 rfl ?_
      refine z_iload G dL_areGuests_192 6 rfl ?_
      refine z_qS (As := [_, _]) G (c_L_isAhead h li lj si sg) hT k_L_isAhead gL_areGuests_L_isAhead dL_areGuests_194 ⟨by decide, by decide⟩ ⟨rfl, rfl⟩ ⟨Nat.zero_le _, Nat.zero_le _⟩ rfl (Nat.le_of_ble_eq_true rfl) rfl ?_
      intro w hT
      cases ea : ahd f i j
      · refine z_if_eqT G dL_areGuests_197 204 (by decide) rfl ?_
        refine z_iconst (v := nI 0) G dL_areGuests_204 rfl ?_
        refine z_iaddN G dL_areGuests_205 (cnt (rkP f j) i) (by omega) ?_
        refine z_istore G dL_areGuests_206 (by decide) 9 rfl ?_
        refine z_iinc G dL_areGuests_208 10 rfl (nI (i + 1)) (nI_inc _) (by decide) rfl ?_
        refine z_goto (tgt := 137) G dL_areGuests_211 (by decide) ?_
        refine z_lv (lv' := [(0, .ref (o)), (1, .int (orI (gs f) 9)), (2, .int (nI (cnt (gs f) j + 1))), (3, .int (sumI (owd f) j)), (4, .int (orI (psP f) j)), (5, .int (nI (1))), (6, .int (nI (j))), (7, .int (sumI (fun o => f (21 + 17 * j + o)) (i + 1))), (8, .int (sumI (fun o => f (21 + 17 * o + j)) (i + 1))), (9, .int (nI (cnt (rkP f j) (i + 1)))), (10, .int (nI (i + 1)))]) (by rw [ow_t lj li (fun z => e z.symm) sg si, ow_t li lj e si sg, cnt_f ((rkP_eq si e).trans ea), sumI_s, sumI_s]; try rfl) ?_
        exact IHi w hT
      · refine z_if_eqF G dL_areGuests_197 204 (by decide) (by decide) ?_
        refine z_iconst (v := nI 1) G dL_areGuests_200 rfl ?_
        refine z_goto (tgt := 205) G dL_areGuests_201 (by decide) ?_
        refine z_iaddN G dL_areGuests_205 (cnt (rkP f j) i + 1) (by omega) ?_
        refine z_istore G dL_areGuests_206 (by decide) 9 rfl ?_
        refine z_iinc G dL_areGuests_208 10 rfl (nI (i + 1)) (nI_inc _) (by decide) rfl ?_
        refine z_goto (tgt := 137) G dL_areGuests_211 (by decide) ?_
        refine z_lv (lv' := [(0, .ref (o)), (1, .int (orI (gs f) 9)), (2, .int (nI (cnt (gs f) j + 1))), (3, .int (sumI (owd f) j)), (4, .int (orI (psP f) j)), (5, .int (nI (1))), (6, .int (nI (j))), (7, .int (sumI (fun o => f (21 + 17 * j + o)) (i + 1))), (8, .int (sumI (fun o => f (21 + 17 * o + j)) (i + 1))), (9, .int (nI (cnt (rkP f j) (i + 1)))), (10, .int (nI (i + 1)))]) (by rw [ow_t lj li (fun z => e z.symm) sg si, ow_t li lj e si sg, cnt_t ((rkP_eq si e).trans ea), sumI_s, sumI_s]; try rfl) ?_
        exact IHi w hT

set_option maxHeartbeats 8000000 in
set_option maxRecDepth 100000 in
theorem ag_lo {D : va_G} {y : Nat → ClassId} {f : Nat → Int32} {X : zX} {o : Nat} {sv : Option (Nat → Int32)} {k0 : Nat} (G : zG D y X cL_areGuests RL ({ frames := 6, cells := 0, slots := 0, locals := 140 }) 11 wsL_areGuests) {T : Nat} (h : JV f T) {j : Nat} (lj : j < 9) (sg : gs f j = true) (IH : (∀ w : va_W, TW y o f sv k0 w → zV D X w 0 0 70 [(0, .ref (o)), (1, .int (orI (gs f) 9)), (2, .int (nI (cnt (gs f) (j + 1)))), (3, .int (sumI (owd f) (j + 1))), (4, .int (orI (psP f) (j + 1))), (5, .int (nI (1))), (6, .int (nI (j + 1)))] [])) : ∀ n i : Nat, n + i = 9 → ∀ w : va_W, TW y o f sv k0 w → zV D X w 0 0 137 [(0, .ref (o)), (1, .int (orI (gs f) 9)), (2, .int (nI (cnt (gs f) j + 1))), (3, .int (sumI (owd f) j)), (4, .int (orI (psP f) j)), (5, .int (nI (1))), (6, .int (nI (j))), (7, .int (sumI (fun o => f (21 + 17 * j + o)) i)), (8, .int (sumI (fun o => f (21 + 17 * o + j)) i)), (9, .int (nI (cnt (rkP f j) i))), (10, .int (nI (i)))] [] := by
  intro n
  induction n with
  | zero =>
    intro i hi w hT
    obtain rfl : i = 9 := by omega
    refine z_iload G dL_areGuests_137 10 rfl ?_
    refine z_bipush (v := nI 9) G dL_areGuests_139 rfl ?_
    refine z_icmp_geT G dL_areGuests_141 214 (by decide) (nI_le (Nat.le_refl _) (by decide)) ?_
    have eo : sumI (fun o => f (21 + 17 * j + o)) 9 = owd f j := rfl
    have et : sumI (fun o => f (21 + 17 * o + j)) 9 = owt f j := rfl
    have ek : cnt (rkP f j) 9 = rk f j := rfl
    refine z_lv (lv' := [(0, .ref (o)), (1, .int (orI (gs f) 9)), (2, .int (nI (cnt (gs f) j + 1))), (3, .int (sumI (owd f) j)), (4, .int (orI (psP f) j)), (5, .int (nI (1))), (6, .int (nI (j))), (7, .int (owd f j)), (8, .int (owt f j)), (9, .int (nI (rk f j))), (10, .int (nI (9)))]) (by rw [eo, et, ek]; try rfl) ?_
    exact ag_214 G h lj sg IH w hT
  | succ n ih =>
    intro i hi w hT
    exact ag_in G h lj sg (by omega) (fun w hT => ih (i + 1) (by omega) w hT) w hT

set_option maxHeartbeats 8000000 in
set_option maxRecDepth 100000 in
theorem ag_70 {D : va_G} {y : Nat → ClassId} {f : Nat → Int32} {X : zX} {o : Nat} {sv : Option (Nat → Int32)} {k0 : Nat} (G : zG D y X cL_areGuests RL ({ frames := 6, cells := 0, slots := 0, locals := 140 }) 11 wsL_areGuests) {T : Nat} (h : JV f T) {j : Nat} (lj : j < 9) (IH : (∀ w : va_W, TW y o f sv k0 w → zV D X w 0 0 70 [(0, .ref (o)), (1, .int (orI (gs f) 9)), (2, .int (nI (cnt (gs f) (j + 1)))), (3, .int (sumI (owd f) (j + 1))), (4, .int (orI (psP f) (j + 1))), (5, .int (nI (1))), (6, .int (nI (j + 1)))] [])) (w : va_W) (hT : TW y o f sv k0 w) : zV D X w 0 0 70 [(0, .ref (o)), (1, .int (orI (gs f) 9)), (2, .int (nI (cnt (gs f) j))), (3, .int (sumI (owd f) j)), (4, .int (orI (psP f) j)), (5, .int (nI (1))), (6, .int (nI (j)))] [] := by
  refine z_iload G dL_areGuests_70 6 rfl ?_
  refine z_bipush (v := nI 9) G dL_areGuests_72 rfl ?_
  refine z_icmp_geF G dL_areGuests_74 456 (by decide) (nI_ge lj (by decide)) ?_
  refine z_iload G dL_areGuests_77 5 rfl ?_
  refine z_if_eqF G dL_areGuests_79 456 (by decide) (by decide) ?_
  refine z_iload_n G dL_areGuests_82 1 rfl ?_
  refine z_iload G dL_areGuests_83 6 rfl ?_
  refine z_ishr G dL_areGuests_85 ?_
  refine z_iconst (v := nI 1) G dL_areGuests_86 rfl ?_
  refine z_iand G dL_areGuests_87 ?_
  cases sg : gs f j
  · refine z_if_neF G dL_areGuests_88 122 (by decide) (bit_f lj sg) ?_
    refine z_aload_n G dL_areGuests_91 0 rfl ?_
    refine z_iload G dL_areGuests_92 6 rfl ?_
    refine z_iconst (v := nI 0) G dL_areGuests_94 rfl ?_
    refine z_q (As := [_, _]) G (lc_of h.iv (nI (j)) (nI (0))) hT k_X5_of gL_areGuests_X5_of rfl dL_areGuests_95 ⟨by decide, by decide⟩ ⟨rfl, rfl⟩ ⟨Nat.zero_le _, Nat.zero_le _⟩ rfl (Nat.le_of_ble_eq_true rfl) rfl ?_
    intro w hT
    refine z_iconst (v := (-1)) G dL_areGuests_98 rfl ?_
    refine z_icmp_neF G dL_areGuests_99 116 (by decide) (of_f lj sg _) ?_
    refine z_aload_n G dL_areGuests_102 0 rfl ?_
    refine z_iload G dL_areGuests_103 6 rfl ?_
    refine z_q (As := [_]) G (lc_why h.iv (nI (j))) hT k_X5_why gL_areGuests_X5_why rfl dL_areGuests_105 ⟨by decide, by decide⟩ ⟨rfl, rfl⟩ ⟨Nat.zero_le _, Nat.zero_le _⟩ rfl (Nat.le_of_ble_eq_true rfl) rfl ?_
    intro w hT
    refine z_iconst (v := (-1)) G dL_areGuests_108 rfl ?_
    refine z_icmp_neF G dL_areGuests_109 116 (by decide) (wh_f lj sg) ?_
    refine z_iconst (v := nI 1) G dL_areGuests_112 rfl ?_
    refine z_goto (tgt := 117) G dL_areGuests_113 (by decide) ?_
    refine z_istore G dL_areGuests_117 (by decide) 5 rfl ?_
    refine z_goto (tgt := 450) G dL_areGuests_119 (by decide) ?_
    refine z_iinc G dL_areGuests_450 6 rfl (nI (j + 1)) (nI_inc _) (by decide) rfl ?_
    refine z_goto (tgt := 70) G dL_areGuests_453 (by decide) ?_
    refine z_lv (lv' := [(0, .ref (o)), (1, .int (orI (gs f) 9)), (2, .int (nI (cnt (gs f) (j + 1)))), (3, .int (sumI (owd f) (j + 1))), (4, .int (orI (psP f) (j + 1))), (5, .int (nI (1))), (6, .int (nI (j + 1)))]) (by rw [cnt_f sg, sumI_z (owd_0 h.iv lj sg), orI_f (psP_n sg)]; try rfl) ?_
    exact IH w hT
  · refine z_if_neT G dL_areGuests_88 122 (by decide) (by rw [bit_t lj sg]; decide) ?_
    refine z_iconst (v := nI 0) G dL_areGuests_122 rfl ?_
    refine z_istoreA G dL_areGuests_123 (by decide) rfl ?_
    refine z_iconst (v := nI 0) G dL_areGuests_125 rfl ?_
    refine z_istoreA G dL_areGuests_126 (by decide) rfl ?_
    refine z_iconst (v := nI 0) G dL_areGuests_128 rfl ?_
    refine z_istoreA G dL_areGuests_129 (by decide) rfl ?_
    refine z_iinc G dL_areGuests_131 2 rfl (nI (cnt (gs f) j + 1)) (nI_inc _) (by decide) rfl ?_
    refine z_iconst (v := nI 0) G dL_areGuests_134 rfl ?_
    refine z_istoreA G dL_areGuests_135 (by decide) rfl ?_
    exact ag_lo G h lj sg IH 9 0 rfl w hT

set_option maxHeartbeats 8000000 in
set_option maxRecDepth 100000 in
theorem ag_456 {D : va_G} {y : Nat → ClassId} {f : Nat → Int32} {X : zX} {o : Nat} {sv : Option (Nat → Int32)} {k0 : Nat} (G : zG D y X cL_areGuests RL ({ frames := 6, cells := 0, slots := 0, locals := 140 }) 11 wsL_areGuests) {T : Nat} (h : JV f T) (hE : HE D X cL_areGuests ({ frames := 6, cells := 0, slots := 0, locals := 140 }) (fun r w => r = nI 1 ∧ TW y o f sv k0 w)) (w : va_W) (hT : TW y o f sv k0 w) : zV D X w 0 0 456 [(0, .ref (o)), (1, .int (orI (gs f) 9)), (2, .int (nI (cnt (gs f) 9))), (3, .int (sumI (owd f) 9)), (4, .int (orI (psP f) 9)), (5, .int (nI (1))), (6, .int (nI (9)))] [] := by
  refine z_iload G dL_areGuests_456 5 rfl ?_
  refine z_if_eqF G dL_areGuests_458 543 (by decide) (by decide) ?_
  refine z_iload_n G dL_areGuests_461 2 rfl ?_
  refine z_aload_n G dL_areGuests_462 0 rfl ?_
  refine z_iconst (v := nI 1) G dL_areGuests_463 rfl ?_
  refine z_q (As := [_]) G (lc_count h.iv (nI (1)) (by decide) (by decide)) hT k_X5_count gL_areGuests_X5_count rfl dL_areGuests_464 ⟨by decide, by decide⟩ ⟨rfl, rfl⟩ ⟨Nat.zero_le _, Nat.zero_le _⟩ rfl (Nat.le_of_ble_eq_true rfl) rfl ?_
  intro w hT
  refine z_top (w := .int (nI (ng f))) (congrArg Value.int (cow_1 f)) ?_
  refine z_icmp_neF G dL_areGuests_467 543 (by decide) rfl ?_
  refine z_iload_n G dL_areGuests_470 3 rfl ?_
  refine z_aload_n G dL_areGuests_471 0 rfl ?_
  refine z_iconst (v := nI 4) G dL_areGuests_472 rfl ?_
  refine z_q (As := [_]) G (lc_count h.iv (nI (4)) (by decide) (by decide)) hT k_X5_count gL_areGuests_X5_count rfl dL_areGuests_473 ⟨by decide, by decide⟩ ⟨rfl, rfl⟩ ⟨Nat.zero_le _, Nat.zero_le _⟩ rfl (Nat.le_of_ble_eq_true rfl) rfl ?_
  intro w hT
  refine z_top (w := .int (owa f)) (congrArg Value.int (cow_4 f)) ?_
  refine z_icmp_neF G dL_areGuests_476 543 (by decide) (owa_eq f) ?_
  refine z_iload G dL_areGuests_479 4 rfl ?_
  refine z_aload_n G dL_areGuests_481 0 rfl ?_
  refine z_bipush (v := nI 12) G dL_areGuests_482 rfl ?_
  refine z_q (As := [_]) G (lc_count h.iv (nI (12)) (by decide) (by decide)) hT k_X5_count gL_areGuests_X5_count rfl dL_areGuests_484 ⟨by decide, by decide⟩ ⟨rfl, rfl⟩ ⟨Nat.zero_le _, Nat.zero_le _⟩ rfl (Nat.le_of_ble_eq_true rfl) rfl ?_
  intro w hT
  refine z_top (w := .int (orI (psP f) 9)) (congrArg Value.int (cow_12 f)) ?_
  refine z_icmp_neF G dL_areGuests_487 543 (by decide) rfl ?_
  refine z_aload_n G dL_areGuests_490 0 rfl ?_
  refine z_bipush (v := nI 8) G dL_areGuests_491 rfl ?_
  refine z_q (As := [_]) G (lc_count h.iv (nI (8)) (by decide) (by decide)) hT k_X5_count gL_areGuests_X5_count rfl dL_areGuests_493 ⟨by decide, by decide⟩ ⟨rfl, rfl⟩ ⟨Nat.zero_le _, Nat.zero_le _⟩ rfl (Nat.le_of_ble_eq_true rfl) rfl ?_
  intro w hT
  refine z_top (w := .int (f 10)) (congrArg Value.int (cow_8 f)) ?_
  refine z_iload_n G dL_areGuests_496 3 rfl ?_
  refine z_aload_n G dL_areGuests_497 0 rfl ?_
  refine z_iconst (v := nI 5) G dL_areGuests_498 rfl ?_
  refine z_q (As := [_]) G (lc_count h.iv (nI (5)) (by decide) (by decide)) hT k_X5_count gL_areGuests_X5_count rfl dL_areGuests_499 ⟨by decide, by decide⟩ ⟨rfl, rfl⟩ ⟨Nat.zero_le _, Nat.zero_le _⟩ rfl (Nat.le_of_ble_eq_true rfl) rfl ?_
  intro w hT
  refine z_top (w := .int (f 7)) (congrArg Value.int (cow_5 f)) ?_
  refine z_iadd G dL_areGuests_502 ?_
  refine z_aload_n G dL_areGuests_503 0 rfl ?_
  refine z_bipush (v := nI 6) G dL_areGuests_504 rfl ?_
  refine z_q (As := [_]) G (lc_count h.iv (nI (6)) (by decide) (by decide)) hT k_X5_count gL_areGuests_X5_count rfl dL_areGuests_506 ⟨by decide, by decide⟩ ⟨rfl, rfl⟩ ⟨Nat.zero_le _, Nat.zero_le _⟩ rfl (Nat.le_of_ble_eq_true rfl) rfl ?_
  intro w hT
  refine z_top (w := .int (f 8)) (congrArg Value.int (cow_6 f)) ?_
  refine z_iadd G dL_areGuests_509 ?_
  refine z_aload_n G dL_areGuests_510 0 rfl ?_
  refine z_bipush (v := nI 7) G dL_areGuests_511 rfl ?_
  refine z_q (As := [_]) G (lc_count h.iv (nI (7)) (by decide) (by decide)) hT k_X5_count gL_areGuests_X5_count rfl dL_areGuests_513 ⟨by decide, by decide⟩ ⟨rfl, rfl⟩ ⟨Nat.zero_le _, Nat.zero_le _⟩ rfl (Nat.le_of_ble_eq_true rfl) rfl ?_
  intro w hT
  refine z_top (w := .int (f 9)) (congrArg Value.int (cow_7 f)) ?_
  refine z_iadd G dL_areGuests_516 ?_
  refine z_icmp_neF G dL_areGuests_517 543 (by decide) (by rw [owa_eq]; exact h.js) ?_
  refine z_aload_n G dL_areGuests_520 0 rfl ?_
  refine z_iconst (v := nI 0) G dL_areGuests_521 rfl ?_
  refine z_q (As := [_]) G (lc_silent h.iv (nI (0))) hT k_X5_silent gL_areGuests_X5_silent rfl dL_areGuests_522 ⟨by decide, by decide⟩ ⟨rfl, rfl⟩ ⟨Nat.zero_le _, Nat.zero_le _⟩ rfl (Nat.le_of_ble_eq_true rfl) rfl ?_
  intro w hT
  refine z_iload_n G dL_areGuests_525 2 rfl ?_
  refine z_icmp_neF G dL_areGuests_526 543 (by decide) (sb_0 h) ?_
  refine z_aload_n G dL_areGuests_529 0 rfl ?_
  refine z_iconst (v := (-1)) G dL_areGuests_530 rfl ?_
  refine z_q (As := [_]) G (lc_silent h.iv ((-1))) hT k_X5_silent gL_areGuests_X5_silent rfl dL_areGuests_531 ⟨by decide, by decide⟩ ⟨rfl, rfl⟩ ⟨Nat.zero_le _, Nat.zero_le _⟩ rfl (Nat.le_of_ble_eq_true rfl) rfl ?_
  intro w hT
  refine z_bipush (v := (-2)) G dL_areGuests_534 rfl ?_
  refine z_icmp_neF G dL_areGuests_536 543 (by decide) sb_m ?_
  refine z_iconst (v := nI 1) G dL_areGuests_539 rfl ?_
  refine z_goto (tgt := 544) G dL_areGuests_540 (by decide) ?_
  exact hE _ _ _ _ dL_areGuests_544 rfl ⟨rfl, hT⟩

set_option maxHeartbeats 8000000 in
set_option maxRecDepth 100000 in
theorem ag_all {D : va_G} {y : Nat → ClassId} {f : Nat → Int32} {X : zX} {o : Nat} {sv : Option (Nat → Int32)} {k0 : Nat} (G : zG D y X cL_areGuests RL ({ frames := 6, cells := 0, slots := 0, locals := 140 }) 11 wsL_areGuests) {T : Nat} (h : JV f T) (hE : HE D X cL_areGuests ({ frames := 6, cells := 0, slots := 0, locals := 140 }) (fun r w => r = nI 1 ∧ TW y o f sv k0 w)) : ∀ n j : Nat, n + j = 9 → ∀ w : va_W, TW y o f sv k0 w → zV D X w 0 0 70 [(0, .ref (o)), (1, .int (orI (gs f) 9)), (2, .int (nI (cnt (gs f) j))), (3, .int (sumI (owd f) j)), (4, .int (orI (psP f) j)), (5, .int (nI (1))), (6, .int (nI (j)))] [] := by
  intro n
  induction n with
  | zero =>
    intro j hj w hT
    obtain rfl : j = 9 := by omega
    refine z_iload G dL_areGuests_70 6 rfl ?_
    refine z_bipush (v := nI 9) G dL_areGuests_72 rfl ?_
    refine z_icmp_geT G dL_areGuests_74 456 (by decide) (nI_le (Nat.le_refl _) (by decide)) ?_
    exact ag_456 G h hE w hT
  | succ n ih =>
    intro j hj w hT
    exact ag_70 G h (by omega) (fun w hT => ih (j + 1) (by omega) w hT) w hT

theorem k_L_areGuests : zCal yL_areGuests wsL_areGuests cL_areGuests 11 (some .boolean) 1 := ⟨⟨_, rfl⟩, by decide +kernel⟩
set_option maxHeartbeats 8000000 in
set_option maxRecDepth 100000 in
theorem c_L_areGuests {D : va_G} {y : Nat → ClassId} {f : Nat → Int32} {T : Nat} (h : JV f T) : LC D y yL_areGuests wsL_areGuests ({ frames := 6, cells := 0, slots := 0, locals := 140 }) [] f (nI 1) (f) := by
  intro o sv k0 w hT l
  refine zMi.mk (cc := cL_areGuests) (maxL := 11) (lv := [(0, .ref (o))]) (by decide) rfl (Nat.le_of_ble_eq_true rfl) rfl (fun X G hE => ?_)
  refine z_aload_n G dL_areGuests_0 0 rfl ?_
  refine z_bipush (v := nI 11) G dL_areGuests_1 rfl ?_
  refine z_q (As := [_]) G (lc_count h.iv (nI (11)) (by decide) (by decide)) hT k_X5_count gL_areGuests_X5_count rfl dL_areGuests_3 ⟨by decide, by decide⟩ ⟨rfl, rfl⟩ ⟨Nat.zero_le _, Nat.zero_le _⟩ rfl (Nat.le_of_ble_eq_true rfl) rfl ?_
  intro w hT
  refine z_top (w := .int (orI (gs f) 9)) (congrArg Value.int (cow_11 f)) ?_
  refine z_istore_nA G dL_areGuests_6 rfl (by decide) rfl ?_
  refine z_iconst (v := nI 0) G dL_areGuests_7 rfl ?_
  refine z_istore_nA G dL_areGuests_8 rfl (by decide) rfl ?_
  refine z_iconst (v := nI 0) G dL_areGuests_9 rfl ?_
  refine z_istore_nA G dL_areGuests_10 rfl (by decide) rfl ?_
  refine z_iconst (v := nI 0) G dL_areGuests_11 rfl ?_
  refine z_istoreA G dL_areGuests_12 (by decide) rfl ?_
  refine z_aload_n G dL_areGuests_14 0 rfl ?_
  refine z_bipush (v := nI 9) G dL_areGuests_15 rfl ?_
  refine z_iconst (v := nI 0) G dL_areGuests_17 rfl ?_
  refine z_q (As := [_, _]) G (lc_of h.iv (nI (9)) (nI (0))) hT k_X5_of gL_areGuests_X5_of rfl dL_areGuests_18 ⟨by decide, by decide⟩ ⟨rfl, rfl⟩ ⟨Nat.zero_le _, Nat.zero_le _⟩ rfl (Nat.le_of_ble_eq_true rfl) rfl ?_
  intro w hT
  refine z_iconst (v := (-1)) G dL_areGuests_21 rfl ?_
  refine z_icmp_neF G dL_areGuests_22 64 (by decide) (of_9 f _) ?_
  refine z_aload_n G dL_areGuests_25 0 rfl ?_
  refine z_aload_n G dL_areGuests_26 0 rfl ?_
  refine z_iconst (v := nI 1) G dL_areGuests_27 rfl ?_
  refine z_q (As := [_]) G (lc_count h.iv (nI (1)) (by decide) (by decide)) hT k_X5_count gL_areGuests_X5_count rfl dL_areGuests_28 ⟨by decide, by decide⟩ ⟨rfl, rfl⟩ ⟨Nat.zero_le _, Nat.zero_le _⟩ rfl (Nat.le_of_ble_eq_true rfl) rfl ?_
  intro w hT
  refine z_top (w := .int (nI (ng f))) (congrArg Value.int (cow_1 f)) ?_
  refine z_q (As := [_]) G (lc_at h.iv (nI (ng f))) hT k_X5_at gL_areGuests_X5_at rfl dL_areGuests_31 ⟨by decide, by decide⟩ ⟨rfl, rfl⟩ ⟨Nat.zero_le _, Nat.zero_le _⟩ rfl (Nat.le_of_ble_eq_true rfl) rfl ?_
  intro w hT
  refine z_iconst (v := (-1)) G dL_areGuests_34 rfl ?_
  refine z_icmp_neF G dL_areGuests_35 64 (by decide) (ag_at h.iv) ?_
  refine z_aload_n G dL_areGuests_38 0 rfl ?_
  refine z_aload_n G dL_areGuests_39 0 rfl ?_
  refine z_iconst (v := nI 1) G dL_areGuests_40 rfl ?_
  refine z_q (As := [_]) G (lc_count h.iv (nI (1)) (by decide) (by decide)) hT k_X5_count gL_areGuests_X5_count rfl dL_areGuests_41 ⟨by decide, by decide⟩ ⟨rfl, rfl⟩ ⟨Nat.zero_le _, Nat.zero_le _⟩ rfl (Nat.le_of_ble_eq_true rfl) rfl ?_
  intro w hT
  refine z_top (w := .int (nI (ng f))) (congrArg Value.int (cow_1 f)) ?_
  refine z_q (As := [_]) G (lc_ranked h.iv (nI (ng f))) hT k_X5_ranked gL_areGuests_X5_ranked rfl dL_areGuests_44 ⟨by decide, by decide⟩ ⟨rfl, rfl⟩ ⟨Nat.zero_le _, Nat.zero_le _⟩ rfl (Nat.le_of_ble_eq_true rfl) rfl ?_
  intro w hT
  refine z_iconst (v := (-1)) G dL_areGuests_47 rfl ?_
  refine z_icmp_neF G dL_areGuests_48 64 (by decide) (ag_rk f) ?_
  refine z_aload_n G dL_areGuests_51 0 rfl ?_
  refine z_iconst (v := (-1)) G dL_areGuests_52 rfl ?_
  refine z_q (As := [_]) G (lc_at h.iv ((-1))) hT k_X5_at gL_areGuests_X5_at rfl dL_areGuests_53 ⟨by decide, by decide⟩ ⟨rfl, rfl⟩ ⟨Nat.zero_le _, Nat.zero_le _⟩ rfl (Nat.le_of_ble_eq_true rfl) rfl ?_
  intro w hT
  refine z_iconst (v := (-1)) G dL_areGuests_56 rfl ?_
  refine z_icmp_neF G dL_areGuests_57 64 (by decide) (ag_m1 h.iv) ?_
  refine z_iconst (v := nI 1) G dL_areGuests_60 rfl ?_
  refine z_goto (tgt := 65) G dL_areGuests_61 (by decide) ?_
  refine z_istoreA G dL_areGuests_65 (by decide) rfl ?_
  refine z_iconst (v := nI 0) G dL_areGuests_67 rfl ?_
  refine z_istoreA G dL_areGuests_68 (by decide) rfl ?_
  exact ag_all G h hE 9 0 rfl w hT
