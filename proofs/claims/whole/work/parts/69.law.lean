set_option maxHeartbeats 4000000 in
set_option maxRecDepth 100000 in
theorem lo_set {D : va_G} {y : Nat → ClassId} {X : zX} {e A : Nat → Nat → Nat} {b : Nat → Nat} {bb L j : Nat} {xs : Nat → Int32} {R Q : Nat → Nat → Int32} {b0 b1 : Bool} {nx kp : Nat} {Gr K : Nat → Nat → Int32} {t : Nat → Int32} {len : Nat} {s : Nat → Int32} {q : mdQ} (G : zG D y X cL_law RL room_1 4 wsL_law) {ms : Nat} (hZ : zSX ms X) (hX : scX bb L xs X) (hL : L ≤ 1536) (hj : 3 * j + 3 ≤ L) (h : LK R Gr b0 b1 nx kp t len s q) (IH : LI D y X e A b bb (j + 1)) : zV D X (tsW y e A R Q b0 b1 nx kp Gr K t len ++ mdW y b s q) 150 4112 156 [(0, .ref bb), (1, .ref (e 0 0)), (2, .ref (b 0)), (3, .int (nI (3 * j)))] [] := by
  obtain rfl : R 1 = s := h.1.1
  have hi : IV (R 1) := h.1.2
  obtain rfl : q_pad q = t := h.2.1.1
  have hlen := h.2.1.2.1
  have h80 := h.2.1.2.2
  have hn := h.2.2.1.1
  have hk := h.2.2.1.2.1
  have hst := h.2.2.1.2.2.1
  refine z_aload_n G dL_law_156 1 rfl ?_
  refine z_aload_n G dL_law_157 0 rfl ?_
  refine z_iload_n G dL_law_158 3 rfl ?_
  refine z_iconst (v := nI 1) G dL_law_159 rfl ?_
  refine z_iaddN G dL_law_160 (1 + 3 * j) (by omega) ?_
  refine z_sld G hX (i := 1 + 3 * j) (by omega) hL dL_law_161 ?_
  refine z_aload_n G dL_law_162 0 rfl ?_
  refine z_iload_n G dL_law_163 3 rfl ?_
  refine z_iconst (v := nI 2) G dL_law_164 rfl ?_
  refine z_iaddN G dL_law_165 (2 + 3 * j) (by omega) ?_
  refine z_sld G hX (i := 2 + 3 * j) (by omega) hL dL_law_166 ?_
  refine z_pViS hZ (As := [_, _]) G _ _ _ (fun l => c_X5_set l D y ms e A R Q b0 b1 nx kp Gr K (q_pad q) len hn hk (xs (1 + 3 * j)) (xs (2 + 3 * j))) k_X5_set gL_law_X5_set 0 5 rfl rfl rfl dL_law_167 ⟨by decide, by decide⟩ ⟨rfl, rfl⟩ ⟨Nat.le_of_ble_eq_true rfl, Nat.le_of_ble_eq_true rfl⟩ rfl (Nat.le_of_ble_eq_true rfl) rfl (List.Perm.refl _) (List.Perm.refl _) ?_
  refine z_aload_n G dL_law_170 2 rfl ?_
  refine z_aload_n G dL_law_171 0 rfl ?_
  refine z_iload_n G dL_law_172 3 rfl ?_
  refine z_iconst (v := nI 1) G dL_law_173 rfl ?_
  refine z_iaddN G dL_law_174 (1 + 3 * j) (by omega) ?_
  refine z_sld G hX (i := 1 + 3 * j) (by omega) hL dL_law_175 ?_
  refine z_aload_n G dL_law_176 0 rfl ?_
  refine z_iload_n G dL_law_177 3 rfl ?_
  refine z_iconst (v := nI 2) G dL_law_178 rfl ?_
  refine z_iaddN G dL_law_179 (2 + 3 * j) (by omega) ?_
  refine z_sld G hX (i := 2 + 3 * j) (by omega) hL dL_law_180 ?_
  refine z_pVi (As := [_, _]) G _ _ _ (fun l => c_X6_set l D y b (R 1) q hst hk (xs (1 + 3 * j)) (xs (2 + 3 * j))) k_X6_set gL_law_X6_set 0 6 rfl rfl rfl dL_law_181 ⟨by decide, by decide⟩ ⟨rfl, rfl⟩ ⟨Nat.le_of_ble_eq_true rfl, Nat.le_of_ble_eq_true rfl⟩ rfl (Nat.le_of_ble_eq_true rfl) rfl List.perm_append_comm List.perm_append_comm ?_
  refine z_icmp_eqT G dL_law_184 797 (by decide) rfl ?_
  exact lw_nx G (IH _ _ _ _ _ _ _ _ _ _ _ _ (LK_set h (xs (1 + 3 * j)) (xs (2 + 3 * j))))

set_option maxHeartbeats 4000000 in
set_option maxRecDepth 100000 in
theorem lo_guest {D : va_G} {y : Nat → ClassId} {X : zX} {e A : Nat → Nat → Nat} {b : Nat → Nat} {bb L j : Nat} {xs : Nat → Int32} {R Q : Nat → Nat → Int32} {b0 b1 : Bool} {nx kp : Nat} {Gr K : Nat → Nat → Int32} {t : Nat → Int32} {len : Nat} {s : Nat → Int32} {q : mdQ} (G : zG D y X cL_law RL room_1 4 wsL_law) (hX : scX bb L xs X) (hL : L ≤ 1536) (hj : 3 * j + 3 ≤ L) (h : LK R Gr b0 b1 nx kp t len s q) (IH : LI D y X e A b bb (j + 1)) : zV D X (tsW y e A R Q b0 b1 nx kp Gr K t len ++ mdW y b s q) 150 4112 189 [(0, .ref bb), (1, .ref (e 0 0)), (2, .ref (b 0)), (3, .int (nI (3 * j)))] [] := by
  obtain rfl : R 1 = s := h.1.1
  have hi : IV (R 1) := h.1.2
  obtain rfl : q_pad q = t := h.2.1.1
  have hlen := h.2.1.2.1
  have h80 := h.2.1.2.2
  have hn := h.2.2.1.1
  have hk := h.2.2.1.2.1
  have hst := h.2.2.1.2.2.1
  refine z_aload_n G dL_law_189 1 rfl ?_
  refine z_aload_n G dL_law_190 0 rfl ?_
  refine z_iload_n G dL_law_191 3 rfl ?_
  refine z_iconst (v := nI 1) G dL_law_192 rfl ?_
  refine z_iaddN G dL_law_193 (1 + 3 * j) (by omega) ?_
  refine z_sld G hX (i := 1 + 3 * j) (by omega) hL dL_law_194 ?_
  refine z_pVi (As := [_]) G _ _ _ (fun l => c_X5_guest l D y e A R Q b0 b1 nx kp Gr K (q_pad q) len hi hn hk (xs (1 + 3 * j))) k_X5_guest gL_law_X5_guest 0 5 rfl rfl rfl dL_law_195 ⟨by decide, by decide⟩ ⟨rfl, rfl⟩ ⟨Nat.le_of_ble_eq_true rfl, Nat.le_of_ble_eq_true rfl⟩ rfl (Nat.le_of_ble_eq_true rfl) rfl (List.Perm.refl _) (List.Perm.refl _) ?_
  refine z_aload_n G dL_law_198 2 rfl ?_
  refine z_aload_n G dL_law_199 0 rfl ?_
  refine z_iload_n G dL_law_200 3 rfl ?_
  refine z_iconst (v := nI 1) G dL_law_201 rfl ?_
  refine z_iaddN G dL_law_202 (1 + 3 * j) (by omega) ?_
  refine z_sld G hX (i := 1 + 3 * j) (by omega) hL dL_law_203 ?_
  refine z_pVi (As := [_]) G _ _ _ (fun l => c_X6_guest l D y b (R 1) q hst hk hi.pf hi.zr (xs (1 + 3 * j))) k_X6_guest gL_law_X6_guest 0 6 rfl rfl rfl dL_law_204 ⟨by decide, by decide⟩ ⟨rfl, rfl⟩ ⟨Nat.le_of_ble_eq_true rfl, Nat.le_of_ble_eq_true rfl⟩ rfl (Nat.le_of_ble_eq_true rfl) rfl List.perm_append_comm List.perm_append_comm ?_
  refine z_icmp_eqT G dL_law_207 797 (by decide) rfl ?_
  exact lw_nx G (IH _ _ _ _ _ _ _ _ _ _ _ _ (LK_ch h (IV_co hi (xs (1 + 3 * j))) _))

set_option maxHeartbeats 4000000 in
set_option maxRecDepth 100000 in
theorem lo_leave {D : va_G} {y : Nat → ClassId} {X : zX} {e A : Nat → Nat → Nat} {b : Nat → Nat} {bb L j : Nat} {xs : Nat → Int32} {R Q : Nat → Nat → Int32} {b0 b1 : Bool} {nx kp : Nat} {Gr K : Nat → Nat → Int32} {t : Nat → Int32} {len : Nat} {s : Nat → Int32} {q : mdQ} (G : zG D y X cL_law RL room_1 4 wsL_law) (hX : scX bb L xs X) (hL : L ≤ 1536) (hj : 3 * j + 3 ≤ L) (h : LK R Gr b0 b1 nx kp t len s q) (IH : LI D y X e A b bb (j + 1)) : zV D X (tsW y e A R Q b0 b1 nx kp Gr K t len ++ mdW y b s q) 150 4112 212 [(0, .ref bb), (1, .ref (e 0 0)), (2, .ref (b 0)), (3, .int (nI (3 * j)))] [] := by
  obtain rfl : R 1 = s := h.1.1
  have hi : IV (R 1) := h.1.2
  obtain rfl : q_pad q = t := h.2.1.1
  have hlen := h.2.1.2.1
  have h80 := h.2.1.2.2
  have hn := h.2.2.1.1
  have hk := h.2.2.1.2.1
  have hst := h.2.2.1.2.2.1
  refine z_aload_n G dL_law_212 1 rfl ?_
  refine z_aload_n G dL_law_213 0 rfl ?_
  refine z_iload_n G dL_law_214 3 rfl ?_
  refine z_iconst (v := nI 1) G dL_law_215 rfl ?_
  refine z_iaddN G dL_law_216 (1 + 3 * j) (by omega) ?_
  refine z_sld G hX (i := 1 + 3 * j) (by omega) hL dL_law_217 ?_
  refine z_pVi (As := [_]) G _ _ _ (fun l => c_X5_leave l D y e A R Q b0 b1 nx kp Gr K (q_pad q) len hi hn hk (xs (1 + 3 * j))) k_X5_leave gL_law_X5_leave 0 5 rfl rfl rfl dL_law_218 ⟨by decide, by decide⟩ ⟨rfl, rfl⟩ ⟨Nat.le_of_ble_eq_true rfl, Nat.le_of_ble_eq_true rfl⟩ rfl (Nat.le_of_ble_eq_true rfl) rfl (List.Perm.refl _) (List.Perm.refl _) ?_
  refine z_aload_n G dL_law_221 2 rfl ?_
  refine z_aload_n G dL_law_222 0 rfl ?_
  refine z_iload_n G dL_law_223 3 rfl ?_
  refine z_iconst (v := nI 1) G dL_law_224 rfl ?_
  refine z_iaddN G dL_law_225 (1 + 3 * j) (by omega) ?_
  refine z_sld G hX (i := 1 + 3 * j) (by omega) hL dL_law_226 ?_
  refine z_pVi (As := [_]) G _ _ _ (fun l => c_X6_leave l D y b (R 1) q hst hk hi.pf hi.zr hi.sn (xs (1 + 3 * j))) k_X6_leave gL_law_X6_leave 0 6 rfl rfl rfl dL_law_227 ⟨by decide, by decide⟩ ⟨rfl, rfl⟩ ⟨Nat.le_of_ble_eq_true rfl, Nat.le_of_ble_eq_true rfl⟩ rfl (Nat.le_of_ble_eq_true rfl) rfl List.perm_append_comm List.perm_append_comm ?_
  refine z_icmp_eqT G dL_law_230 797 (by decide) rfl ?_
  exact lw_nx G (IH _ _ _ _ _ _ _ _ _ _ _ _ (LK_ch h (IV_le hi (xs (1 + 3 * j))) _))

set_option maxHeartbeats 4000000 in
set_option maxRecDepth 100000 in
theorem lo_word {D : va_G} {y : Nat → ClassId} {X : zX} {e A : Nat → Nat → Nat} {b : Nat → Nat} {bb L j : Nat} {xs : Nat → Int32} {R Q : Nat → Nat → Int32} {b0 b1 : Bool} {nx kp : Nat} {Gr K : Nat → Nat → Int32} {t : Nat → Int32} {len : Nat} {s : Nat → Int32} {q : mdQ} (G : zG D y X cL_law RL room_1 4 wsL_law) (hX : scX bb L xs X) (hL : L ≤ 1536) (hj : 3 * j + 3 ≤ L) (h : LK R Gr b0 b1 nx kp t len s q) (IH : LI D y X e A b bb (j + 1)) : zV D X (tsW y e A R Q b0 b1 nx kp Gr K t len ++ mdW y b s q) 150 4112 235 [(0, .ref bb), (1, .ref (e 0 0)), (2, .ref (b 0)), (3, .int (nI (3 * j)))] [] := by
  obtain rfl : R 1 = s := h.1.1
  have hi : IV (R 1) := h.1.2
  obtain rfl : q_pad q = t := h.2.1.1
  have hlen := h.2.1.2.1
  have h80 := h.2.1.2.2
  have hn := h.2.2.1.1
  have hk := h.2.2.1.2.1
  have hst := h.2.2.1.2.2.1
  refine z_aload_n G dL_law_235 1 rfl ?_
  refine z_aload_n G dL_law_236 0 rfl ?_
  refine z_iload_n G dL_law_237 3 rfl ?_
  refine z_iconst (v := nI 1) G dL_law_238 rfl ?_
  refine z_iaddN G dL_law_239 (1 + 3 * j) (by omega) ?_
  refine z_sld G hX (i := 1 + 3 * j) (by omega) hL dL_law_240 ?_
  refine z_pVi (As := [_]) G _ _ _ (fun l => c_X5_word l D y e A R Q b0 b1 nx kp Gr K (q_pad q) len hi hn hk (xs (1 + 3 * j))) k_X5_word gL_law_X5_word 0 5 rfl rfl rfl dL_law_241 ⟨by decide, by decide⟩ ⟨rfl, rfl⟩ ⟨Nat.le_of_ble_eq_true rfl, Nat.le_of_ble_eq_true rfl⟩ rfl (Nat.le_of_ble_eq_true rfl) rfl (List.Perm.refl _) (List.Perm.refl _) ?_
  refine z_aload_n G dL_law_244 2 rfl ?_
  refine z_aload_n G dL_law_245 0 rfl ?_
  refine z_iload_n G dL_law_246 3 rfl ?_
  refine z_iconst (v := nI 1) G dL_law_247 rfl ?_
  refine z_iaddN G dL_law_248 (1 + 3 * j) (by omega) ?_
  refine z_sld G hX (i := 1 + 3 * j) (by omega) hL dL_law_249 ?_
  refine z_pVi (As := [_]) G _ _ _ (fun l => c_X6_word l D y b (R 1) q hst hk (xs (1 + 3 * j))) k_X6_word gL_law_X6_word 0 6 rfl rfl rfl dL_law_250 ⟨by decide, by decide⟩ ⟨rfl, rfl⟩ ⟨Nat.le_of_ble_eq_true rfl, Nat.le_of_ble_eq_true rfl⟩ rfl (Nat.le_of_ble_eq_true rfl) rfl List.perm_append_comm List.perm_append_comm ?_
  refine z_icmp_eqT G dL_law_253 797 (by decide) rfl ?_
  exact lw_nx G (IH _ _ _ _ _ _ _ _ _ _ _ _ (LK_ch h (IV_woR hi (xs (1 + 3 * j))) _))

set_option maxHeartbeats 4000000 in
set_option maxRecDepth 100000 in
theorem lo_bow {D : va_G} {y : Nat → ClassId} {X : zX} {e A : Nat → Nat → Nat} {b : Nat → Nat} {bb L j : Nat} {xs : Nat → Int32} {R Q : Nat → Nat → Int32} {b0 b1 : Bool} {nx kp : Nat} {Gr K : Nat → Nat → Int32} {t : Nat → Int32} {len : Nat} {s : Nat → Int32} {q : mdQ} (G : zG D y X cL_law RL room_1 4 wsL_law) (hX : scX bb L xs X) (hL : L ≤ 1536) (hj : 3 * j + 3 ≤ L) (h : LK R Gr b0 b1 nx kp t len s q) (IH : LI D y X e A b bb (j + 1)) : zV D X (tsW y e A R Q b0 b1 nx kp Gr K t len ++ mdW y b s q) 150 4112 258 [(0, .ref bb), (1, .ref (e 0 0)), (2, .ref (b 0)), (3, .int (nI (3 * j)))] [] := by
  obtain rfl : R 1 = s := h.1.1
  have hi : IV (R 1) := h.1.2
  obtain rfl : q_pad q = t := h.2.1.1
  have hlen := h.2.1.2.1
  have h80 := h.2.1.2.2
  have hn := h.2.2.1.1
  have hk := h.2.2.1.2.1
  have hst := h.2.2.1.2.2.1
  refine z_aload_n G dL_law_258 1 rfl ?_
  refine z_aload_n G dL_law_259 0 rfl ?_
  refine z_iload_n G dL_law_260 3 rfl ?_
  refine z_iconst (v := nI 1) G dL_law_261 rfl ?_
  refine z_iaddN G dL_law_262 (1 + 3 * j) (by omega) ?_
  refine z_sld G hX (i := 1 + 3 * j) (by omega) hL dL_law_263 ?_
  refine z_aload_n G dL_law_264 0 rfl ?_
  refine z_iload_n G dL_law_265 3 rfl ?_
  refine z_iconst (v := nI 2) G dL_law_266 rfl ?_
  refine z_iaddN G dL_law_267 (2 + 3 * j) (by omega) ?_
  refine z_sld G hX (i := 2 + 3 * j) (by omega) hL dL_law_268 ?_
  refine z_pVi (As := [_, _]) G _ _ _ (fun l => c_X5_bow l D y e A R Q b0 b1 nx kp Gr K (q_pad q) len hi hn hk (xs (1 + 3 * j)) (xs (2 + 3 * j))) k_X5_bow gL_law_X5_bow 0 5 rfl rfl rfl dL_law_269 ⟨by decide, by decide⟩ ⟨rfl, rfl⟩ ⟨Nat.le_of_ble_eq_true rfl, Nat.le_of_ble_eq_true rfl⟩ rfl (Nat.le_of_ble_eq_true rfl) rfl (List.Perm.refl _) (List.Perm.refl _) ?_
  refine z_aload_n G dL_law_272 2 rfl ?_
  refine z_aload_n G dL_law_273 0 rfl ?_
  refine z_iload_n G dL_law_274 3 rfl ?_
  refine z_iconst (v := nI 1) G dL_law_275 rfl ?_
  refine z_iaddN G dL_law_276 (1 + 3 * j) (by omega) ?_
  refine z_sld G hX (i := 1 + 3 * j) (by omega) hL dL_law_277 ?_
  refine z_aload_n G dL_law_278 0 rfl ?_
  refine z_iload_n G dL_law_279 3 rfl ?_
  refine z_iconst (v := nI 2) G dL_law_280 rfl ?_
  refine z_iaddN G dL_law_281 (2 + 3 * j) (by omega) ?_
  refine z_sld G hX (i := 2 + 3 * j) (by omega) hL dL_law_282 ?_
  refine z_pVi (As := [_, _]) G _ _ _ (fun l => c_X6_bow l D y b (R 1) q hst hk (xs (1 + 3 * j)) (xs (2 + 3 * j))) k_X6_bow gL_law_X6_bow 0 6 rfl rfl rfl dL_law_283 ⟨by decide, by decide⟩ ⟨rfl, rfl⟩ ⟨Nat.le_of_ble_eq_true rfl, Nat.le_of_ble_eq_true rfl⟩ rfl (Nat.le_of_ble_eq_true rfl) rfl List.perm_append_comm List.perm_append_comm ?_
  refine z_icmp_eqT G dL_law_286 797 (by decide) rfl ?_
  exact lw_nx G (IH _ _ _ _ _ _ _ _ _ _ _ _ (LK_ch h (IV_bo hi (xs (1 + 3 * j)) (xs (2 + 3 * j))) _))

set_option maxHeartbeats 4000000 in
set_option maxRecDepth 100000 in
theorem lo_offer {D : va_G} {y : Nat → ClassId} {X : zX} {e A : Nat → Nat → Nat} {b : Nat → Nat} {bb L j : Nat} {xs : Nat → Int32} {R Q : Nat → Nat → Int32} {b0 b1 : Bool} {nx kp : Nat} {Gr K : Nat → Nat → Int32} {t : Nat → Int32} {len : Nat} {s : Nat → Int32} {q : mdQ} (G : zG D y X cL_law RL room_1 4 wsL_law) (hX : scX bb L xs X) (hL : L ≤ 1536) (hj : 3 * j + 3 ≤ L) (h : LK R Gr b0 b1 nx kp t len s q) (IH : LI D y X e A b bb (j + 1)) : zV D X (tsW y e A R Q b0 b1 nx kp Gr K t len ++ mdW y b s q) 150 4112 291 [(0, .ref bb), (1, .ref (e 0 0)), (2, .ref (b 0)), (3, .int (nI (3 * j)))] [] := by
  obtain rfl : R 1 = s := h.1.1
  have hi : IV (R 1) := h.1.2
  obtain rfl : q_pad q = t := h.2.1.1
  have hlen := h.2.1.2.1
  have h80 := h.2.1.2.2
  have hn := h.2.2.1.1
  have hk := h.2.2.1.2.1
  have hst := h.2.2.1.2.2.1
  refine z_aload_n G dL_law_291 1 rfl ?_
  refine z_aload_n G dL_law_292 0 rfl ?_
  refine z_iload_n G dL_law_293 3 rfl ?_
  refine z_iconst (v := nI 1) G dL_law_294 rfl ?_
  refine z_iaddN G dL_law_295 (1 + 3 * j) (by omega) ?_
  refine z_sld G hX (i := 1 + 3 * j) (by omega) hL dL_law_296 ?_
  refine z_aload_n G dL_law_297 0 rfl ?_
  refine z_iload_n G dL_law_298 3 rfl ?_
  refine z_iconst (v := nI 2) G dL_law_299 rfl ?_
  refine z_iaddN G dL_law_300 (2 + 3 * j) (by omega) ?_
  refine z_sld G hX (i := 2 + 3 * j) (by omega) hL dL_law_301 ?_
  refine z_pVi (As := [_, _]) G _ _ _ (fun l => c_X5_offer l D y e A R Q b0 b1 nx kp Gr K (q_pad q) len hi hn hk (xs (1 + 3 * j)) (xs (2 + 3 * j))) k_X5_offer gL_law_X5_offer 0 5 rfl rfl rfl dL_law_302 ⟨by decide, by decide⟩ ⟨rfl, rfl⟩ ⟨Nat.le_of_ble_eq_true rfl, Nat.le_of_ble_eq_true rfl⟩ rfl (Nat.le_of_ble_eq_true rfl) rfl (List.Perm.refl _) (List.Perm.refl _) ?_
  refine z_aload_n G dL_law_305 2 rfl ?_
  refine z_aload_n G dL_law_306 0 rfl ?_
  refine z_iload_n G dL_law_307 3 rfl ?_
  refine z_iconst (v := nI 1) G dL_law_308 rfl ?_
  refine z_iaddN G dL_law_309 (1 + 3 * j) (by omega) ?_
  refine z_sld G hX (i := 1 + 3 * j) (by omega) hL dL_law_310 ?_
  refine z_aload_n G dL_law_311 0 rfl ?_
  refine z_iload_n G dL_law_312 3 rfl ?_
  refine z_iconst (v := nI 2) G dL_law_313 rfl ?_
  refine z_iaddN G dL_law_314 (2 + 3 * j) (by omega) ?_
  refine z_sld G hX (i := 2 + 3 * j) (by omega) hL dL_law_315 ?_
  refine z_pVi (As := [_, _]) G _ _ _ (fun l => c_X6_offer l D y b (R 1) q hst hk hi.pf hi.hc hi.hcm (xs (1 + 3 * j)) (xs (2 + 3 * j))) k_X6_offer gL_law_X6_offer 0 6 rfl rfl rfl dL_law_316 ⟨by decide, by decide⟩ ⟨rfl, rfl⟩ ⟨Nat.le_of_ble_eq_true rfl, Nat.le_of_ble_eq_true rfl⟩ rfl (Nat.le_of_ble_eq_true rfl) rfl List.perm_append_comm List.perm_append_comm ?_
  refine z_icmp_eqT G dL_law_319 797 (by decide) rfl ?_
  exact lw_nx G (IH _ _ _ _ _ _ _ _ _ _ _ _ (LK_ch h (IV_ofR hi (xs (1 + 3 * j)) (xs (2 + 3 * j)) _) _))

set_option maxHeartbeats 4000000 in
set_option maxRecDepth 100000 in
theorem lo_breathe {D : va_G} {y : Nat → ClassId} {X : zX} {e A : Nat → Nat → Nat} {b : Nat → Nat} {bb L j : Nat} {xs : Nat → Int32} {R Q : Nat → Nat → Int32} {b0 b1 : Bool} {nx kp : Nat} {Gr K : Nat → Nat → Int32} {t : Nat → Int32} {len : Nat} {s : Nat → Int32} {q : mdQ} (G : zG D y X cL_law RL room_1 4 wsL_law) (hX : scX bb L xs X) (hL : L ≤ 1536) (hj : 3 * j + 3 ≤ L) (h : LK R Gr b0 b1 nx kp t len s q) (IH : LI D y X e A b bb (j + 1)) : zV D X (tsW y e A R Q b0 b1 nx kp Gr K t len ++ mdW y b s q) 150 4112 324 [(0, .ref bb), (1, .ref (e 0 0)), (2, .ref (b 0)), (3, .int (nI (3 * j)))] [] := by
  obtain rfl : R 1 = s := h.1.1
  have hi : IV (R 1) := h.1.2
  obtain rfl : q_pad q = t := h.2.1.1
  have hlen := h.2.1.2.1
  have h80 := h.2.1.2.2
  have hn := h.2.2.1.1
  have hk := h.2.2.1.2.1
  have hst := h.2.2.1.2.2.1
  refine z_aload_n G dL_law_324 1 rfl ?_
  refine z_aload_n G dL_law_325 0 rfl ?_
  refine z_iload_n G dL_law_326 3 rfl ?_
  refine z_iconst (v := nI 1) G dL_law_327 rfl ?_
  refine z_iaddN G dL_law_328 (1 + 3 * j) (by omega) ?_
  refine z_sld G hX (i := 1 + 3 * j) (by omega) hL dL_law_329 ?_
  refine z_pVi (As := [_]) G _ _ _ (fun l => c_X5_breathe l D y e A R Q b0 b1 nx kp Gr K (q_pad q) len hi hn hk (xs (1 + 3 * j))) k_X5_breathe gL_law_X5_breathe 0 5 rfl rfl rfl dL_law_330 ⟨by decide, by decide⟩ ⟨rfl, rfl⟩ ⟨Nat.le_of_ble_eq_true rfl, Nat.le_of_ble_eq_true rfl⟩ rfl (Nat.le_of_ble_eq_true rfl) rfl (List.Perm.refl _) (List.Perm.refl _) ?_
  refine z_aload_n G dL_law_333 2 rfl ?_
  refine z_aload_n G dL_law_334 0 rfl ?_
  refine z_iload_n G dL_law_335 3 rfl ?_
  refine z_iconst (v := nI 1) G dL_law_336 rfl ?_
  refine z_iaddN G dL_law_337 (1 + 3 * j) (by omega) ?_
  refine z_sld G hX (i := 1 + 3 * j) (by omega) hL dL_law_338 ?_
  refine z_pVi (As := [_]) G _ _ _ (fun l => c_X6_breathe l D y b (R 1) q hst hk hi.pf (xs (1 + 3 * j))) k_X6_breathe gL_law_X6_breathe 0 6 rfl rfl rfl dL_law_339 ⟨by decide, by decide⟩ ⟨rfl, rfl⟩ ⟨Nat.le_of_ble_eq_true rfl, Nat.le_of_ble_eq_true rfl⟩ rfl (Nat.le_of_ble_eq_true rfl) rfl List.perm_append_comm List.perm_append_comm ?_
  refine z_icmp_eqT G dL_law_342 797 (by decide) rfl ?_
  exact lw_nx G (IH _ _ _ _ _ _ _ _ _ _ _ _ (LK_ch h (IV_be hi (xs (1 + 3 * j))) _))

set_option maxHeartbeats 4000000 in
set_option maxRecDepth 100000 in
theorem lo_round {D : va_G} {y : Nat → ClassId} {X : zX} {e A : Nat → Nat → Nat} {b : Nat → Nat} {bb L j : Nat} {xs : Nat → Int32} {R Q : Nat → Nat → Int32} {b0 b1 : Bool} {nx kp : Nat} {Gr K : Nat → Nat → Int32} {t : Nat → Int32} {len : Nat} {s : Nat → Int32} {q : mdQ} (G : zG D y X cL_law RL room_1 4 wsL_law) (hX : scX bb L xs X) (hL : L ≤ 1536) (hj : 3 * j + 3 ≤ L) (h : LK R Gr b0 b1 nx kp t len s q) (IH : LI D y X e A b bb (j + 1)) : zV D X (tsW y e A R Q b0 b1 nx kp Gr K t len ++ mdW y b s q) 150 4112 347 [(0, .ref bb), (1, .ref (e 0 0)), (2, .ref (b 0)), (3, .int (nI (3 * j)))] [] := by
  obtain rfl : R 1 = s := h.1.1
  have hi : IV (R 1) := h.1.2
  obtain rfl : q_pad q = t := h.2.1.1
  have hlen := h.2.1.2.1
  have h80 := h.2.1.2.2
  have hn := h.2.2.1.1
  have hk := h.2.2.1.2.1
  have hst := h.2.2.1.2.2.1
  refine z_aload_n G dL_law_347 1 rfl ?_
  refine z_pVi (As := []) G _ _ _ (fun l => c_X5_round l D y e A R Q b0 b1 nx kp Gr K (q_pad q) len hi hn hk) k_X5_round gL_law_X5_round 0 5 rfl rfl rfl dL_law_348 ⟨by decide, by decide⟩ ⟨rfl, rfl⟩ ⟨Nat.le_of_ble_eq_true rfl, Nat.le_of_ble_eq_true rfl⟩ rfl (Nat.le_of_ble_eq_true rfl) rfl (List.Perm.refl _) (List.Perm.refl _) ?_
  refine z_aload_n G dL_law_351 2 rfl ?_
  refine z_pVi (As := []) G _ _ _ (fun l => c_X6_round l D y b (R 1) q hst hk hi.pf hi.su hi.sj hi.hc hi.hcm hi.obc) k_X6_round gL_law_X6_round 0 6 rfl rfl rfl dL_law_352 ⟨by decide, by decide⟩ ⟨rfl, rfl⟩ ⟨Nat.le_of_ble_eq_true rfl, Nat.le_of_ble_eq_true rfl⟩ rfl (Nat.le_of_ble_eq_true rfl) rfl List.perm_append_comm List.perm_append_comm ?_
  refine z_icmp_eqT G dL_law_355 797 (by decide) rfl ?_
  exact lw_nx G (IH _ _ _ _ _ _ _ _ _ _ _ _ (LK_ro h (IV_ro hi _) _ _))

set_option maxHeartbeats 4000000 in
set_option maxRecDepth 100000 in
theorem lo_seatAnew {D : va_G} {y : Nat → ClassId} {X : zX} {e A : Nat → Nat → Nat} {b : Nat → Nat} {bb L j : Nat} {xs : Nat → Int32} {R Q : Nat → Nat → Int32} {b0 b1 : Bool} {nx kp : Nat} {Gr K : Nat → Nat → Int32} {t : Nat → Int32} {len : Nat} {s : Nat → Int32} {q : mdQ} (G : zG D y X cL_law RL room_1 4 wsL_law) (hX : scX bb L xs X) (hL : L ≤ 1536) (hj : 3 * j + 3 ≤ L) (h : LK R Gr b0 b1 nx kp t len s q) (IH : LI D y X e A b bb (j + 1)) : zV D X (tsW y e A R Q b0 b1 nx kp Gr K t len ++ mdW y b s q) 150 4112 360 [(0, .ref bb), (1, .ref (e 0 0)), (2, .ref (b 0)), (3, .int (nI (3 * j)))] [] := by
  obtain rfl : R 1 = s := h.1.1
  have hi : IV (R 1) := h.1.2
  obtain rfl : q_pad q = t := h.2.1.1
  have hlen := h.2.1.2.1
  have h80 := h.2.1.2.2
  have hn := h.2.2.1.1
  have hk := h.2.2.1.2.1
  have hst := h.2.2.1.2.2.1
  refine z_aload_n G dL_law_360 1 rfl ?_
  refine z_pVi (As := []) G _ _ _ (fun l => c_X5_seatAnew l D y e A R Q b0 b1 nx kp Gr K (q_pad q) len hi hn hk) k_X5_seatAnew gL_law_X5_seatAnew 0 5 rfl rfl rfl dL_law_361 ⟨by decide, by decide⟩ ⟨rfl, rfl⟩ ⟨Nat.le_of_ble_eq_true rfl, Nat.le_of_ble_eq_true rfl⟩ rfl (Nat.le_of_ble_eq_true rfl) rfl (List.Perm.refl _) (List.Perm.refl _) ?_
  refine z_aload_n G dL_law_364 2 rfl ?_
  refine z_pVi (As := []) G _ _ _ (fun l => c_X6_seatAnew l D y b (R 1) q hst hk hi.ob) k_X6_seatAnew gL_law_X6_seatAnew 0 6 rfl rfl rfl dL_law_365 ⟨by decide, by decide⟩ ⟨rfl, rfl⟩ ⟨Nat.le_of_ble_eq_true rfl, Nat.le_of_ble_eq_true rfl⟩ rfl (Nat.le_of_ble_eq_true rfl) rfl List.perm_append_comm List.perm_append_comm ?_
  refine z_icmp_eqT G dL_law_368 797 (by decide) rfl ?_
  exact lw_nx G (IH _ _ _ _ _ _ _ _ _ _ _ _ (LK_sa h (IV_st hi) _ _))

set_option maxHeartbeats 4000000 in
set_option maxRecDepth 100000 in
theorem lo_of {D : va_G} {y : Nat → ClassId} {X : zX} {e A : Nat → Nat → Nat} {b : Nat → Nat} {bb L j : Nat} {xs : Nat → Int32} {R Q : Nat → Nat → Int32} {b0 b1 : Bool} {nx kp : Nat} {Gr K : Nat → Nat → Int32} {t : Nat → Int32} {len : Nat} {s : Nat → Int32} {q : mdQ} (G : zG D y X cL_law RL room_1 4 wsL_law) (hX : scX bb L xs X) (hL : L ≤ 1536) (hj : 3 * j + 3 ≤ L) (h : LK R Gr b0 b1 nx kp t len s q) (IH : LI D y X e A b bb (j + 1)) : zV D X (tsW y e A R Q b0 b1 nx kp Gr K t len ++ mdW y b s q) 150 4112 373 [(0, .ref bb), (1, .ref (e 0 0)), (2, .ref (b 0)), (3, .int (nI (3 * j)))] [] := by
  obtain rfl : R 1 = s := h.1.1
  have hi : IV (R 1) := h.1.2
  obtain rfl : q_pad q = t := h.2.1.1
  have hlen := h.2.1.2.1
  have h80 := h.2.1.2.2
  have hn := h.2.2.1.1
  have hk := h.2.2.1.2.1
  have hst := h.2.2.1.2.2.1
  refine z_aload_n G dL_law_373 1 rfl ?_
  refine z_aload_n G dL_law_374 0 rfl ?_
  refine z_iload_n G dL_law_375 3 rfl ?_
  refine z_iconst (v := nI 1) G dL_law_376 rfl ?_
  refine z_iaddN G dL_law_377 (1 + 3 * j) (by omega) ?_
  refine z_sld G hX (i := 1 + 3 * j) (by omega) hL dL_law_378 ?_
  refine z_aload_n G dL_law_379 0 rfl ?_
  refine z_iload_n G dL_law_380 3 rfl ?_
  refine z_iconst (v := nI 2) G dL_law_381 rfl ?_
  refine z_iaddN G dL_law_382 (2 + 3 * j) (by omega) ?_
  refine z_sld G hX (i := 2 + 3 * j) (by omega) hL dL_law_383 ?_
  refine z_pVi (As := [_, _]) G _ _ _ (fun l => c_X5_of l D y e A R Q b0 b1 nx kp Gr K (q_pad q) len hi (xs (1 + 3 * j)) (xs (2 + 3 * j))) k_X5_of gL_law_X5_of 0 5 rfl rfl rfl dL_law_384 ⟨by decide, by decide⟩ ⟨rfl, rfl⟩ ⟨Nat.le_of_ble_eq_true rfl, Nat.le_of_ble_eq_true rfl⟩ rfl (Nat.le_of_ble_eq_true rfl) rfl (List.Perm.refl _) (List.Perm.refl _) ?_
  refine z_aload_n G dL_law_387 2 rfl ?_
  refine z_aload_n G dL_law_388 0 rfl ?_
  refine z_iload_n G dL_law_389 3 rfl ?_
  refine z_iconst (v := nI 1) G dL_law_390 rfl ?_
  refine z_iaddN G dL_law_391 (1 + 3 * j) (by omega) ?_
  refine z_sld G hX (i := 1 + 3 * j) (by omega) hL dL_law_392 ?_
  refine z_aload_n G dL_law_393 0 rfl ?_
  refine z_iload_n G dL_law_394 3 rfl ?_
  refine z_iconst (v := nI 2) G dL_law_395 rfl ?_
  refine z_iaddN G dL_law_396 (2 + 3 * j) (by omega) ?_
  refine z_sld G hX (i := 2 + 3 * j) (by omega) hL dL_law_397 ?_
  refine z_pVi (As := [_, _]) G _ _ _ (fun l => c_X6_of l D y b (R 1) q hi.ob (xs (1 + 3 * j)) (xs (2 + 3 * j))) k_X6_of gL_law_X6_of 0 6 rfl rfl rfl dL_law_398 ⟨by decide, by decide⟩ ⟨rfl, rfl⟩ ⟨Nat.le_of_ble_eq_true rfl, Nat.le_of_ble_eq_true rfl⟩ rfl (Nat.le_of_ble_eq_true rfl) rfl List.perm_append_comm List.perm_append_comm ?_
  refine z_icmp_eqT G dL_law_401 797 (by decide) rfl ?_
  exact lw_nx G (IH _ _ _ _ _ _ _ _ _ _ _ _ h)

set_option maxHeartbeats 4000000 in
set_option maxRecDepth 100000 in
theorem lo_owes {D : va_G} {y : Nat → ClassId} {X : zX} {e A : Nat → Nat → Nat} {b : Nat → Nat} {bb L j : Nat} {xs : Nat → Int32} {R Q : Nat → Nat → Int32} {b0 b1 : Bool} {nx kp : Nat} {Gr K : Nat → Nat → Int32} {t : Nat → Int32} {len : Nat} {s : Nat → Int32} {q : mdQ} (G : zG D y X cL_law RL room_1 4 wsL_law) (hX : scX bb L xs X) (hL : L ≤ 1536) (hj : 3 * j + 3 ≤ L) (h : LK R Gr b0 b1 nx kp t len s q) (IH : LI D y X e A b bb (j + 1)) : zV D X (tsW y e A R Q b0 b1 nx kp Gr K t len ++ mdW y b s q) 150 4112 406 [(0, .ref bb), (1, .ref (e 0 0)), (2, .ref (b 0)), (3, .int (nI (3 * j)))] [] := by
  obtain rfl : R 1 = s := h.1.1
  have hi : IV (R 1) := h.1.2
  obtain rfl : q_pad q = t := h.2.1.1
  have hlen := h.2.1.2.1
  have h80 := h.2.1.2.2
  have hn := h.2.2.1.1
  have hk := h.2.2.1.2.1
  have hst := h.2.2.1.2.2.1
  refine z_aload_n G dL_law_406 1 rfl ?_
  refine z_aload_n G dL_law_407 0 rfl ?_
  refine z_iload_n G dL_law_408 3 rfl ?_
  refine z_iconst (v := nI 1) G dL_law_409 rfl ?_
  refine z_iaddN G dL_law_410 (1 + 3 * j) (by omega) ?_
  refine z_sld G hX (i := 1 + 3 * j) (by omega) hL dL_law_411 ?_
  refine z_aload_n G dL_law_412 0 rfl ?_
  refine z_iload_n G dL_law_413 3 rfl ?_
  refine z_iconst (v := nI 2) G dL_law_414 rfl ?_
  refine z_iaddN G dL_law_415 (2 + 3 * j) (by omega) ?_
  refine z_sld G hX (i := 2 + 3 * j) (by omega) hL dL_law_416 ?_
  refine z_pVi (As := [_, _]) G _ _ _ (fun l => c_X5_owes l D y e A R Q b0 b1 nx kp Gr K (q_pad q) len hi (xs (1 + 3 * j)) (xs (2 + 3 * j))) k_X5_owes gL_law_X5_owes 0 5 rfl rfl rfl dL_law_417 ⟨by decide, by decide⟩ ⟨rfl, rfl⟩ ⟨Nat.le_of_ble_eq_true rfl, Nat.le_of_ble_eq_true rfl⟩ rfl (Nat.le_of_ble_eq_true rfl) rfl (List.Perm.refl _) (List.Perm.refl _) ?_
  refine z_aload_n G dL_law_420 2 rfl ?_
  refine z_aload_n G dL_law_421 0 rfl ?_
  refine z_iload_n G dL_law_422 3 rfl ?_
  refine z_iconst (v := nI 1) G dL_law_423 rfl ?_
  refine z_iaddN G dL_law_424 (1 + 3 * j) (by omega) ?_
  refine z_sld G hX (i := 1 + 3 * j) (by omega) hL dL_law_425 ?_
  refine z_aload_n G dL_law_426 0 rfl ?_
  refine z_iload_n G dL_law_427 3 rfl ?_
  refine z_iconst (v := nI 2) G dL_law_428 rfl ?_
  refine z_iaddN G dL_law_429 (2 + 3 * j) (by omega) ?_
  refine z_sld G hX (i := 2 + 3 * j) (by omega) hL dL_law_430 ?_
  refine z_pVi (As := [_, _]) G _ _ _ (fun l => c_X6_owes l D y b (R 1) q (xs (1 + 3 * j)) (xs (2 + 3 * j))) k_X6_owes gL_law_X6_owes 0 6 rfl rfl rfl dL_law_431 ⟨by decide, by decide⟩ ⟨rfl, rfl⟩ ⟨Nat.le_of_ble_eq_true rfl, Nat.le_of_ble_eq_true rfl⟩ rfl (Nat.le_of_ble_eq_true rfl) rfl List.perm_append_comm List.perm_append_comm ?_
  refine z_icmp_eqT G dL_law_434 797 (by decide) rfl ?_
  exact lw_nx G (IH _ _ _ _ _ _ _ _ _ _ _ _ h)

set_option maxHeartbeats 4000000 in
set_option maxRecDepth 100000 in
theorem lo_at {D : va_G} {y : Nat → ClassId} {X : zX} {e A : Nat → Nat → Nat} {b : Nat → Nat} {bb L j : Nat} {xs : Nat → Int32} {R Q : Nat → Nat → Int32} {b0 b1 : Bool} {nx kp : Nat} {Gr K : Nat → Nat → Int32} {t : Nat → Int32} {len : Nat} {s : Nat → Int32} {q : mdQ} (G : zG D y X cL_law RL room_1 4 wsL_law) (hX : scX bb L xs X) (hL : L ≤ 1536) (hj : 3 * j + 3 ≤ L) (h : LK R Gr b0 b1 nx kp t len s q) (IH : LI D y X e A b bb (j + 1)) : zV D X (tsW y e A R Q b0 b1 nx kp Gr K t len ++ mdW y b s q) 150 4112 439 [(0, .ref bb), (1, .ref (e 0 0)), (2, .ref (b 0)), (3, .int (nI (3 * j)))] [] := by
  obtain rfl : R 1 = s := h.1.1
  have hi : IV (R 1) := h.1.2
  obtain rfl : q_pad q = t := h.2.1.1
  have hlen := h.2.1.2.1
  have h80 := h.2.1.2.2
  have hn := h.2.2.1.1
  have hk := h.2.2.1.2.1
  have hst := h.2.2.1.2.2.1
  refine z_aload_n G dL_law_439 1 rfl ?_
  refine z_aload_n G dL_law_440 0 rfl ?_
  refine z_iload_n G dL_law_441 3 rfl ?_
  refine z_iconst (v := nI 1) G dL_law_442 rfl ?_
  refine z_iaddN G dL_law_443 (1 + 3 * j) (by omega) ?_
  refine z_sld G hX (i := 1 + 3 * j) (by omega) hL dL_law_444 ?_
  refine z_pVi (As := [_]) G _ _ _ (fun l => c_X5_at l D y e A R Q b0 b1 nx kp Gr K (q_pad q) len hi (xs (1 + 3 * j))) k_X5_at gL_law_X5_at 0 5 rfl rfl rfl dL_law_445 ⟨by decide, by decide⟩ ⟨rfl, rfl⟩ ⟨Nat.le_of_ble_eq_true rfl, Nat.le_of_ble_eq_true rfl⟩ rfl (Nat.le_of_ble_eq_true rfl) rfl (List.Perm.refl _) (List.Perm.refl _) ?_
  refine z_aload_n G dL_law_448 2 rfl ?_
  refine z_aload_n G dL_law_449 0 rfl ?_
  refine z_iload_n G dL_law_450 3 rfl ?_
  refine z_iconst (v := nI 1) G dL_law_451 rfl ?_
  refine z_iaddN G dL_law_452 (1 + 3 * j) (by omega) ?_
  refine z_sld G hX (i := 1 + 3 * j) (by omega) hL dL_law_453 ?_
  refine z_pVi (As := [_]) G _ _ _ (fun l => c_X6_at l D y b (R 1) q hi.sn (xs (1 + 3 * j))) k_X6_at gL_law_X6_at 0 6 rfl rfl rfl dL_law_454 ⟨by decide, by decide⟩ ⟨rfl, rfl⟩ ⟨Nat.le_of_ble_eq_true rfl, Nat.le_of_ble_eq_true rfl⟩ rfl (Nat.le_of_ble_eq_true rfl) rfl List.perm_append_comm List.perm_append_comm ?_
  refine z_icmp_eqT G dL_law_457 797 (by decide) rfl ?_
  exact lw_nx G (IH _ _ _ _ _ _ _ _ _ _ _ _ h)

set_option maxHeartbeats 4000000 in
set_option maxRecDepth 100000 in
theorem lo_ranked {D : va_G} {y : Nat → ClassId} {X : zX} {e A : Nat → Nat → Nat} {b : Nat → Nat} {bb L j : Nat} {xs : Nat → Int32} {R Q : Nat → Nat → Int32} {b0 b1 : Bool} {nx kp : Nat} {Gr K : Nat → Nat → Int32} {t : Nat → Int32} {len : Nat} {s : Nat → Int32} {q : mdQ} (G : zG D y X cL_law RL room_1 4 wsL_law) (hX : scX bb L xs X) (hL : L ≤ 1536) (hj : 3 * j + 3 ≤ L) (h : LK R Gr b0 b1 nx kp t len s q) (IH : LI D y X e A b bb (j + 1)) : zV D X (tsW y e A R Q b0 b1 nx kp Gr K t len ++ mdW y b s q) 150 4112 462 [(0, .ref bb), (1, .ref (e 0 0)), (2, .ref (b 0)), (3, .int (nI (3 * j)))] [] := by
  obtain rfl : R 1 = s := h.1.1
  have hi : IV (R 1) := h.1.2
  obtain rfl : q_pad q = t := h.2.1.1
  have hlen := h.2.1.2.1
  have h80 := h.2.1.2.2
  have hn := h.2.2.1.1
  have hk := h.2.2.1.2.1
  have hst := h.2.2.1.2.2.1
  refine z_aload_n G dL_law_462 1 rfl ?_
  refine z_aload_n G dL_law_463 0 rfl ?_
  refine z_iload_n G dL_law_464 3 rfl ?_
  refine z_iconst (v := nI 1) G dL_law_465 rfl ?_
  refine z_iaddN G dL_law_466 (1 + 3 * j) (by omega) ?_
  refine z_sld G hX (i := 1 + 3 * j) (by omega) hL dL_law_467 ?_
  refine z_pVi (As := [_]) G _ _ _ (fun l => c_X5_ranked l D y e A R Q b0 b1 nx kp Gr K (q_pad q) len hi (xs (1 + 3 * j))) k_X5_ranked gL_law_X5_ranked 0 5 rfl rfl rfl dL_law_468 ⟨by decide, by decide⟩ ⟨rfl, rfl⟩ ⟨Nat.le_of_ble_eq_true rfl, Nat.le_of_ble_eq_true rfl⟩ rfl (Nat.le_of_ble_eq_true rfl) rfl (List.Perm.refl _) (List.Perm.refl _) ?_
  refine z_aload_n G dL_law_471 2 rfl ?_
  refine z_aload_n G dL_law_472 0 rfl ?_
  refine z_iload_n G dL_law_473 3 rfl ?_
  refine z_iconst (v := nI 1) G dL_law_474 rfl ?_
  refine z_iaddN G dL_law_475 (1 + 3 * j) (by omega) ?_
  refine z_sld G hX (i := 1 + 3 * j) (by omega) hL dL_law_476 ?_
  refine z_pVi (As := [_]) G _ _ _ (fun l => c_X6_ranked l D y b (R 1) q hi.ob (xs (1 + 3 * j))) k_X6_ranked gL_law_X6_ranked 0 6 rfl rfl rfl dL_law_477 ⟨by decide, by decide⟩ ⟨rfl, rfl⟩ ⟨Nat.le_of_ble_eq_true rfl, Nat.le_of_ble_eq_true rfl⟩ rfl (Nat.le_of_ble_eq_true rfl) rfl List.perm_append_comm List.perm_append_comm ?_
  refine z_icmp_eqT G dL_law_480 797 (by decide) rfl ?_
  exact lw_nx G (IH _ _ _ _ _ _ _ _ _ _ _ _ h)

set_option maxHeartbeats 4000000 in
set_option maxRecDepth 100000 in
theorem lo_silent {D : va_G} {y : Nat → ClassId} {X : zX} {e A : Nat → Nat → Nat} {b : Nat → Nat} {bb L j : Nat} {xs : Nat → Int32} {R Q : Nat → Nat → Int32} {b0 b1 : Bool} {nx kp : Nat} {Gr K : Nat → Nat → Int32} {t : Nat → Int32} {len : Nat} {s : Nat → Int32} {q : mdQ} (G : zG D y X cL_law RL room_1 4 wsL_law) (hX : scX bb L xs X) (hL : L ≤ 1536) (hj : 3 * j + 3 ≤ L) (h : LK R Gr b0 b1 nx kp t len s q) (IH : LI D y X e A b bb (j + 1)) : zV D X (tsW y e A R Q b0 b1 nx kp Gr K t len ++ mdW y b s q) 150 4112 485 [(0, .ref bb), (1, .ref (e 0 0)), (2, .ref (b 0)), (3, .int (nI (3 * j)))] [] := by
  obtain rfl : R 1 = s := h.1.1
  have hi : IV (R 1) := h.1.2
  obtain rfl : q_pad q = t := h.2.1.1
  have hlen := h.2.1.2.1
  have h80 := h.2.1.2.2
  have hn := h.2.2.1.1
  have hk := h.2.2.1.2.1
  have hst := h.2.2.1.2.2.1
  refine z_aload_n G dL_law_485 1 rfl ?_
  refine z_aload_n G dL_law_486 0 rfl ?_
  refine z_iload_n G dL_law_487 3 rfl ?_
  refine z_iconst (v := nI 1) G dL_law_488 rfl ?_
  refine z_iaddN G dL_law_489 (1 + 3 * j) (by omega) ?_
  refine z_sld G hX (i := 1 + 3 * j) (by omega) hL dL_law_490 ?_
  refine z_pVi (As := [_]) G _ _ _ (fun l => c_X5_silent l D y e A R Q b0 b1 nx kp Gr K (q_pad q) len hi (xs (1 + 3 * j))) k_X5_silent gL_law_X5_silent 0 5 rfl rfl rfl dL_law_491 ⟨by decide, by decide⟩ ⟨rfl, rfl⟩ ⟨Nat.le_of_ble_eq_true rfl, Nat.le_of_ble_eq_true rfl⟩ rfl (Nat.le_of_ble_eq_true rfl) rfl (List.Perm.refl _) (List.Perm.refl _) ?_
  refine z_aload_n G dL_law_494 2 rfl ?_
  refine z_aload_n G dL_law_495 0 rfl ?_
  refine z_iload_n G dL_law_496 3 rfl ?_
  refine z_iconst (v := nI 1) G dL_law_497 rfl ?_
  refine z_iaddN G dL_law_498 (1 + 3 * j) (by omega) ?_
  refine z_sld G hX (i := 1 + 3 * j) (by omega) hL dL_law_499 ?_
  refine z_pVi (As := [_]) G _ _ _ (fun l => c_X6_silent l D y b (R 1) q (xs (1 + 3 * j))) k_X6_silent gL_law_X6_silent 0 6 rfl rfl rfl dL_law_500 ⟨by decide, by decide⟩ ⟨rfl, rfl⟩ ⟨Nat.le_of_ble_eq_true rfl, Nat.le_of_ble_eq_true rfl⟩ rfl (Nat.le_of_ble_eq_true rfl) rfl List.perm_append_comm List.perm_append_comm ?_
  refine z_icmp_eqT G dL_law_503 797 (by decide) rfl ?_
  exact lw_nx G (IH _ _ _ _ _ _ _ _ _ _ _ _ h)

set_option maxHeartbeats 4000000 in
set_option maxRecDepth 100000 in
theorem lo_count {D : va_G} {y : Nat → ClassId} {X : zX} {e A : Nat → Nat → Nat} {b : Nat → Nat} {bb L j : Nat} {xs : Nat → Int32} {R Q : Nat → Nat → Int32} {b0 b1 : Bool} {nx kp : Nat} {Gr K : Nat → Nat → Int32} {t : Nat → Int32} {len : Nat} {s : Nat → Int32} {q : mdQ} (G : zG D y X cL_law RL room_1 4 wsL_law) (hX : scX bb L xs X) (hL : L ≤ 1536) (hj : 3 * j + 3 ≤ L) (h : LK R Gr b0 b1 nx kp t len s q) (IH : LI D y X e A b bb (j + 1)) : zV D X (tsW y e A R Q b0 b1 nx kp Gr K t len ++ mdW y b s q) 150 4112 508 [(0, .ref bb), (1, .ref (e 0 0)), (2, .ref (b 0)), (3, .int (nI (3 * j)))] [] := by
  obtain rfl : R 1 = s := h.1.1
  have hi : IV (R 1) := h.1.2
  obtain rfl : q_pad q = t := h.2.1.1
  have hlen := h.2.1.2.1
  have h80 := h.2.1.2.2
  have hn := h.2.2.1.1
  have hk := h.2.2.1.2.1
  have hst := h.2.2.1.2.2.1
  refine z_aload_n G dL_law_508 1 rfl ?_
  refine z_aload_n G dL_law_509 0 rfl ?_
  refine z_iload_n G dL_law_510 3 rfl ?_
  refine z_iconst (v := nI 1) G dL_law_511 rfl ?_
  refine z_iaddN G dL_law_512 (1 + 3 * j) (by omega) ?_
  refine z_sld G hX (i := 1 + 3 * j) (by omega) hL dL_law_513 ?_
  refine z_pVi (As := [_]) G _ _ _ (fun l => c_X5_count l D y e A R Q b0 b1 nx kp Gr K (q_pad q) len hi h80 (xs (1 + 3 * j))) k_X5_count gL_law_X5_count 0 5 rfl rfl rfl dL_law_514 ⟨by decide, by decide⟩ ⟨rfl, rfl⟩ ⟨Nat.le_of_ble_eq_true rfl, Nat.le_of_ble_eq_true rfl⟩ rfl (Nat.le_of_ble_eq_true rfl) rfl (List.Perm.refl _) (List.Perm.refl _) ?_
  refine z_aload_n G dL_law_517 2 rfl ?_
  refine z_aload_n G dL_law_518 0 rfl ?_
  refine z_iload_n G dL_law_519 3 rfl ?_
  refine z_iconst (v := nI 1) G dL_law_520 rfl ?_
  refine z_iaddN G dL_law_521 (1 + 3 * j) (by omega) ?_
  refine z_sld G hX (i := 1 + 3 * j) (by omega) hL dL_law_522 ?_
  refine z_pVi (As := [_]) G _ _ _ (fun l => c_X6_count l D y b (R 1) q hi.pf (xs (1 + 3 * j))) k_X6_count gL_law_X6_count 0 6 rfl rfl rfl dL_law_523 ⟨by decide, by decide⟩ ⟨rfl, rfl⟩ ⟨Nat.le_of_ble_eq_true rfl, Nat.le_of_ble_eq_true rfl⟩ rfl (Nat.le_of_ble_eq_true rfl) rfl List.perm_append_comm List.perm_append_comm ?_
  refine z_icmp_eqT G dL_law_526 797 (by decide) (by rw [hlen, hst]) ?_
  exact lw_nx G (IH _ _ _ _ _ _ _ _ _ _ _ _ h)

set_option maxHeartbeats 4000000 in
set_option maxRecDepth 100000 in
theorem lo_why {D : va_G} {y : Nat → ClassId} {X : zX} {e A : Nat → Nat → Nat} {b : Nat → Nat} {bb L j : Nat} {xs : Nat → Int32} {R Q : Nat → Nat → Int32} {b0 b1 : Bool} {nx kp : Nat} {Gr K : Nat → Nat → Int32} {t : Nat → Int32} {len : Nat} {s : Nat → Int32} {q : mdQ} (G : zG D y X cL_law RL room_1 4 wsL_law) (hX : scX bb L xs X) (hL : L ≤ 1536) (hj : 3 * j + 3 ≤ L) (h : LK R Gr b0 b1 nx kp t len s q) (IH : LI D y X e A b bb (j + 1)) : zV D X (tsW y e A R Q b0 b1 nx kp Gr K t len ++ mdW y b s q) 150 4112 531 [(0, .ref bb), (1, .ref (e 0 0)), (2, .ref (b 0)), (3, .int (nI (3 * j)))] [] := by
  obtain rfl : R 1 = s := h.1.1
  have hi : IV (R 1) := h.1.2
  obtain rfl : q_pad q = t := h.2.1.1
  have hlen := h.2.1.2.1
  have h80 := h.2.1.2.2
  have hn := h.2.2.1.1
  have hk := h.2.2.1.2.1
  have hst := h.2.2.1.2.2.1
  refine z_aload_n G dL_law_531 1 rfl ?_
  refine z_aload_n G dL_law_532 0 rfl ?_
  refine z_iload_n G dL_law_533 3 rfl ?_
  refine z_iconst (v := nI 1) G dL_law_534 rfl ?_
  refine z_iaddN G dL_law_535 (1 + 3 * j) (by omega) ?_
  refine z_sld G hX (i := 1 + 3 * j) (by omega) hL dL_law_536 ?_
  refine z_pVi (As := [_]) G _ _ _ (fun l => c_X5_why l D y e A R Q b0 b1 nx kp Gr K (q_pad q) len hi (xs (1 + 3 * j))) k_X5_why gL_law_X5_why 0 5 rfl rfl rfl dL_law_537 ⟨by decide, by decide⟩ ⟨rfl, rfl⟩ ⟨Nat.le_of_ble_eq_true rfl, Nat.le_of_ble_eq_true rfl⟩ rfl (Nat.le_of_ble_eq_true rfl) rfl (List.Perm.refl _) (List.Perm.refl _) ?_
  refine z_aload_n G dL_law_540 2 rfl ?_
  refine z_aload_n G dL_law_541 0 rfl ?_
  refine z_iload_n G dL_law_542 3 rfl ?_
  refine z_iconst (v := nI 1) G dL_law_543 rfl ?_
  refine z_iaddN G dL_law_544 (1 + 3 * j) (by omega) ?_
  refine z_sld G hX (i := 1 + 3 * j) (by omega) hL dL_law_545 ?_
  refine z_pVi (As := [_]) G _ _ _ (fun l => c_X6_why l D y b (R 1) q (xs (1 + 3 * j))) k_X6_why gL_law_X6_why 0 6 rfl rfl rfl dL_law_546 ⟨by decide, by decide⟩ ⟨rfl, rfl⟩ ⟨Nat.le_of_ble_eq_true rfl, Nat.le_of_ble_eq_true rfl⟩ rfl (Nat.le_of_ble_eq_true rfl) rfl List.perm_append_comm List.perm_append_comm ?_
  refine z_icmp_eqT G dL_law_549 797 (by decide) rfl ?_
  exact lw_nx G (IH _ _ _ _ _ _ _ _ _ _ _ _ h)

set_option maxHeartbeats 4000000 in
set_option maxRecDepth 100000 in
theorem lo_seatedIn {D : va_G} {y : Nat → ClassId} {X : zX} {e A : Nat → Nat → Nat} {b : Nat → Nat} {bb L j : Nat} {xs : Nat → Int32} {R Q : Nat → Nat → Int32} {b0 b1 : Bool} {nx kp : Nat} {Gr K : Nat → Nat → Int32} {t : Nat → Int32} {len : Nat} {s : Nat → Int32} {q : mdQ} (G : zG D y X cL_law RL room_1 4 wsL_law) (hX : scX bb L xs X) (hL : L ≤ 1536) (hj : 3 * j + 3 ≤ L) (h : LK R Gr b0 b1 nx kp t len s q) (IH : LI D y X e A b bb (j + 1)) : zV D X (tsW y e A R Q b0 b1 nx kp Gr K t len ++ mdW y b s q) 150 4112 554 [(0, .ref bb), (1, .ref (e 0 0)), (2, .ref (b 0)), (3, .int (nI (3 * j)))] [] := by
  obtain rfl : R 1 = s := h.1.1
  have hi : IV (R 1) := h.1.2
  obtain rfl : q_pad q = t := h.2.1.1
  have hlen := h.2.1.2.1
  have h80 := h.2.1.2.2
  have hn := h.2.2.1.1
  have hk := h.2.2.1.2.1
  have hst := h.2.2.1.2.2.1
  refine z_aload_n G dL_law_554 1 rfl ?_
  refine z_aload_n G dL_law_555 0 rfl ?_
  refine z_iload_n G dL_law_556 3 rfl ?_
  refine z_iconst (v := nI 1) G dL_law_557 rfl ?_
  refine z_iaddN G dL_law_558 (1 + 3 * j) (by omega) ?_
  refine z_sld G hX (i := 1 + 3 * j) (by omega) hL dL_law_559 ?_
  refine z_aload_n G dL_law_560 0 rfl ?_
  refine z_iload_n G dL_law_561 3 rfl ?_
  refine z_iconst (v := nI 2) G dL_law_562 rfl ?_
  refine z_iaddN G dL_law_563 (2 + 3 * j) (by omega) ?_
  refine z_sld G hX (i := 2 + 3 * j) (by omega) hL dL_law_564 ?_
  refine z_qVi (As := [_, _]) G (fun l => c_X5_seatedIn l D y e A R Q b0 b1 nx kp Gr K (q_pad q) len hi (xs (1 + 3 * j)) (xs (2 + 3 * j))) k_X5_seatedIn gL_law_X5_seatedIn 0 5 rfl rfl rfl dL_law_565 ⟨by decide, by decide⟩ ⟨rfl, rfl⟩ ⟨Nat.le_of_ble_eq_true rfl, Nat.le_of_ble_eq_true rfl⟩ rfl (Nat.le_of_ble_eq_true rfl) rfl (fun r w1 hr => ?_)
  obtain ⟨rfl, g3, rfl⟩ := hr
  refine z_aload_n G dL_law_568 2 rfl ?_
  refine z_aload_n G dL_law_569 0 rfl ?_
  refine z_iload_n G dL_law_570 3 rfl ?_
  refine z_iconst (v := nI 1) G dL_law_571 rfl ?_
  refine z_iaddN G dL_law_572 (1 + 3 * j) (by omega) ?_
  refine z_sld G hX (i := 1 + 3 * j) (by omega) hL dL_law_573 ?_
  refine z_aload_n G dL_law_574 0 rfl ?_
  refine z_iload_n G dL_law_575 3 rfl ?_
  refine z_iconst (v := nI 2) G dL_law_576 rfl ?_
  refine z_iaddN G dL_law_577 (2 + 3 * j) (by omega) ?_
  refine z_sld G hX (i := 2 + 3 * j) (by omega) hL dL_law_578 ?_
  refine z_pVi (As := [_, _]) G _ _ _ (fun l => c_X6_seatedIn l D y b (R 1) q hi.pf hi.ob (xs (1 + 3 * j)) (xs (2 + 3 * j))) k_X6_seatedIn gL_law_X6_seatedIn 0 6 rfl rfl rfl dL_law_579 ⟨by decide, by decide⟩ ⟨rfl, rfl⟩ ⟨Nat.le_of_ble_eq_true rfl, Nat.le_of_ble_eq_true rfl⟩ rfl (Nat.le_of_ble_eq_true rfl) rfl List.perm_append_comm List.perm_append_comm ?_
  refine z_icmp_eqT G dL_law_582 797 (by decide) rfl ?_
  exact lw_nx G (IH _ _ _ _ _ _ _ _ _ _ _ _ (LK_tr h g3 _))

set_option maxHeartbeats 4000000 in
set_option maxRecDepth 100000 in
theorem lo_ifWord {D : va_G} {y : Nat → ClassId} {X : zX} {e A : Nat → Nat → Nat} {b : Nat → Nat} {bb L j : Nat} {xs : Nat → Int32} {R Q : Nat → Nat → Int32} {b0 b1 : Bool} {nx kp : Nat} {Gr K : Nat → Nat → Int32} {t : Nat → Int32} {len : Nat} {s : Nat → Int32} {q : mdQ} (G : zG D y X cL_law RL room_1 4 wsL_law) (hX : scX bb L xs X) (hL : L ≤ 1536) (hj : 3 * j + 3 ≤ L) (h : LK R Gr b0 b1 nx kp t len s q) (IH : LI D y X e A b bb (j + 1)) : zV D X (tsW y e A R Q b0 b1 nx kp Gr K t len ++ mdW y b s q) 150 4112 587 [(0, .ref bb), (1, .ref (e 0 0)), (2, .ref (b 0)), (3, .int (nI (3 * j)))] [] := by
  obtain rfl : R 1 = s := h.1.1
  have hi : IV (R 1) := h.1.2
  obtain rfl : q_pad q = t := h.2.1.1
  have hlen := h.2.1.2.1
  have h80 := h.2.1.2.2
  have hn := h.2.2.1.1
  have hk := h.2.2.1.2.1
  have hst := h.2.2.1.2.2.1
  refine z_aload_n G dL_law_587 1 rfl ?_
  refine z_aload_n G dL_law_588 0 rfl ?_
  refine z_iload_n G dL_law_589 3 rfl ?_
  refine z_iconst (v := nI 1) G dL_law_590 rfl ?_
  refine z_iaddN G dL_law_591 (1 + 3 * j) (by omega) ?_
  refine z_sld G hX (i := 1 + 3 * j) (by omega) hL dL_law_592 ?_
  refine z_pVi (As := [_]) G _ _ _ (fun l => c_X5_ifWord l D y e A R Q b0 b1 nx kp Gr K (q_pad q) len hi (xs (1 + 3 * j))) k_X5_ifWord gL_law_X5_ifWord 0 5 rfl rfl rfl dL_law_593 ⟨by decide, by decide⟩ ⟨rfl, rfl⟩ ⟨Nat.le_of_ble_eq_true rfl, Nat.le_of_ble_eq_true rfl⟩ rfl (Nat.le_of_ble_eq_true rfl) rfl (List.Perm.refl _) (List.Perm.refl _) ?_
  refine z_aload_n G dL_law_596 2 rfl ?_
  refine z_aload_n G dL_law_597 0 rfl ?_
  refine z_iload_n G dL_law_598 3 rfl ?_
  refine z_iconst (v := nI 1) G dL_law_599 rfl ?_
  refine z_iaddN G dL_law_600 (1 + 3 * j) (by omega) ?_
  refine z_sld G hX (i := 1 + 3 * j) (by omega) hL dL_law_601 ?_
  refine z_pVi (As := [_]) G _ _ _ (fun l => c_X6_ifWord l D y b (R 1) q hi.ob (xs (1 + 3 * j))) k_X6_ifWord gL_law_X6_ifWord 0 6 rfl rfl rfl dL_law_602 ⟨by decide, by decide⟩ ⟨rfl, rfl⟩ ⟨Nat.le_of_ble_eq_true rfl, Nat.le_of_ble_eq_true rfl⟩ rfl (Nat.le_of_ble_eq_true rfl) rfl List.perm_append_comm List.perm_append_comm ?_
  refine z_icmp_eqT G dL_law_605 797 (by decide) rfl ?_
  exact lw_nx G (IH _ _ _ _ _ _ _ _ _ _ _ _ (LK_iw h _ (xs (1 + 3 * j))))

set_option maxHeartbeats 4000000 in
set_option maxRecDepth 100000 in
theorem lo_ifRound {D : va_G} {y : Nat → ClassId} {X : zX} {e A : Nat → Nat → Nat} {b : Nat → Nat} {bb L j : Nat} {xs : Nat → Int32} {R Q : Nat → Nat → Int32} {b0 b1 : Bool} {nx kp : Nat} {Gr K : Nat → Nat → Int32} {t : Nat → Int32} {len : Nat} {s : Nat → Int32} {q : mdQ} (G : zG D y X cL_law RL room_1 4 wsL_law) (hX : scX bb L xs X) (hL : L ≤ 1536) (hj : 3 * j + 3 ≤ L) (h : LK R Gr b0 b1 nx kp t len s q) (IH : LI D y X e A b bb (j + 1)) : zV D X (tsW y e A R Q b0 b1 nx kp Gr K t len ++ mdW y b s q) 150 4112 610 [(0, .ref bb), (1, .ref (e 0 0)), (2, .ref (b 0)), (3, .int (nI (3 * j)))] [] := by
  obtain rfl : R 1 = s := h.1.1
  have hi : IV (R 1) := h.1.2
  obtain rfl : q_pad q = t := h.2.1.1
  have hlen := h.2.1.2.1
  have h80 := h.2.1.2.2
  have hn := h.2.2.1.1
  have hk := h.2.2.1.2.1
  have hst := h.2.2.1.2.2.1
  refine z_aload_n G dL_law_610 1 rfl ?_
  refine z_aload_n G dL_law_611 0 rfl ?_
  refine z_iload_n G dL_law_612 3 rfl ?_
  refine z_iconst (v := nI 1) G dL_law_613 rfl ?_
  refine z_iaddN G dL_law_614 (1 + 3 * j) (by omega) ?_
  refine z_sld G hX (i := 1 + 3 * j) (by omega) hL dL_law_615 ?_
  refine z_qVi (As := [_]) G (fun l => c_X5_ifRound l D y e A R Q b0 b1 nx kp Gr K (q_pad q) len hi (xs (1 + 3 * j))) k_X5_ifRound gL_law_X5_ifRound 0 5 rfl rfl rfl dL_law_616 ⟨by decide, by decide⟩ ⟨rfl, rfl⟩ ⟨Nat.le_of_ble_eq_true rfl, Nat.le_of_ble_eq_true rfl⟩ rfl (Nat.le_of_ble_eq_true rfl) rfl (fun r w1 hr => ?_)
  obtain ⟨rfl, g3, q3, rfl⟩ := hr
  refine z_aload_n G dL_law_619 2 rfl ?_
  refine z_aload_n G dL_law_620 0 rfl ?_
  refine z_iload_n G dL_law_621 3 rfl ?_
  refine z_iconst (v := nI 1) G dL_law_622 rfl ?_
  refine z_iaddN G dL_law_623 (1 + 3 * j) (by omega) ?_
  refine z_sld G hX (i := 1 + 3 * j) (by omega) hL dL_law_624 ?_
  refine z_pVi (As := [_]) G _ _ _ (fun l => c_X6_ifRound l D y b (R 1) q hi.pf hi.su hi.sj hi.hc hi.hcm hi.obc (xs (1 + 3 * j))) k_X6_ifRound gL_law_X6_ifRound 0 6 rfl rfl rfl dL_law_625 ⟨by decide, by decide⟩ ⟨rfl, rfl⟩ ⟨Nat.le_of_ble_eq_true rfl, Nat.le_of_ble_eq_true rfl⟩ rfl (Nat.le_of_ble_eq_true rfl) rfl List.perm_append_comm List.perm_append_comm ?_
  refine z_icmp_eqT G dL_law_628 797 (by decide) rfl ?_
  exact lw_nx G (IH _ _ _ _ _ _ _ _ _ _ _ _ (LK_ir h g3 _ (xs (1 + 3 * j))))

set_option maxHeartbeats 4000000 in
set_option maxRecDepth 100000 in
theorem lo_canLead {D : va_G} {y : Nat → ClassId} {X : zX} {e A : Nat → Nat → Nat} {b : Nat → Nat} {bb L j : Nat} {xs : Nat → Int32} {R Q : Nat → Nat → Int32} {b0 b1 : Bool} {nx kp : Nat} {Gr K : Nat → Nat → Int32} {t : Nat → Int32} {len : Nat} {s : Nat → Int32} {q : mdQ} (G : zG D y X cL_law RL room_1 4 wsL_law) (hX : scX bb L xs X) (hL : L ≤ 1536) (hj : 3 * j + 3 ≤ L) (h : LK R Gr b0 b1 nx kp t len s q) (IH : LI D y X e A b bb (j + 1)) : zV D X (tsW y e A R Q b0 b1 nx kp Gr K t len ++ mdW y b s q) 150 4112 633 [(0, .ref bb), (1, .ref (e 0 0)), (2, .ref (b 0)), (3, .int (nI (3 * j)))] [] := by
  obtain rfl : R 1 = s := h.1.1
  have hi : IV (R 1) := h.1.2
  obtain rfl : q_pad q = t := h.2.1.1
  have hlen := h.2.1.2.1
  have h80 := h.2.1.2.2
  have hn := h.2.2.1.1
  have hk := h.2.2.1.2.1
  have hst := h.2.2.1.2.2.1
  refine z_aload_n G dL_law_633 1 rfl ?_
  refine z_qVi (As := []) G (fun l => c_X5_canLead l D y e A R Q b0 b1 nx kp Gr K (q_pad q) len hi) k_X5_canLead gL_law_X5_canLead 0 5 rfl rfl rfl dL_law_634 ⟨by decide, by decide⟩ ⟨rfl, rfl⟩ ⟨Nat.le_of_ble_eq_true rfl, Nat.le_of_ble_eq_true rfl⟩ rfl (Nat.le_of_ble_eq_true rfl) rfl (fun r w1 hr => ?_)
  obtain ⟨rfl, g3, rfl⟩ := hr
  refine z_aload_n G dL_law_637 2 rfl ?_
  refine z_pVi (As := []) G _ _ _ (fun l => c_X6_canLead l D y b (R 1) q hi.pf hi.ob) k_X6_canLead gL_law_X6_canLead 0 6 rfl rfl rfl dL_law_638 ⟨by decide, by decide⟩ ⟨rfl, rfl⟩ ⟨Nat.le_of_ble_eq_true rfl, Nat.le_of_ble_eq_true rfl⟩ rfl (Nat.le_of_ble_eq_true rfl) rfl List.perm_append_comm List.perm_append_comm ?_
  refine z_icmp_eqT G dL_law_641 797 (by decide) rfl ?_
  exact lw_nx G (IH _ _ _ _ _ _ _ _ _ _ _ _ (LK_cl h g3))

set_option maxHeartbeats 4000000 in
set_option maxRecDepth 100000 in
theorem lo_put {D : va_G} {y : Nat → ClassId} {X : zX} {e A : Nat → Nat → Nat} {b : Nat → Nat} {bb L j : Nat} {xs : Nat → Int32} {R Q : Nat → Nat → Int32} {b0 b1 : Bool} {nx kp : Nat} {Gr K : Nat → Nat → Int32} {t : Nat → Int32} {len : Nat} {s : Nat → Int32} {q : mdQ} (G : zG D y X cL_law RL room_1 4 wsL_law) (hX : scX bb L xs X) (hL : L ≤ 1536) (hj : 3 * j + 3 ≤ L) (h : LK R Gr b0 b1 nx kp t len s q) (IH : LI D y X e A b bb (j + 1)) : zV D X (tsW y e A R Q b0 b1 nx kp Gr K t len ++ mdW y b s q) 150 4112 646 [(0, .ref bb), (1, .ref (e 0 0)), (2, .ref (b 0)), (3, .int (nI (3 * j)))] [] := by
  obtain rfl : R 1 = s := h.1.1
  have hi : IV (R 1) := h.1.2
  obtain rfl : q_pad q = t := h.2.1.1
  have hlen := h.2.1.2.1
  have h80 := h.2.1.2.2
  have hn := h.2.2.1.1
  have hk := h.2.2.1.2.1
  have hst := h.2.2.1.2.2.1
  refine z_aload_n G dL_law_646 1 rfl ?_
  refine z_aload_n G dL_law_647 0 rfl ?_
  refine z_iload_n G dL_law_648 3 rfl ?_
  refine z_iconst (v := nI 1) G dL_law_649 rfl ?_
  refine z_iaddN G dL_law_650 (1 + 3 * j) (by omega) ?_
  refine z_sld G hX (i := 1 + 3 * j) (by omega) hL dL_law_651 ?_
  refine z_i2l G _ dL_law_652 rfl ?_
  refine z_bipush (v := nI 32) G dL_law_653 rfl ?_
  refine z_lshl G _ dL_law_655 rfl ?_
  refine z_aload_n G dL_law_656 0 rfl ?_
  refine z_iload_n G dL_law_657 3 rfl ?_
  refine z_iconst (v := nI 2) G dL_law_658 rfl ?_
  refine z_iaddN G dL_law_659 (2 + 3 * j) (by omega) ?_
  refine z_sld G hX (i := 2 + 3 * j) (by omega) hL dL_law_660 ?_
  refine z_i2l G _ dL_law_661 rfl ?_
  refine z_ldc2 G (List.mem_of_getElem? (i := 6) rfl) dL_law_662 ?_
  refine z_land G dL_law_665 ?_
  refine z_lor G dL_law_666 ?_
  refine z_lN (fun n hn2 hv => ?_)
  refine z_pVi (As := [_]) G _ _ _ (fun l => c_X5_put l D y e A R Q b0 b1 nx kp Gr K (q_pad q) len h80 hn2) k_X5_put gL_law_X5_put 0 5 rfl rfl rfl dL_law_667 ⟨by decide, by decide⟩ ⟨rfl, rfl⟩ ⟨Nat.le_of_ble_eq_true rfl, Nat.le_of_ble_eq_true rfl⟩ rfl (Nat.le_of_ble_eq_true rfl) rfl (List.Perm.refl _) (List.Perm.refl _) ?_
  refine z_aload_n G dL_law_670 2 rfl ?_
  refine z_aload_n G dL_law_671 0 rfl ?_
  refine z_iload_n G dL_law_672 3 rfl ?_
  refine z_iconst (v := nI 1) G dL_law_673 rfl ?_
  refine z_iaddN G dL_law_674 (1 + 3 * j) (by omega) ?_
  refine z_sld G hX (i := 1 + 3 * j) (by omega) hL dL_law_675 ?_
  refine z_i2l G _ dL_law_676 rfl ?_
  refine z_bipush (v := nI 32) G dL_law_677 rfl ?_
  refine z_lshl G _ dL_law_679 rfl ?_
  refine z_aload_n G dL_law_680 0 rfl ?_
  refine z_iload_n G dL_law_681 3 rfl ?_
  refine z_iconst (v := nI 2) G dL_law_682 rfl ?_
  refine z_iaddN G dL_law_683 (2 + 3 * j) (by omega) ?_
  refine z_sld G hX (i := 2 + 3 * j) (by omega) hL dL_law_684 ?_
  refine z_i2l G _ dL_law_685 rfl ?_
  refine z_ldc2 G (List.mem_of_getElem? (i := 6) rfl) dL_law_686 ?_
  refine z_land G dL_law_689 ?_
  refine z_lor G dL_law_690 ?_
  refine z_top (w := .long (lN n)) (congrArg Value.long hv) ?_
  refine z_pVi (As := [_]) G _ _ _ (fun l => c_X6_put l D y b (R 1) q hlen h80 hn2) k_X6_put gL_law_X6_put 0 6 rfl rfl rfl dL_law_691 ⟨by decide, by decide⟩ ⟨rfl, rfl⟩ ⟨Nat.le_of_ble_eq_true rfl, Nat.le_of_ble_eq_true rfl⟩ rfl (Nat.le_of_ble_eq_true rfl) rfl List.perm_append_comm List.perm_append_comm ?_
  refine z_icmp_eqT G dL_law_694 797 (by decide) rfl ?_
  exact lw_nx G (IH _ _ _ _ _ _ _ _ _ _ _ _ (LK_t h (puN_le h80)))

set_option maxHeartbeats 4000000 in
set_option maxRecDepth 100000 in
theorem lo_wipe {D : va_G} {y : Nat → ClassId} {X : zX} {e A : Nat → Nat → Nat} {b : Nat → Nat} {bb L j : Nat} {xs : Nat → Int32} {R Q : Nat → Nat → Int32} {b0 b1 : Bool} {nx kp : Nat} {Gr K : Nat → Nat → Int32} {t : Nat → Int32} {len : Nat} {s : Nat → Int32} {q : mdQ} (G : zG D y X cL_law RL room_1 4 wsL_law) (hX : scX bb L xs X) (hL : L ≤ 1536) (hj : 3 * j + 3 ≤ L) (h : LK R Gr b0 b1 nx kp t len s q) (IH : LI D y X e A b bb (j + 1)) : zV D X (tsW y e A R Q b0 b1 nx kp Gr K t len ++ mdW y b s q) 150 4112 699 [(0, .ref bb), (1, .ref (e 0 0)), (2, .ref (b 0)), (3, .int (nI (3 * j)))] [] := by
  obtain rfl : R 1 = s := h.1.1
  have hi : IV (R 1) := h.1.2
  obtain rfl : q_pad q = t := h.2.1.1
  have hlen := h.2.1.2.1
  have h80 := h.2.1.2.2
  have hn := h.2.2.1.1
  have hk := h.2.2.1.2.1
  have hst := h.2.2.1.2.2.1
  refine z_aload_n G dL_law_699 1 rfl ?_
  refine z_pVi (As := []) G _ _ _ (fun l => c_X5_wipe l D y e A R Q b0 b1 nx kp Gr K (q_pad q) len h80) k_X5_wipe gL_law_X5_wipe 0 5 rfl rfl rfl dL_law_700 ⟨by decide, by decide⟩ ⟨rfl, rfl⟩ ⟨Nat.le_of_ble_eq_true rfl, Nat.le_of_ble_eq_true rfl⟩ rfl (Nat.le_of_ble_eq_true rfl) rfl (List.Perm.refl _) (List.Perm.refl _) ?_
  refine z_aload_n G dL_law_703 2 rfl ?_
  refine z_pVi (As := []) G _ _ _ (fun l => c_X6_wipe l D y b (R 1) q ) k_X6_wipe gL_law_X6_wipe 0 6 rfl rfl rfl dL_law_704 ⟨by decide, by decide⟩ ⟨rfl, rfl⟩ ⟨Nat.le_of_ble_eq_true rfl, Nat.le_of_ble_eq_true rfl⟩ rfl (Nat.le_of_ble_eq_true rfl) rfl List.perm_append_comm List.perm_append_comm ?_
  refine z_icmp_eqT G dL_law_707 797 (by decide) hlen.symm ?_
  exact lw_nx G (IH _ _ _ _ _ _ _ _ _ _ _ _ (LK_w h))

set_option maxHeartbeats 4000000 in
set_option maxRecDepth 100000 in
theorem lo_fault {D : va_G} {y : Nat → ClassId} {X : zX} {e A : Nat → Nat → Nat} {b : Nat → Nat} {bb L j : Nat} {xs : Nat → Int32} {R Q : Nat → Nat → Int32} {b0 b1 : Bool} {nx kp : Nat} {Gr K : Nat → Nat → Int32} {t : Nat → Int32} {len : Nat} {s : Nat → Int32} {q : mdQ} (G : zG D y X cL_law RL room_1 4 wsL_law) (hX : scX bb L xs X) (hL : L ≤ 1536) (hj : 3 * j + 3 ≤ L) (h : LK R Gr b0 b1 nx kp t len s q) (IH : LI D y X e A b bb (j + 1)) : zV D X (tsW y e A R Q b0 b1 nx kp Gr K t len ++ mdW y b s q) 150 4112 712 [(0, .ref bb), (1, .ref (e 0 0)), (2, .ref (b 0)), (3, .int (nI (3 * j)))] [] := by
  obtain rfl : R 1 = s := h.1.1
  have hi : IV (R 1) := h.1.2
  obtain rfl : q_pad q = t := h.2.1.1
  have hlen := h.2.1.2.1
  have h80 := h.2.1.2.2
  have hn := h.2.2.1.1
  have hk := h.2.2.1.2.1
  have hst := h.2.2.1.2.2.1
  refine z_aload_n G dL_law_712 1 rfl ?_
  refine z_pVi (As := []) G _ _ _ (fun l => c_X5_fault l D y e A R Q b0 b1 nx kp Gr K (q_pad q) len h80) k_X5_fault gL_law_X5_fault 0 5 rfl rfl rfl dL_law_713 ⟨by decide, by decide⟩ ⟨rfl, rfl⟩ ⟨Nat.le_of_ble_eq_true rfl, Nat.le_of_ble_eq_true rfl⟩ rfl (Nat.le_of_ble_eq_true rfl) rfl (List.Perm.refl _) (List.Perm.refl _) ?_
  refine z_aload_n G dL_law_716 2 rfl ?_
  refine z_pVi (As := []) G _ _ _ (fun l => c_X6_fault l D y b (R 1) q hlen h80) k_X6_fault gL_law_X6_fault 0 6 rfl rfl rfl dL_law_717 ⟨by decide, by decide⟩ ⟨rfl, rfl⟩ ⟨Nat.le_of_ble_eq_true rfl, Nat.le_of_ble_eq_true rfl⟩ rfl (Nat.le_of_ble_eq_true rfl) rfl List.perm_append_comm List.perm_append_comm ?_
  refine z_icmp_eqT G dL_law_720 797 (by decide) (fa_R q h80).symm ?_
  exact lw_nx G (IH _ _ _ _ _ _ _ _ _ _ _ _ (LK_fa h _))

set_option maxHeartbeats 4000000 in
set_option maxRecDepth 100000 in
theorem lo_carryOut {D : va_G} {y : Nat → ClassId} {X : zX} {e A : Nat → Nat → Nat} {b : Nat → Nat} {bb L j : Nat} {xs : Nat → Int32} {R Q : Nat → Nat → Int32} {b0 b1 : Bool} {nx kp : Nat} {Gr K : Nat → Nat → Int32} {t : Nat → Int32} {len : Nat} {s : Nat → Int32} {q : mdQ} (G : zG D y X cL_law RL room_1 4 wsL_law) (hX : scX bb L xs X) (hL : L ≤ 1536) (hj : 3 * j + 3 ≤ L) (h : LK R Gr b0 b1 nx kp t len s q) (IH : LI D y X e A b bb (j + 1)) : zV D X (tsW y e A R Q b0 b1 nx kp Gr K t len ++ mdW y b s q) 150 4112 725 [(0, .ref bb), (1, .ref (e 0 0)), (2, .ref (b 0)), (3, .int (nI (3 * j)))] [] := by
  obtain rfl : R 1 = s := h.1.1
  have hi : IV (R 1) := h.1.2
  obtain rfl : q_pad q = t := h.2.1.1
  have hlen := h.2.1.2.1
  have h80 := h.2.1.2.2
  have hn := h.2.2.1.1
  have hk := h.2.2.1.2.1
  have hst := h.2.2.1.2.2.1
  by_cases hf : ffR (q_pad q) len = -6
  · refine z_aload_n G dL_law_725 1 rfl ?_
    refine z_qVi (As := []) G (fun l => c_X5_carryOut l D y e A R Q b0 b1 nx kp Gr K (q_pad q) len hi hn hk h80 hf) k_X5_carryOut gL_law_X5_carryOut 0 5 rfl rfl rfl dL_law_726 ⟨by decide, by decide⟩ ⟨rfl, rfl⟩ ⟨Nat.le_of_ble_eq_true rfl, Nat.le_of_ble_eq_true rfl⟩ rfl (Nat.le_of_ble_eq_true rfl) rfl (fun r w1 hr => ?_)
    obtain ⟨rfl, q1, rfl⟩ := hr
    refine z_aload_n G dL_law_729 2 rfl ?_
    refine z_pVi (As := []) G _ _ _ (fun l => c_X6_carryOut l D y b (R 1) q hst hk hi hlen h80) k_X6_carryOut gL_law_X6_carryOut 0 6 rfl rfl rfl dL_law_730 ⟨by decide, by decide⟩ ⟨rfl, rfl⟩ ⟨Nat.le_of_ble_eq_true rfl, Nat.le_of_ble_eq_true rfl⟩ rfl (Nat.le_of_ble_eq_true rfl) rfl List.perm_append_comm List.perm_append_comm ?_
    refine z_icmp_eqT G dL_law_733 797 (by decide) (ca_yes (kp := kp) h80 hf).1.symm ?_
    exact lw_nx G (IH _ _ _ _ _ _ _ _ _ _ _ _ (LK_ca h hf))
  · refine z_aload_n G dL_law_725 1 rfl ?_
    refine z_pVi (As := []) G _ _ _ (fun l => c_X5_carryOut_out l D y e A R Q b0 b1 nx kp Gr K (q_pad q) len h80 hf) k_X5_carryOut gL_law_X5_carryOut 0 5 rfl rfl rfl dL_law_726 ⟨by decide, by decide⟩ ⟨rfl, rfl⟩ ⟨Nat.le_of_ble_eq_true rfl, Nat.le_of_ble_eq_true rfl⟩ rfl (Nat.le_of_ble_eq_true rfl) rfl (List.Perm.refl _) (List.Perm.refl _) ?_
    refine z_aload_n G dL_law_729 2 rfl ?_
    refine z_pVi (As := []) G _ _ _ (fun l => c_X6_carryOut l D y b (R 1) q hst hk hi hlen h80) k_X6_carryOut gL_law_X6_carryOut 0 6 rfl rfl rfl dL_law_730 ⟨by decide, by decide⟩ ⟨rfl, rfl⟩ ⟨Nat.le_of_ble_eq_true rfl, Nat.le_of_ble_eq_true rfl⟩ rfl (Nat.le_of_ble_eq_true rfl) rfl List.perm_append_comm List.perm_append_comm ?_
    refine z_icmp_eqT G dL_law_733 797 (by decide) (ca_no (kp := kp) h80 hf).1.symm ?_
    exact lw_nx G (IH _ _ _ _ _ _ _ _ _ _ _ _ (by rw [(ca_no (kp := kp) (s := R 1) h80 hf).2.1, (ca_no (kp := kp) (s := R 1) h80 hf).2.2]; exact LK_fa h _))

set_option maxHeartbeats 4000000 in
set_option maxRecDepth 100000 in
theorem lo_undo {D : va_G} {y : Nat → ClassId} {X : zX} {e A : Nat → Nat → Nat} {b : Nat → Nat} {bb L j : Nat} {xs : Nat → Int32} {R Q : Nat → Nat → Int32} {b0 b1 : Bool} {nx kp : Nat} {Gr K : Nat → Nat → Int32} {t : Nat → Int32} {len : Nat} {s : Nat → Int32} {q : mdQ} (G : zG D y X cL_law RL room_1 4 wsL_law) (hX : scX bb L xs X) (hL : L ≤ 1536) (hj : 3 * j + 3 ≤ L) (h : LK R Gr b0 b1 nx kp t len s q) (IH : LI D y X e A b bb (j + 1)) : zV D X (tsW y e A R Q b0 b1 nx kp Gr K t len ++ mdW y b s q) 150 4112 738 [(0, .ref bb), (1, .ref (e 0 0)), (2, .ref (b 0)), (3, .int (nI (3 * j)))] [] := by
  obtain rfl : R 1 = s := h.1.1
  have hi : IV (R 1) := h.1.2
  obtain rfl : q_pad q = t := h.2.1.1
  have hlen := h.2.1.2.1
  have h80 := h.2.1.2.2
  have hn := h.2.2.1.1
  have hk := h.2.2.1.2.1
  have hst := h.2.2.1.2.2.1
  cases kp with
  | zero =>
    refine z_aload_n G dL_law_738 1 rfl ?_
    refine z_pVi (As := []) G _ _ _ (fun l => c_X5_undo_0 l D y e A R Q b0 b1 nx 0 Gr K (q_pad q) len) k_X5_undo gL_law_X5_undo 0 5 rfl rfl rfl dL_law_739 ⟨by decide, by decide⟩ ⟨rfl, rfl⟩ ⟨Nat.le_of_ble_eq_true rfl, Nat.le_of_ble_eq_true rfl⟩ rfl (Nat.le_of_ble_eq_true rfl) rfl (List.Perm.refl _) (List.Perm.refl _) ?_
    refine z_aload_n G dL_law_742 2 rfl ?_
    refine z_pVi (As := []) G _ _ _ (fun l => c_X6_undo l D y b (R 1) q hst hk) k_X6_undo gL_law_X6_undo 0 6 rfl rfl rfl dL_law_743 ⟨by decide, by decide⟩ ⟨rfl, rfl⟩ ⟨Nat.le_of_ble_eq_true rfl, Nat.le_of_ble_eq_true rfl⟩ rfl (Nat.le_of_ble_eq_true rfl) rfl List.perm_append_comm List.perm_append_comm ?_
    refine z_icmp_eqT G dL_law_746 797 (by decide) rfl ?_
    exact lw_nx G (IH _ _ _ _ _ _ _ _ _ _ _ _ h)
  | succ kp =>
    refine z_aload_n G dL_law_738 1 rfl ?_
    refine z_pVi (As := []) G _ _ _ (fun l => c_X5_undo l D y e A R Q b0 b1 nx kp Gr K (q_pad q) len hn (by omega)) k_X5_undo gL_law_X5_undo 0 5 rfl rfl rfl dL_law_739 ⟨by decide, by decide⟩ ⟨rfl, rfl⟩ ⟨Nat.le_of_ble_eq_true rfl, Nat.le_of_ble_eq_true rfl⟩ rfl (Nat.le_of_ble_eq_true rfl) rfl (List.Perm.refl _) (List.Perm.refl _) ?_
    refine z_aload_n G dL_law_742 2 rfl ?_
    refine z_pVi (As := []) G _ _ _ (fun l => c_X6_undo l D y b (R 1) q hst hk) k_X6_undo gL_law_X6_undo 0 6 rfl rfl rfl dL_law_743 ⟨by decide, by decide⟩ ⟨rfl, rfl⟩ ⟨Nat.le_of_ble_eq_true rfl, Nat.le_of_ble_eq_true rfl⟩ rfl (Nat.le_of_ble_eq_true rfl) rfl List.perm_append_comm List.perm_append_comm ?_
    refine z_icmp_eqT G dL_law_746 797 (by decide) rfl ?_
    refine z_world (ws' := tsW y e A (upG R 1 (svF (q_before q) kp)) Q b0 b1 (nxP nx) kp Gr K (q_pad q) len ++ mdW y b (svF (q_before q) kp) (qs_states q (nI kp))) (congrArg (fun w : va_W => w ++ mdW y b (svF (q_before q) kp) (qs_states q (nI kp))) (ts_ag (upG_ag (rl_last h).1) upG_ot)) ?_
    exact lw_nx G (IH _ _ _ _ _ _ _ _ _ _ _ _ (LK_undo h))

set_option maxHeartbeats 4000000 in
set_option maxRecDepth 100000 in
theorem lo_save {D : va_G} {y : Nat → ClassId} {X : zX} {e A : Nat → Nat → Nat} {b : Nat → Nat} {bb L j : Nat} {xs : Nat → Int32} {R Q : Nat → Nat → Int32} {b0 b1 : Bool} {nx kp : Nat} {Gr K : Nat → Nat → Int32} {t : Nat → Int32} {len : Nat} {s : Nat → Int32} {q : mdQ} (G : zG D y X cL_law RL room_1 4 wsL_law) (hX : scX bb L xs X) (hL : L ≤ 1536) (hj : 3 * j + 3 ≤ L) (h : LK R Gr b0 b1 nx kp t len s q) (IH : LI D y X e A b bb (j + 1)) : zV D X (tsW y e A R Q b0 b1 nx kp Gr K t len ++ mdW y b s q) 150 4112 751 [(0, .ref bb), (1, .ref (e 0 0)), (2, .ref (b 0)), (3, .int (nI (3 * j)))] [] := by
  obtain rfl : R 1 = s := h.1.1
  have hi : IV (R 1) := h.1.2
  obtain rfl : q_pad q = t := h.2.1.1
  have hlen := h.2.1.2.1
  have h80 := h.2.1.2.2
  have hn := h.2.2.1.1
  have hk := h.2.2.1.2.1
  have hst := h.2.2.1.2.2.1
  cases hs : s01 (xs (1 + 3 * j))
  · refine z_aload_n G dL_law_751 1 rfl ?_
    refine z_aload_n G dL_law_752 0 rfl ?_
    refine z_iload_n G dL_law_753 3 rfl ?_
    refine z_iconst (v := nI 1) G dL_law_754 rfl ?_
    refine z_iaddN G dL_law_755 (1 + 3 * j) (by omega) ?_
    refine z_sld G hX (i := 1 + 3 * j) (by omega) hL dL_law_756 ?_
    refine z_pVi (As := [_]) G _ _ _ (fun l => c_X5_save_out l D y e A R Q b0 b1 nx kp Gr K (q_pad q) len (xs (1 + 3 * j)) hs) k_X5_save gL_law_X5_save 0 5 rfl rfl rfl dL_law_757 ⟨by decide, by decide⟩ ⟨rfl, rfl⟩ ⟨Nat.le_of_ble_eq_true rfl, Nat.le_of_ble_eq_true rfl⟩ rfl (Nat.le_of_ble_eq_true rfl) rfl (List.Perm.refl _) (List.Perm.refl _) ?_
    refine z_aload_n G dL_law_760 2 rfl ?_
    refine z_aload_n G dL_law_761 0 rfl ?_
    refine z_iload_n G dL_law_762 3 rfl ?_
    refine z_iconst (v := nI 1) G dL_law_763 rfl ?_
    refine z_iaddN G dL_law_764 (1 + 3 * j) (by omega) ?_
    refine z_sld G hX (i := 1 + 3 * j) (by omega) hL dL_law_765 ?_
    refine z_pVi (As := [_]) G _ _ _ (fun l => c_X6_save l D y b (R 1) q hi.pf (xs (1 + 3 * j))) k_X6_save gL_law_X6_save 0 6 rfl rfl rfl dL_law_766 ⟨by decide, by decide⟩ ⟨rfl, rfl⟩ ⟨Nat.le_of_ble_eq_true rfl, Nat.le_of_ble_eq_true rfl⟩ rfl (Nat.le_of_ble_eq_true rfl) rfl List.perm_append_comm List.perm_append_comm ?_
    refine z_icmp_eqT G dL_law_769 797 (by decide) (sa_out (q := q) hs).1.symm ?_
    exact lw_nx G (IH _ _ _ _ _ _ _ _ _ _ _ _ (by rw [(sa_out hs).2]; exact h))
  · obtain ⟨k, hk2, ek⟩ := s01_t hs
    rcases (by omega : k = 0 ∨ k = 1) with rfl | rfl
    · refine z_aload_n G dL_law_751 1 rfl ?_
      refine z_aload_n G dL_law_752 0 rfl ?_
      refine z_iload_n G dL_law_753 3 rfl ?_
      refine z_iconst (v := nI 1) G dL_law_754 rfl ?_
      refine z_iaddN G dL_law_755 (1 + 3 * j) (by omega) ?_
      refine z_sld G hX (i := 1 + 3 * j) (by omega) hL dL_law_756 ?_
      refine z_top (w := .int (nI (0))) (congrArg Value.int ek) ?_
      refine z_pVi (As := [_]) G _ _ _ (fun l => c_X5_save_0 l D y e A R Q b0 b1 nx kp Gr K (q_pad q) len hi) k_X5_save gL_law_X5_save 0 5 rfl rfl rfl dL_law_757 ⟨by decide, by decide⟩ ⟨rfl, rfl⟩ ⟨Nat.le_of_ble_eq_true rfl, Nat.le_of_ble_eq_true rfl⟩ rfl (Nat.le_of_ble_eq_true rfl) rfl (List.Perm.refl _) (List.Perm.refl _) ?_
      refine z_aload_n G dL_law_760 2 rfl ?_
      refine z_aload_n G dL_law_761 0 rfl ?_
      refine z_iload_n G dL_law_762 3 rfl ?_
      refine z_iconst (v := nI 1) G dL_law_763 rfl ?_
      refine z_iaddN G dL_law_764 (1 + 3 * j) (by omega) ?_
      refine z_sld G hX (i := 1 + 3 * j) (by omega) hL dL_law_765 ?_
      refine z_top (w := .int (nI (0))) (congrArg Value.int ek) ?_
      refine z_pVi (As := [_]) G _ _ _ (fun l => c_X6_save l D y b (R 1) q hi.pf (nI 0)) k_X6_save gL_law_X6_save 0 6 rfl rfl rfl dL_law_766 ⟨by decide, by decide⟩ ⟨rfl, rfl⟩ ⟨Nat.le_of_ble_eq_true rfl, Nat.le_of_ble_eq_true rfl⟩ rfl (Nat.le_of_ble_eq_true rfl) rfl List.perm_append_comm List.perm_append_comm ?_
      refine z_icmp_eqT G dL_law_769 797 (by decide) (sa_in (q := q) (k := 0) (by decide)).1.symm ?_
      exact lw_nx G (IH _ _ _ _ _ _ _ _ _ _ _ _ (by rw [(sa_in (k := 0) (by decide)).2]; exact LK_save0 h))
    · refine z_aload_n G dL_law_751 1 rfl ?_
      refine z_aload_n G dL_law_752 0 rfl ?_
      refine z_iload_n G dL_law_753 3 rfl ?_
      refine z_iconst (v := nI 1) G dL_law_754 rfl ?_
      refine z_iaddN G dL_law_755 (1 + 3 * j) (by omega) ?_
      refine z_sld G hX (i := 1 + 3 * j) (by omega) hL dL_law_756 ?_
      refine z_top (w := .int (nI (1))) (congrArg Value.int ek) ?_
      refine z_pVi (As := [_]) G _ _ _ (fun l => c_X5_save_1 l D y e A R Q b0 b1 nx kp Gr K (q_pad q) len hi) k_X5_save gL_law_X5_save 0 5 rfl rfl rfl dL_law_757 ⟨by decide, by decide⟩ ⟨rfl, rfl⟩ ⟨Nat.le_of_ble_eq_true rfl, Nat.le_of_ble_eq_true rfl⟩ rfl (Nat.le_of_ble_eq_true rfl) rfl (List.Perm.refl _) (List.Perm.refl _) ?_
      refine z_aload_n G dL_law_760 2 rfl ?_
      refine z_aload_n G dL_law_761 0 rfl ?_
      refine z_iload_n G dL_law_762 3 rfl ?_
      refine z_iconst (v := nI 1) G dL_law_763 rfl ?_
      refine z_iaddN G dL_law_764 (1 + 3 * j) (by omega) ?_
      refine z_sld G hX (i := 1 + 3 * j) (by omega) hL dL_law_765 ?_
      refine z_top (w := .int (nI (1))) (congrArg Value.int ek) ?_
      refine z_pVi (As := [_]) G _ _ _ (fun l => c_X6_save l D y b (R 1) q hi.pf (nI 1)) k_X6_save gL_law_X6_save 0 6 rfl rfl rfl dL_law_766 ⟨by decide, by decide⟩ ⟨rfl, rfl⟩ ⟨Nat.le_of_ble_eq_true rfl, Nat.le_of_ble_eq_true rfl⟩ rfl (Nat.le_of_ble_eq_true rfl) rfl List.perm_append_comm List.perm_append_comm ?_
      refine z_icmp_eqT G dL_law_769 797 (by decide) (sa_in (q := q) (k := 1) (by decide)).1.symm ?_
      exact lw_nx G (IH _ _ _ _ _ _ _ _ _ _ _ _ (by rw [(sa_in (k := 1) (by decide)).2]; exact LK_save1 h))

set_option maxHeartbeats 4000000 in
set_option maxRecDepth 100000 in
theorem lo_restore {D : va_G} {y : Nat → ClassId} {X : zX} {e A : Nat → Nat → Nat} {b : Nat → Nat} {bb L j : Nat} {xs : Nat → Int32} {R Q : Nat → Nat → Int32} {b0 b1 : Bool} {nx kp : Nat} {Gr K : Nat → Nat → Int32} {t : Nat → Int32} {len : Nat} {s : Nat → Int32} {q : mdQ} (G : zG D y X cL_law RL room_1 4 wsL_law) (hX : scX bb L xs X) (hL : L ≤ 1536) (hj : 3 * j + 3 ≤ L) (h : LK R Gr b0 b1 nx kp t len s q) (IH : LI D y X e A b bb (j + 1)) : zV D X (tsW y e A R Q b0 b1 nx kp Gr K t len ++ mdW y b s q) 150 4112 774 [(0, .ref bb), (1, .ref (e 0 0)), (2, .ref (b 0)), (3, .int (nI (3 * j)))] [] := by
  obtain rfl : R 1 = s := h.1.1
  have hi : IV (R 1) := h.1.2
  obtain rfl : q_pad q = t := h.2.1.1
  have hlen := h.2.1.2.1
  have h80 := h.2.1.2.2
  have hn := h.2.2.1.1
  have hk := h.2.2.1.2.1
  have hst := h.2.2.1.2.2.1
  cases hs : s01 (xs (1 + 3 * j))
  · refine z_aload_n G dL_law_774 1 rfl ?_
    refine z_aload_n G dL_law_775 0 rfl ?_
    refine z_iload_n G dL_law_776 3 rfl ?_
    refine z_iconst (v := nI 1) G dL_law_777 rfl ?_
    refine z_iaddN G dL_law_778 (1 + 3 * j) (by omega) ?_
    refine z_sld G hX (i := 1 + 3 * j) (by omega) hL dL_law_779 ?_
    refine z_pVi (As := [_]) G _ _ _ (fun l => c_X5_restore_out l D y e A R Q b0 b1 nx kp Gr K (q_pad q) len (xs (1 + 3 * j)) hs) k_X5_restore gL_law_X5_restore 0 5 rfl rfl rfl dL_law_780 ⟨by decide, by decide⟩ ⟨rfl, rfl⟩ ⟨Nat.le_of_ble_eq_true rfl, Nat.le_of_ble_eq_true rfl⟩ rfl (Nat.le_of_ble_eq_true rfl) rfl (List.Perm.refl _) (List.Perm.refl _) ?_
    refine z_aload_n G dL_law_783 2 rfl ?_
    refine z_aload_n G dL_law_784 0 rfl ?_
    refine z_iload_n G dL_law_785 3 rfl ?_
    refine z_iconst (v := nI 1) G dL_law_786 rfl ?_
    refine z_iaddN G dL_law_787 (1 + 3 * j) (by omega) ?_
    refine z_sld G hX (i := 1 + 3 * j) (by omega) hL dL_law_788 ?_
    refine z_pVi (As := [_]) G _ _ _ (fun l => c_X6_restore l D y b (R 1) q hst hk (LK_ps h) (xs (1 + 3 * j))) k_X6_restore gL_law_X6_restore 0 6 rfl rfl rfl dL_law_789 ⟨by decide, by decide⟩ ⟨rfl, rfl⟩ ⟨Nat.le_of_ble_eq_true rfl, Nat.le_of_ble_eq_true rfl⟩ rfl (Nat.le_of_ble_eq_true rfl) rfl List.perm_append_comm List.perm_append_comm ?_
    refine z_icmp_eqT G dL_law_792 797 (by decide) (rs_out (kp := kp) (s := R 1) hs).1.symm ?_
    exact lw_nx G (IH _ _ _ _ _ _ _ _ _ _ _ _ (by rw [(rs_out (kp := kp) (s := R 1) hs).2.1, (rs_out (kp := kp) (s := R 1) hs).2.2]; exact h))
  · obtain ⟨k, hk2, ek⟩ := s01_t hs
    rcases (by omega : k = 0 ∨ k = 1) with rfl | rfl
    · cases b0 with
      | false =>
        refine z_aload_n G dL_law_774 1 rfl ?_
        refine z_aload_n G dL_law_775 0 rfl ?_
        refine z_iload_n G dL_law_776 3 rfl ?_
        refine z_iconst (v := nI 1) G dL_law_777 rfl ?_
        refine z_iaddN G dL_law_778 (1 + 3 * j) (by omega) ?_
        refine z_sld G hX (i := 1 + 3 * j) (by omega) hL dL_law_779 ?_
        refine z_top (w := .int (nI (0))) (congrArg Value.int ek) ?_
        refine z_pVi (As := [_]) G _ _ _ (fun l => c_X5_restore_0f l D y e A R Q false b1 nx kp Gr K (q_pad q) len) k_X5_restore gL_law_X5_restore 0 5 rfl rfl rfl dL_law_780 ⟨by decide, by decide⟩ ⟨rfl, rfl⟩ ⟨Nat.le_of_ble_eq_true rfl, Nat.le_of_ble_eq_true rfl⟩ rfl (Nat.le_of_ble_eq_true rfl) rfl (List.Perm.refl _) (List.Perm.refl _) ?_
        refine z_aload_n G dL_law_783 2 rfl ?_
        refine z_aload_n G dL_law_784 0 rfl ?_
        refine z_iload_n G dL_law_785 3 rfl ?_
        refine z_iconst (v := nI 1) G dL_law_786 rfl ?_
        refine z_iaddN G dL_law_787 (1 + 3 * j) (by omega) ?_
        refine z_sld G hX (i := 1 + 3 * j) (by omega) hL dL_law_788 ?_
        refine z_top (w := .int (nI (0))) (congrArg Value.int ek) ?_
        refine z_pVi (As := [_]) G _ _ _ (fun l => c_X6_restore l D y b (R 1) q hst hk (LK_ps h) (nI 0)) k_X6_restore gL_law_X6_restore 0 6 rfl rfl rfl dL_law_789 ⟨by decide, by decide⟩ ⟨rfl, rfl⟩ ⟨Nat.le_of_ble_eq_true rfl, Nat.le_of_ble_eq_true rfl⟩ rfl (Nat.le_of_ble_eq_true rfl) rfl List.perm_append_comm List.perm_append_comm ?_
        refine z_icmp_eqT G dL_law_792 797 (by decide) (rs_no (kp := kp) (s := R 1) (k := 0) (by decide) h.2.2.2.1.1).1.symm ?_
        exact lw_nx G (IH _ _ _ _ _ _ _ _ _ _ _ _ (by rw [(rs_no (kp := kp) (s := R 1) (k := 0) (by decide) h.2.2.2.1.1).2.1, (rs_no (kp := kp) (s := R 1) (k := 0) (by decide) h.2.2.2.1.1).2.2]; exact h))
      | true =>
        refine z_aload_n G dL_law_774 1 rfl ?_
        refine z_aload_n G dL_law_775 0 rfl ?_
        refine z_iload_n G dL_law_776 3 rfl ?_
        refine z_iconst (v := nI 1) G dL_law_777 rfl ?_
        refine z_iaddN G dL_law_778 (1 + 3 * j) (by omega) ?_
        refine z_sld G hX (i := 1 + 3 * j) (by omega) hL dL_law_779 ?_
        refine z_top (w := .int (nI (0))) (congrArg Value.int ek) ?_
        refine z_pVi (As := [_]) G _ _ _ (fun l => c_X5_restore_0t l D y e A R Q true b1 nx kp Gr K (q_pad q) len (IV_ag (h.2.2.2.1.2 rfl).2 (h.2.2.2.1.2 rfl).1).pf hn hk) k_X5_restore gL_law_X5_restore 0 5 rfl rfl rfl dL_law_780 ⟨by decide, by decide⟩ ⟨rfl, rfl⟩ ⟨Nat.le_of_ble_eq_true rfl, Nat.le_of_ble_eq_true rfl⟩ rfl (Nat.le_of_ble_eq_true rfl) rfl (List.Perm.refl _) (List.Perm.refl _) ?_
        refine z_aload_n G dL_law_783 2 rfl ?_
        refine z_aload_n G dL_law_784 0 rfl ?_
        refine z_iload_n G dL_law_785 3 rfl ?_
        refine z_iconst (v := nI 1) G dL_law_786 rfl ?_
        refine z_iaddN G dL_law_787 (1 + 3 * j) (by omega) ?_
        refine z_sld G hX (i := 1 + 3 * j) (by omega) hL dL_law_788 ?_
        refine z_top (w := .int (nI (0))) (congrArg Value.int ek) ?_
        refine z_pVi (As := [_]) G _ _ _ (fun l => c_X6_restore l D y b (R 1) q hst hk (LK_ps h) (nI 0)) k_X6_restore gL_law_X6_restore 0 6 rfl rfl rfl dL_law_789 ⟨by decide, by decide⟩ ⟨rfl, rfl⟩ ⟨Nat.le_of_ble_eq_true rfl, Nat.le_of_ble_eq_true rfl⟩ rfl (Nat.le_of_ble_eq_true rfl) rfl List.perm_append_comm List.perm_append_comm ?_
        refine z_icmp_eqT G dL_law_792 797 (by decide) (Eq.trans (congrArg nI (ng_ag (h.2.2.2.1.2 rfl).1)) (rs_yes (k := 0) (by decide) h.2.2.2.1.1).symm) ?_
        refine z_world (ws' := tsW y e A (upG (upG R 2 (R 1)) 1 (svF (q_saved q) 0)) Q true b1 (rcN nx (nI (ng (R 5)))) (rcP kp (nI (ng (R 5)))) (rcG Gr nx (R 1) (nI (ng (R 5)))) K (q_pad q) len ++ mdW y b (rsS (R 1) q (nI 0)) (rsQ (R 1) q kp (nI 0))) (congrArg (fun w : va_W => w ++ mdW y b (rsS (R 1) q (nI 0)) (rsQ (R 1) q kp (nI 0))) (ts_ag (upG_ag (h.2.2.2.1.2 rfl).1) upG_ot)) ?_
        exact lw_nx G (IH _ _ _ _ _ _ _ _ _ _ _ _ (LK_re0 h))
    · cases b1 with
      | false =>
        refine z_aload_n G dL_law_774 1 rfl ?_
        refine z_aload_n G dL_law_775 0 rfl ?_
        refine z_iload_n G dL_law_776 3 rfl ?_
        refine z_iconst (v := nI 1) G dL_law_777 rfl ?_
        refine z_iaddN G dL_law_778 (1 + 3 * j) (by omega) ?_
        refine z_sld G hX (i := 1 + 3 * j) (by omega) hL dL_law_779 ?_
        refine z_top (w := .int (nI (1))) (congrArg Value.int ek) ?_
        refine z_pVi (As := [_]) G _ _ _ (fun l => c_X5_restore_1f l D y e A R Q b0 false nx kp Gr K (q_pad q) len) k_X5_restore gL_law_X5_restore 0 5 rfl rfl rfl dL_law_780 ⟨by decide, by decide⟩ ⟨rfl, rfl⟩ ⟨Nat.le_of_ble_eq_true rfl, Nat.le_of_ble_eq_true rfl⟩ rfl (Nat.le_of_ble_eq_true rfl) rfl (List.Perm.refl _) (List.Perm.refl _) ?_
        refine z_aload_n G dL_law_783 2 rfl ?_
        refine z_aload_n G dL_law_784 0 rfl ?_
        refine z_iload_n G dL_law_785 3 rfl ?_
        refine z_iconst (v := nI 1) G dL_law_786 rfl ?_
        refine z_iaddN G dL_law_787 (1 + 3 * j) (by omega) ?_
        refine z_sld G hX (i := 1 + 3 * j) (by omega) hL dL_law_788 ?_
        refine z_top (w := .int (nI (1))) (congrArg Value.int ek) ?_
        refine z_pVi (As := [_]) G _ _ _ (fun l => c_X6_restore l D y b (R 1) q hst hk (LK_ps h) (nI 1)) k_X6_restore gL_law_X6_restore 0 6 rfl rfl rfl dL_law_789 ⟨by decide, by decide⟩ ⟨rfl, rfl⟩ ⟨Nat.le_of_ble_eq_true rfl, Nat.le_of_ble_eq_true rfl⟩ rfl (Nat.le_of_ble_eq_true rfl) rfl List.perm_append_comm List.perm_append_comm ?_
        refine z_icmp_eqT G dL_law_792 797 (by decide) (rs_no (kp := kp) (s := R 1) (k := 1) (by decide) h.2.2.2.2.1).1.symm ?_
        exact lw_nx G (IH _ _ _ _ _ _ _ _ _ _ _ _ (by rw [(rs_no (kp := kp) (s := R 1) (k := 1) (by decide) h.2.2.2.2.1).2.1, (rs_no (kp := kp) (s := R 1) (k := 1) (by decide) h.2.2.2.2.1).2.2]; exact h))
      | true =>
        refine z_aload_n G dL_law_774 1 rfl ?_
        refine z_aload_n G dL_law_775 0 rfl ?_
        refine z_iload_n G dL_law_776 3 rfl ?_
        refine z_iconst (v := nI 1) G dL_law_777 rfl ?_
        refine z_iaddN G dL_law_778 (1 + 3 * j) (by omega) ?_
        refine z_sld G hX (i := 1 + 3 * j) (by omega) hL dL_law_779 ?_
        refine z_top (w := .int (nI (1))) (congrArg Value.int ek) ?_
        refine z_pVi (As := [_]) G _ _ _ (fun l => c_X5_restore_1t l D y e A R Q b0 true nx kp Gr K (q_pad q) len (IV_ag (h.2.2.2.2.2 rfl).2 (h.2.2.2.2.2 rfl).1).pf hn hk) k_X5_restore gL_law_X5_restore 0 5 rfl rfl rfl dL_law_780 ⟨by decide, by decide⟩ ⟨rfl, rfl⟩ ⟨Nat.le_of_ble_eq_true rfl, Nat.le_of_ble_eq_true rfl⟩ rfl (Nat.le_of_ble_eq_true rfl) rfl (List.Perm.refl _) (List.Perm.refl _) ?_
        refine z_aload_n G dL_law_783 2 rfl ?_
        refine z_aload_n G dL_law_784 0 rfl ?_
        refine z_iload_n G dL_law_785 3 rfl ?_
        refine z_iconst (v := nI 1) G dL_law_786 rfl ?_
        refine z_iaddN G dL_law_787 (1 + 3 * j) (by omega) ?_
        refine z_sld G hX (i := 1 + 3 * j) (by omega) hL dL_law_788 ?_
        refine z_top (w := .int (nI (1))) (congrArg Value.int ek) ?_
        refine z_pVi (As := [_]) G _ _ _ (fun l => c_X6_restore l D y b (R 1) q hst hk (LK_ps h) (nI 1)) k_X6_restore gL_law_X6_restore 0 6 rfl rfl rfl dL_law_789 ⟨by decide, by decide⟩ ⟨rfl, rfl⟩ ⟨Nat.le_of_ble_eq_true rfl, Nat.le_of_ble_eq_true rfl⟩ rfl (Nat.le_of_ble_eq_true rfl) rfl List.perm_append_comm List.perm_append_comm ?_
        refine z_icmp_eqT G dL_law_792 797 (by decide) (Eq.trans (congrArg nI (ng_ag (h.2.2.2.2.2 rfl).1)) (rs_yes (k := 1) (by decide) h.2.2.2.2.1).symm) ?_
        refine z_world (ws' := tsW y e A (upG (upG R 2 (R 1)) 1 (svF (q_saved q) 1)) Q b0 true (rcN nx (nI (ng (R 7)))) (rcP kp (nI (ng (R 7)))) (rcG Gr nx (R 1) (nI (ng (R 7)))) K (q_pad q) len ++ mdW y b (rsS (R 1) q (nI 1)) (rsQ (R 1) q kp (nI 1))) (congrArg (fun w : va_W => w ++ mdW y b (rsS (R 1) q (nI 1)) (rsQ (R 1) q kp (nI 1))) (ts_ag (upG_ag (h.2.2.2.2.2 rfl).1) upG_ot)) ?_
        exact lw_nx G (IH _ _ _ _ _ _ _ _ _ _ _ _ (LK_re1 h))
