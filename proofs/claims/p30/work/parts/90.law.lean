section ZQS
variable {D : va_G} {y : Nat → ClassId} {X : zX} {cc : ByteArray} {own : String} {rm : Room} {nm : Nat} {Ts : List Cond} {ws : va_W} {k n pc : Nat} {lv : List (Nat × Value)} {st : List Value}
theorem z_wViS {t : Nat} (hZ : zSX t X) (G : zG D y X cc own rm nm Ts) {rest As : List Value} {b : Addr} {idx na : Nat} {yn : MethodName} {bytes : ByteArray} {maxL : Nat} {ret : Option FieldType} {wm : List Cond} {rm2 : Room} {Post : Int32 → va_W → Prop}
    (hM : ∀ l, zMiS l D y t yn wm rm2 (.ref b :: As) ws Post) (hk : zCal yn wm bytes maxL ret na) (hg : GoodIn Ts (wsV own idx yn.cls yn wm)) (q0 ci : Nat) {fs : List Value} {qc : vw_C} (hr : ws[q0]? = some (b, .inr (ci, fs))) (hc : vwCl[ci]? = some qc) (hcn : qc.1 = yn.cls) (hdg : decode cc pc = .ok (.invokevirtual idx, 3)) (hR : rm2.frames + 1 ≤ rm.frames ∧ 8 + (maxL + 11) + rm2.locals ≤ rm.locals) (hz : rm2.cells = 0 ∧ rm2.slots = 0) (hfit : k ≤ rm.cells ∧ n ≤ rm.slots) (hn : As.length = na) (hcat : (rest.map fun v => v.category).sum ≤ 8) (hst : st = (As.reverse ++ .ref b :: rest))
    (kk : ∀ (r : Int32) (w1 : va_W), Post r w1 → zV D X w1 k n (pc + 3) lv (.int r :: rest)) : zV D X ws k n pc lv st := by
  obtain ⟨h1, h2⟩ := hz
  have e := z_callViS hZ G (wc := ws) (wr := []) hM hk hg q0 ci hr hc hcn hdg hR (by rw [h1, h2]; exact hfit) hn hcat st hst (fun r1 w2 h => (by rw [h1, h2]; exact z_nil (kk r1 w2 h)))
  rwa [List.append_nil] at e
end ZQS
theorem se_13b {f : Nat → Int32} {k : Nat} (hk : k < 4) : coR1 f (nI (k + 13)) = f k := by rw [Nat.add_comm]; exact se_13 hk
/-- how the law's acts end -/
def PA (y : Nat → ClassId) (o : Nat) (sv : Option (Nat → Int32)) (k0 T : Nat) : Int32 → va_W → Prop := fun r w => r = nI 1 ∧ ∃ f, JV f (T + 99) ∧ TW y o f sv k0 w
set_option maxHeartbeats 8000000 in
set_option maxRecDepth 100000 in
theorem ac_104 {D : va_G} {y : Nat → ClassId} {f : Nat → Int32} {X : zX} {o : Nat} {sv : Option (Nat → Int32)} {k0 : Nat} (G : zG D y X cL_acts RL ({ frames := 8, cells := 0, slots := 0, locals := 194 }) 26 wsL_acts) {T : Nat} (h : JV f T) (hT9 : T ≤ 9800) {c g q : Nat} (hc : c < 2 ^ 31) (hg : g < 9) (hq : q < 9) (hE : HE D X cL_acts ({ frames := 8, cells := 0, slots := 0, locals := 194 }) (PA y o sv k0 T)) (w : va_W) (hT : TW y o f sv k0 w) : zV D X w 0 0 104 [(0, .ref (o)), (1, .int (nI (c))), (2, .int (nI (g))), (3, .int (nI (q))), (4, .int (ofR1 f (nI g) (nI 0))), (5, .int (ofR1 f (nI g) (nI 2))), (6, .int (nI (ng f))), (7, .int (owR f (nI g) (nI q)))] [] := by
  obtain ⟨p, hp, ep⟩ : ∃ p, p < 30 ∧ c / 4096 % 30 = p := ⟨_, Nat.mod_lt _ (by decide), rfl⟩
  refine z_aload_n G dL_acts_104 0 rfl ?_
  refine z_iconst (v := nI 1) G dL_acts_105 rfl ?_
  refine z_iload_n G dL_acts_106 1 rfl ?_
  refine z_bipush (v := nI 12) G dL_acts_107 rfl ?_
  refine z_ishrN G (c / 4096) dL_acts_109 (by omega) (by decide) (by omega) ?_
  refine z_bipush (v := nI 30) G dL_acts_110 rfl ?_
  refine z_iremN G (p) dL_acts_112 (by omega) (by decide) (by decide) ep ?_
  refine z_iaddN G dL_acts_113 (p + 1) (by omega) ?_
  by_cases n : ng f = 9
  · have hM : LC D y yX5_guest wsX5_guest ({ frames := 6, cells := 0, slots := 0, locals := 145 }) [.int (nI (p + 1))] f (-4) (f) := by
      have z := lc_guest (D := D) (y := y) h.iv (nI (p + 1))
      rw [co_9 (by omega) (by omega) n] at z
      exact z
    refine z_q (As := [_]) G (hM) hT k_X5_guest gL_acts_X5_guest rfl dL_acts_114 ⟨by decide, by decide⟩ ⟨rfl, rfl⟩ ⟨Nat.zero_le _, Nat.zero_le _⟩ rfl (Nat.le_of_ble_eq_true rfl) rfl ?_
    intro w hT
    refine z_istoreA G dL_acts_117 (by decide) rfl ?_
    refine z_iload G dL_acts_119 6 rfl ?_
    refine z_bipush (v := nI 9) G dL_acts_121 rfl ?_
    refine z_icmp_neF G dL_acts_123 141 (by decide) (by rw [n]) ?_
    refine z_iload G dL_acts_126 8 rfl ?_
    refine z_bipush (v := (-4)) G dL_acts_128 rfl ?_
    refine z_icmp_neF G dL_acts_130 137 (by decide) rfl ?_
    refine z_iconst (v := nI 1) G dL_acts_133 rfl ?_
    refine z_goto (tgt := 212) G dL_acts_134 (by decide) ?_
    exact hE _ _ _ _ dL_acts_212 rfl ⟨rfl, f, h.mono (by omega), hT⟩
  · obtain ⟨g9, gf⟩ := fre_9 n
    have hM : LC D y yX5_guest wsX5_guest ({ frames := 6, cells := 0, slots := 0, locals := 145 }) [.int (nI (p + 1))] f (nI (fre f 9 0)) (nwF f (fre f 9 0) (nI (p + 1))) := by
      have z := lc_guest (D := D) (y := y) h.iv (nI (p + 1))
      rw [co_n (by omega) (by omega) n] at z
      exact z
    have hv : JV (nwF f (fre f 9 0) (nI (p + 1))) T := JV_nw h g9 gf (by omega) (by omega)
    refine z_q (As := [_]) G (hM) hT k_X5_guest gL_acts_X5_guest rfl dL_acts_114 ⟨by decide, by decide⟩ ⟨rfl, rfl⟩ ⟨Nat.zero_le _, Nat.zero_le _⟩ rfl (Nat.le_of_ble_eq_true rfl) rfl ?_
    intro w hT
    refine z_istoreA G dL_acts_117 (by decide) rfl ?_
    refine z_iload G dL_acts_119 6 rfl ?_
    refine z_bipush (v := nI 9) G dL_acts_121 rfl ?_
    refine z_icmp_neT G dL_acts_123 141 (by decide) (fun z => n ((nI_eq (by have := ng_le f; omega) (by decide)).mp z)) ?_
    refine z_iload G dL_acts_141 8 rfl ?_
    refine z_if_ltF G dL_acts_143 211 (by decide) (nI_pos (by omega)) ?_
    refine z_aload_n G dL_acts_146 0 rfl ?_
    refine z_iload G dL_acts_147 8 rfl ?_
    refine z_iconst (v := nI 0) G dL_acts_149 rfl ?_
    refine z_q (As := [_, _]) G (lc_of hv.iv (nI (fre f 9 0)) (nI (0))) hT k_X5_of gL_acts_X5_of rfl dL_acts_150 ⟨by decide, by decide⟩ ⟨rfl, rfl⟩ ⟨Nat.zero_le _, Nat.zero_le _⟩ rfl (Nat.le_of_ble_eq_true rfl) rfl ?_
    intro w hT
    refine z_iload G dL_acts_153 6 rfl ?_
    refine z_icmp_neF G dL_acts_155 211 (by decide) (nw_0 g9) ?_
    refine z_aload_n G dL_acts_158 0 rfl ?_
    refine z_iload G dL_acts_159 8 rfl ?_
    refine z_iconst (v := nI 1) G dL_acts_161 rfl ?_
    refine z_q (As := [_, _]) G (lc_of hv.iv (nI (fre f 9 0)) (nI (1))) hT k_X5_of gL_acts_X5_of rfl dL_acts_162 ⟨by decide, by decide⟩ ⟨rfl, rfl⟩ ⟨Nat.zero_le _, Nat.zero_le _⟩ rfl (Nat.le_of_ble_eq_true rfl) rfl ?_
    intro w hT
    refine z_iconst (v := nI 1) G dL_acts_165 rfl ?_
    refine z_iload_n G dL_acts_166 1 rfl ?_
    refine z_bipush (v := nI 12) G dL_acts_167 rfl ?_
    refine z_ishrN G (c / 4096) dL_acts_169 (by omega) (by decide) (by omega) ?_
    refine z_bipush (v := nI 30) G dL_acts_170 rfl ?_
    refine z_iremN G (p) dL_acts_172 (by omega) (by decide) (by decide) ep ?_
    refine z_iaddN G dL_acts_173 (p + 1) (by omega) ?_
    refine z_icmp_neF G dL_acts_174 211 (by decide) (nw_1 g9) ?_
    refine z_aload_n G dL_acts_177 0 rfl ?_
    refine z_iload G dL_acts_178 8 rfl ?_
    refine z_iconst (v := nI 2) G dL_acts_180 rfl ?_
    refine z_q (As := [_, _]) G (lc_of hv.iv (nI (fre f 9 0)) (nI (2))) hT k_X5_of gL_acts_X5_of rfl dL_acts_181 ⟨by decide, by decide⟩ ⟨rfl, rfl⟩ ⟨Nat.zero_le _, Nat.zero_le _⟩ rfl (Nat.le_of_ble_eq_true rfl) rfl ?_
    intro w hT
    refine z_if_neF G dL_acts_184 211 (by decide) (nw_2 h.iv g9 gf) ?_
    refine z_aload_n G dL_acts_187 0 rfl ?_
    refine z_iload G dL_acts_188 8 rfl ?_
    refine z_bipush (v := nI 6) G dL_acts_190 rfl ?_
    refine z_q (As := [_, _]) G (lc_of hv.iv (nI (fre f 9 0)) (nI (6))) hT k_X5_of gL_acts_X5_of rfl dL_acts_192 ⟨by decide, by decide⟩ ⟨rfl, rfl⟩ ⟨Nat.zero_le _, Nat.zero_le _⟩ rfl (Nat.le_of_ble_eq_true rfl) rfl ?_
    intro w hT
    refine z_aload_n G dL_acts_195 0 rfl ?_
    refine z_iload G dL_acts_196 8 rfl ?_
    refine z_bipush (v := nI 7) G dL_acts_198 rfl ?_
    refine z_q (As := [_, _]) G (lc_of hv.iv (nI (fre f 9 0)) (nI (7))) hT k_X5_of gL_acts_X5_of rfl dL_acts_200 ⟨by decide, by decide⟩ ⟨rfl, rfl⟩ ⟨Nat.zero_le _, Nat.zero_le _⟩ rfl (Nat.le_of_ble_eq_true rfl) rfl ?_
    intro w hT
    refine z_iadd G dL_acts_203 ?_
    refine z_if_neF G dL_acts_204 211 (by decide) (nw_67 h.iv h.jo g9 gf) ?_
    refine z_iconst (v := nI 1) G dL_acts_207 rfl ?_
    refine z_goto (tgt := 212) G dL_acts_208 (by decide) ?_
    exact hE _ _ _ _ dL_acts_212 rfl ⟨rfl, _, hv.mono (by omega), hT⟩

set_option maxHeartbeats 8000000 in
set_option maxRecDepth 100000 in
theorem ac_213 {D : va_G} {y : Nat → ClassId} {f : Nat → Int32} {X : zX} {o : Nat} {sv : Option (Nat → Int32)} {k0 : Nat} (G : zG D y X cL_acts RL ({ frames := 8, cells := 0, slots := 0, locals := 194 }) 26 wsL_acts) {T : Nat} (h : JV f T) (hT9 : T ≤ 9800) {c g q : Nat} (hc : c < 2 ^ 31) (hg : g < 9) (hq : q < 9) (hE : HE D X cL_acts ({ frames := 8, cells := 0, slots := 0, locals := 194 }) (PA y o sv k0 T)) (w : va_W) (hT : TW y o f sv k0 w) : zV D X w 0 0 213 [(0, .ref (o)), (1, .int (nI (c))), (2, .int (nI (g))), (3, .int (nI (q))), (4, .int (ofR1 f (nI g) (nI 0))), (5, .int (ofR1 f (nI g) (nI 2))), (6, .int (nI (ng f))), (7, .int (owR f (nI g) (nI q)))] [] := by
  obtain ⟨p, hp, ep⟩ : ∃ p, p < 4 ∧ c / 4096 % 4 = p := ⟨_, Nat.mod_lt _ (by decide), rfl⟩
  refine z_aload_n G dL_acts_213 0 rfl ?_
  refine z_bipush (v := nI 6) G dL_acts_214 rfl ?_
  refine z_q (As := [_]) G (lc_count h.iv (nI (6)) (by decide) (by decide)) hT k_X5_count gL_acts_X5_count rfl dL_acts_216 ⟨by decide, by decide⟩ ⟨rfl, rfl⟩ ⟨Nat.zero_le _, Nat.zero_le _⟩ rfl (Nat.le_of_ble_eq_true rfl) rfl ?_
  intro w hT
  refine z_top (w := .int (f 8)) (congrArg Value.int (cow_6 f)) ?_
  refine z_aload_n G dL_acts_219 0 rfl ?_
  refine z_iload_n G dL_acts_220 2 rfl ?_
  refine z_bipush (v := nI 6) G dL_acts_221 rfl ?_
  refine z_q (As := [_, _]) G (lc_of h.iv (nI (g)) (nI (6))) hT k_X5_of gL_acts_X5_of rfl dL_acts_223 ⟨by decide, by decide⟩ ⟨rfl, rfl⟩ ⟨Nat.zero_le _, Nat.zero_le _⟩ rfl (Nat.le_of_ble_eq_true rfl) rfl ?_
  intro w hT
  refine z_iadd G dL_acts_226 ?_
  refine z_aload_n G dL_acts_227 0 rfl ?_
  refine z_iload_n G dL_acts_228 2 rfl ?_
  refine z_bipush (v := nI 7) G dL_acts_229 rfl ?_
  refine z_q (As := [_, _]) G (lc_of h.iv (nI (g)) (nI (7))) hT k_X5_of gL_acts_X5_of rfl dL_acts_231 ⟨by decide, by decide⟩ ⟨rfl, rfl⟩ ⟨Nat.zero_le _, Nat.zero_le _⟩ rfl (Nat.le_of_ble_eq_true rfl) rfl ?_
  intro w hT
  refine z_iadd G dL_acts_234 ?_
  refine z_istoreA G dL_acts_235 (by decide) rfl ?_
  refine z_iload_n G dL_acts_237 1 rfl ?_
  refine z_bipush (v := nI 12) G dL_acts_238 rfl ?_
  refine z_ishrN G (c / 4096) dL_acts_240 (by omega) (by decide) (by omega) ?_
  refine z_iconst (v := nI 4) G dL_acts_241 rfl ?_
  refine z_iremN G (p) dL_acts_242 (by omega) (by decide) (by decide) ep ?_
  refine z_if_le G dL_acts_243 251 (by decide) (fun c243 => ?_) (fun c243 => ?_)
  · refine z_aload_n G dL_acts_251 0 rfl ?_
    refine z_iload_n G dL_acts_252 2 rfl ?_
    cases sg : gs f g
    · have hM : LC D y yX5_leave wsX5_leave ({ frames := 6, cells := 0, slots := 0, locals := 145 }) [.int (nI g)] f (-1) (f) := by
        have z := lc_leave (D := D) (y := y) h.iv (nI g)
        rw [le_f hg sg] at z
        exact z
      refine z_q (As := [_]) G (hM) hT k_X5_leave gL_acts_X5_leave rfl dL_acts_253 ⟨by decide, by decide⟩ ⟨rfl, rfl⟩ ⟨Nat.zero_le _, Nat.zero_le _⟩ rfl (Nat.le_of_ble_eq_true rfl) rfl ?_
      intro w hT
      refine z_istoreA G dL_acts_256 (by decide) rfl ?_
      refine z_iload G dL_acts_258 9 rfl ?_
      refine z_bipush (v := (-9)) G dL_acts_260 rfl ?_
      refine z_icmp_eqF G dL_acts_262 309 (by decide) (by decide) ?_
      refine z_iload G dL_acts_265 4 rfl ?_
      refine z_if_geF G dL_acts_267 279 (by decide) (by rw [of_f hg sg]; decide) ?_
      refine z_iload G dL_acts_270 9 rfl ?_
      refine z_iconst (v := (-1)) G dL_acts_272 rfl ?_
      refine z_icmp_neF G dL_acts_273 313 (by decide) rfl ?_
      refine z_goto (tgt := 309) G dL_acts_276 (by decide) ?_
      refine z_iconst (v := nI 1) G dL_acts_309 rfl ?_
      refine z_goto (tgt := 314) G dL_acts_310 (by decide) ?_
      exact hE _ _ _ _ dL_acts_314 rfl ⟨rfl, f, h.mono (by omega), hT⟩
    · have hM : LC D y yX5_leave wsX5_leave ({ frames := 6, cells := 0, slots := 0, locals := 145 }) [.int (nI g)] f (f (14 + 17 * g)) (lvF f g) := by
        have z := lc_leave (D := D) (y := y) h.iv (nI g)
        rw [le_t hg sg] at z
        exact z
      have hv : JV (lvF f g) T := JV_lv h hg sg
      refine z_q (As := [_]) G (hM) hT k_X5_leave gL_acts_X5_leave rfl dL_acts_253 ⟨by decide, by decide⟩ ⟨rfl, rfl⟩ ⟨Nat.zero_le _, Nat.zero_le _⟩ rfl (Nat.le_of_ble_eq_true rfl) rfl ?_
      intro w hT
      refine z_istoreA G dL_acts_256 (by decide) rfl ?_
      refine z_iload G dL_acts_258 9 rfl ?_
      refine z_bipush (v := (-9)) G dL_acts_260 rfl ?_
      refine z_icmp_eqF G dL_acts_262 309 (by decide) (seat_9 h.iv hg) ?_
      refine z_iload G dL_acts_265 4 rfl ?_
      refine z_if_geT G dL_acts_267 279 (by decide) (by rw [ofw_0 hg sg]; exact h.iv.sn g hg) ?_
      refine z_iload G dL_acts_279 9 rfl ?_
      refine z_iload G dL_acts_281 4 rfl ?_
      refine z_icmp_neF G dL_acts_283 313 (by decide) (ofw_0 hg sg).symm ?_
      refine z_aload_n G dL_acts_286 0 rfl ?_
      refine z_iconst (v := nI 1) G dL_acts_287 rfl ?_
      refine z_q (As := [_]) G (lc_count hv.iv (nI (1)) (by decide) (by decide)) hT k_X5_count gL_acts_X5_count rfl dL_acts_288 ⟨by decide, by decide⟩ ⟨rfl, rfl⟩ ⟨Nat.zero_le _, Nat.zero_le _⟩ rfl (Nat.le_of_ble_eq_true rfl) rfl ?_
      intro w hT
      refine z_top (w := .int (nI (ng ((lvF f g))))) (congrArg Value.int (cow_1 (lvF f g))) ?_
      refine z_iload G dL_acts_291 6 rfl ?_
      refine z_iconst (v := nI 1) G dL_acts_293 rfl ?_
      refine z_isub G dL_acts_294 ?_
      refine z_icmp_neF G dL_acts_295 313 (by decide) (lv_n1 h.iv hg sg) ?_
      refine z_aload_n G dL_acts_298 0 rfl ?_
      refine z_bipush (v := nI 6) G dL_acts_299 rfl ?_
      refine z_q (As := [_]) G (lc_count hv.iv (nI (6)) (by decide) (by decide)) hT k_X5_count gL_acts_X5_count rfl dL_acts_301 ⟨by decide, by decide⟩ ⟨rfl, rfl⟩ ⟨Nat.zero_le _, Nat.zero_le _⟩ rfl (Nat.le_of_ble_eq_true rfl) rfl ?_
      intro w hT
      refine z_top (w := .int ((lvF f g) 8)) (congrArg Value.int (cow_6 (lvF f g))) ?_
      refine z_iload G dL_acts_304 8 rfl ?_
      refine z_icmp_neF G dL_acts_306 313 (by decide) (by rw [ofw_6 hg sg, ofw_7 hg sg]; exact lv_8b h.iv hg) ?_
      refine z_iconst (v := nI 1) G dL_acts_309 rfl ?_
      refine z_goto (tgt := 314) G dL_acts_310 (by decide) ?_
      exact hE _ _ _ _ dL_acts_314 rfl ⟨rfl, _, hv.mono (by omega), hT⟩
  · refine z_bipush (v := (-9)) G dL_acts_246 rfl ?_
    refine z_goto (tgt := 256) G dL_acts_248 (by decide) ?_
    refine z_istoreA G dL_acts_256 (by decide) rfl ?_
    refine z_iload G dL_acts_258 9 rfl ?_
    refine z_bipush (v := (-9)) G dL_acts_260 rfl ?_
    refine z_icmp_eqT G dL_acts_262 309 (by decide) rfl ?_
    refine z_iconst (v := nI 1) G dL_acts_309 rfl ?_
    refine z_goto (tgt := 314) G dL_acts_310 (by decide) ?_
    exact hE _ _ _ _ dL_acts_314 rfl ⟨rfl, f, h.mono (by omega), hT⟩

set_option maxHeartbeats 8000000 in
set_option maxRecDepth 100000 in
theorem ac_315 {D : va_G} {y : Nat → ClassId} {f : Nat → Int32} {X : zX} {o : Nat} {sv : Option (Nat → Int32)} {k0 : Nat} (G : zG D y X cL_acts RL ({ frames := 8, cells := 0, slots := 0, locals := 194 }) 26 wsL_acts) {T : Nat} (h : JV f T) (hT9 : T ≤ 9800) {c g q : Nat} (hc : c < 2 ^ 31) (hg : g < 9) (hq : q < 9) (hE : HE D X cL_acts ({ frames := 8, cells := 0, slots := 0, locals := 194 }) (PA y o sv k0 T)) (w : va_W) (hT : TW y o f sv k0 w) : zV D X w 0 0 315 [(0, .ref (o)), (1, .int (nI (c))), (2, .int (nI (g))), (3, .int (nI (q))), (4, .int (ofR1 f (nI g) (nI 0))), (5, .int (ofR1 f (nI g) (nI 2))), (6, .int (nI (ng f))), (7, .int (owR f (nI g) (nI q)))] [] := by
  refine z_aload_n G dL_acts_315 0 rfl ?_
  refine z_bipush (v := nI 9) G dL_acts_316 rfl ?_
  refine z_q (As := [_]) G (lc_count h.iv (nI (9)) (by decide) (by decide)) hT k_X5_count gL_acts_X5_count rfl dL_acts_318 ⟨by decide, by decide⟩ ⟨rfl, rfl⟩ ⟨Nat.zero_le _, Nat.zero_le _⟩ rfl (Nat.le_of_ble_eq_true rfl) rfl ?_
  intro w hT
  refine z_top (w := .int (f 11)) (congrArg Value.int (cow_9 f)) ?_
  refine z_istoreA G dL_acts_321 (by decide) rfl ?_
  refine z_aload_n G dL_acts_323 0 rfl ?_
  refine z_iload_n G dL_acts_324 2 rfl ?_
  cases sg : gs f g
  · have hM : LC D y yX5_word wsX5_word ({ frames := 6, cells := 0, slots := 0, locals := 145 }) [.int (nI g)] f (-1) (f) := by
      have z := lc_word (D := D) (y := y) h.iv (nI g)
      rw [wr_f hg sg] at z
      exact z
    refine z_q (As := [_]) G (hM) hT k_X5_word gL_acts_X5_word rfl dL_acts_325 ⟨by decide, by decide⟩ ⟨rfl, rfl⟩ ⟨Nat.zero_le _, Nat.zero_le _⟩ rfl (Nat.le_of_ble_eq_true rfl) rfl ?_
    intro w hT
    refine z_iload G dL_acts_328 4 rfl ?_
    refine z_if_geF G dL_acts_330 337 (by decide) (by rw [of_f hg sg]; decide) ?_
    refine z_iconst (v := (-1)) G dL_acts_333 rfl ?_
    refine z_goto (tgt := 339) G dL_acts_334 (by decide) ?_
    refine z_icmp_neF G dL_acts_339 373 (by decide) rfl ?_
    refine z_iload G dL_acts_342 4 rfl ?_
    refine z_if_ltT G dL_acts_344 369 (by decide) (by rw [of_f hg sg]; decide) ?_
    refine z_iconst (v := nI 1) G dL_acts_369 rfl ?_
    refine z_goto (tgt := 374) G dL_acts_370 (by decide) ?_
    exact hE _ _ _ _ dL_acts_374 rfl ⟨rfl, f, h.mono (by omega), hT⟩
  · have hM : LC D y yX5_word wsX5_word ({ frames := 6, cells := 0, slots := 0, locals := 145 }) [.int (nI g)] f (f (16 + 17 * g)) (woF f g) := by
      have z := lc_word (D := D) (y := y) h.iv (nI g)
      rw [wr_t hg sg] at z
      exact z
    have hv : JV (woF f g) T := JV_wo h sg
    refine z_q (As := [_]) G (hM) hT k_X5_word gL_acts_X5_word rfl dL_acts_325 ⟨by decide, by decide⟩ ⟨rfl, rfl⟩ ⟨Nat.zero_le _, Nat.zero_le _⟩ rfl (Nat.le_of_ble_eq_true rfl) rfl ?_
    intro w hT
    refine z_iload G dL_acts_328 4 rfl ?_
    refine z_if_geT G dL_acts_330 337 (by decide) (by rw [ofw_0 hg sg]; exact h.iv.sn g hg) ?_
    refine z_iload G dL_acts_337 5 rfl ?_
    refine z_icmp_neF G dL_acts_339 373 (by decide) (ofw_2 hg sg).symm ?_
    refine z_iload G dL_acts_342 4 rfl ?_
    refine z_if_ltF G dL_acts_344 369 (by decide) (by rw [ofw_0 hg sg]; exact seat_0 h.iv hg) ?_
    refine z_aload_n G dL_acts_347 0 rfl ?_
    refine z_iload_n G dL_acts_348 2 rfl ?_
    refine z_iconst (v := nI 2) G dL_acts_349 rfl ?_
    refine z_q (As := [_, _]) G (lc_of hv.iv (nI (g)) (nI (2))) hT k_X5_of gL_acts_X5_of rfl dL_acts_350 ⟨by decide, by decide⟩ ⟨rfl, rfl⟩ ⟨Nat.zero_le _, Nat.zero_le _⟩ rfl (Nat.le_of_ble_eq_true rfl) rfl ?_
    intro w hT
    refine z_top (w := .int ((woF f g) (16 + 17 * g))) (congrArg Value.int (ofw_2 hg (wo_gs sg))) ?_
    refine z_if_neF G dL_acts_353 373 (by decide) wo_16 ?_
    refine z_aload_n G dL_acts_356 0 rfl ?_
    refine z_bipush (v := nI 9) G dL_acts_357 rfl ?_
    refine z_q (As := [_]) G (lc_count hv.iv (nI (9)) (by decide) (by decide)) hT k_X5_count gL_acts_X5_count rfl dL_acts_359 ⟨by decide, by decide⟩ ⟨rfl, rfl⟩ ⟨Nat.zero_le _, Nat.zero_le _⟩ rfl (Nat.le_of_ble_eq_true rfl) rfl ?_
    intro w hT
    refine z_top (w := .int ((woF f g) 11)) (congrArg Value.int (cow_9 (woF f g))) ?_
    refine z_iload G dL_acts_362 8 rfl ?_
    refine z_iconst (v := nI 1) G dL_acts_364 rfl ?_
    refine z_iadd G dL_acts_365 ?_
    refine z_icmp_neF G dL_acts_366 373 (by decide) wo_11 ?_
    refine z_iconst (v := nI 1) G dL_acts_369 rfl ?_
    refine z_goto (tgt := 374) G dL_acts_370 (by decide) ?_
    exact hE _ _ _ _ dL_acts_374 rfl ⟨rfl, _, hv.mono (by omega), hT⟩

set_option maxHeartbeats 8000000 in
set_option maxRecDepth 100000 in
theorem ac_375 {D : va_G} {y : Nat → ClassId} {f : Nat → Int32} {X : zX} {o : Nat} {sv : Option (Nat → Int32)} {k0 : Nat} (G : zG D y X cL_acts RL ({ frames := 8, cells := 0, slots := 0, locals := 194 }) 26 wsL_acts) {T : Nat} (h : JV f T) (hT9 : T ≤ 9800) {c g q : Nat} (hc : c < 2 ^ 31) (hg : g < 9) (hq : q < 9) (hE : HE D X cL_acts ({ frames := 8, cells := 0, slots := 0, locals := 194 }) (PA y o sv k0 T)) (w : va_W) (hT : TW y o f sv k0 w) : zV D X w 0 0 375 [(0, .ref (o)), (1, .int (nI (c))), (2, .int (nI (g))), (3, .int (nI (q))), (4, .int (ofR1 f (nI g) (nI 0))), (5, .int (ofR1 f (nI g) (nI 2))), (6, .int (nI (ng f))), (7, .int (owR f (nI g) (nI q)))] [] := by
  refine z_aload_n G dL_acts_375 0 rfl ?_
  refine z_iconst (v := nI 5) G dL_acts_376 rfl ?_
  refine z_q (As := [_]) G (lc_count h.iv (nI (5)) (by decide) (by decide)) hT k_X5_count gL_acts_X5_count rfl dL_acts_377 ⟨by decide, by decide⟩ ⟨rfl, rfl⟩ ⟨Nat.zero_le _, Nat.zero_le _⟩ rfl (Nat.le_of_ble_eq_true rfl) rfl ?_
  intro w hT
  refine z_top (w := .int (f 7)) (congrArg Value.int (cow_5 f)) ?_
  refine z_istoreA G dL_acts_380 (by decide) rfl ?_
  refine z_aload_n G dL_acts_382 0 rfl ?_
  refine z_iload_n G dL_acts_383 2 rfl ?_
  refine z_iload_n G dL_acts_384 3 rfl ?_
  rcases pr_is (f := f) hg hq with cp | ⟨n, sg, sq, cp⟩
  · have hM : LC D y yX5_bow wsX5_bow ({ frames := 6, cells := 0, slots := 0, locals := 145 }) [.int (nI g), .int (nI q)] f (pairE f (nI g) (nI q)) (f) := by
      have z := lc_bow (D := D) (y := y) h.iv (nI g) (nI q)
      rw [bo_lt cp] at z
      exact z
    refine z_q (As := [_, _]) G (hM) hT k_X5_bow gL_acts_X5_bow rfl dL_acts_385 ⟨by decide, by decide⟩ ⟨rfl, rfl⟩ ⟨Nat.zero_le _, Nat.zero_le _⟩ rfl (Nat.le_of_ble_eq_true rfl) rfl ?_
    intro w hT
    refine z_istoreA G dL_acts_388 (by decide) rfl ?_
    refine z_iload G dL_acts_390 7 rfl ?_
    refine z_if_geF G dL_acts_392 410 (by decide) (by rw [ow_lt cp]; exact Int32.not_le.mpr cp) ?_
    refine z_iload G dL_acts_395 9 rfl ?_
    refine z_iload G dL_acts_397 7 rfl ?_
    refine z_icmp_neF G dL_acts_399 406 (by decide) (ow_lt cp).symm ?_
    refine z_iconst (v := nI 1) G dL_acts_402 rfl ?_
    refine z_goto (tgt := 467) G dL_acts_403 (by decide) ?_
    exact hE _ _ _ _ dL_acts_467 rfl ⟨rfl, f, h.mono (by omega), hT⟩
  · by_cases e : f (21 + 17 * g + q) = 0
    · have hM : LC D y yX5_bow wsX5_bow ({ frames := 6, cells := 0, slots := 0, locals := 145 }) [.int (nI g), .int (nI q)] f (-5) (f) := by
        have z := lc_bow (D := D) (y := y) h.iv (nI g) (nI q)
        rw [bo_0 hg hq cp e] at z
        exact z
      refine z_q (As := [_, _]) G (hM) hT k_X5_bow gL_acts_X5_bow rfl dL_acts_385 ⟨by decide, by decide⟩ ⟨rfl, rfl⟩ ⟨Nat.zero_le _, Nat.zero_le _⟩ rfl (Nat.le_of_ble_eq_true rfl) rfl ?_
      intro w hT
      refine z_istoreA G dL_acts_388 (by decide) rfl ?_
      refine z_iload G dL_acts_390 7 rfl ?_
      refine z_if_geT G dL_acts_392 410 (by decide) (by rw [ow_t hg hq n sg sq]; exact Int32.not_lt.mp (cell_0 h.iv hg hq)) ?_
      refine z_iload G dL_acts_410 7 rfl ?_
      refine z_if_neF G dL_acts_412 430 (by decide) (by rw [ow_t hg hq n sg sq]; exact e) ?_
      refine z_iload G dL_acts_415 9 rfl ?_
      refine z_bipush (v := (-5)) G dL_acts_417 rfl ?_
      refine z_icmp_neF G dL_acts_419 426 (by decide) rfl ?_
      refine z_iconst (v := nI 1) G dL_acts_422 rfl ?_
      refine z_goto (tgt := 467) G dL_acts_423 (by decide) ?_
      exact hE _ _ _ _ dL_acts_467 rfl ⟨rfl, f, h.mono (by omega), hT⟩
    · have hM : LC D y yX5_bow wsX5_bow ({ frames := 6, cells := 0, slots := 0, locals := 145 }) [.int (nI g), .int (nI q)] f (f (21 + 17 * g + q) - 1) (payF f g q) := by
        have z := lc_bow (D := D) (y := y) h.iv (nI g) (nI q)
        rw [bo_n hg hq cp e] at z
        exact z
      have hv : JV (payF f g q) T := by
        have z := JV_bo h (nI g) (nI q)
        rw [bo_n hg hq cp e] at z
        exact z
      refine z_q (As := [_, _]) G (hM) hT k_X5_bow gL_acts_X5_bow rfl dL_acts_385 ⟨by decide, by decide⟩ ⟨rfl, rfl⟩ ⟨Nat.zero_le _, Nat.zero_le _⟩ rfl (Nat.le_of_ble_eq_true rfl) rfl ?_
      intro w hT
      refine z_istoreA G dL_acts_388 (by decide) rfl ?_
      refine z_iload G dL_acts_390 7 rfl ?_
      refine z_if_geT G dL_acts_392 410 (by decide) (by rw [ow_t hg hq n sg sq]; exact Int32.not_lt.mp (cell_0 h.iv hg hq)) ?_
      refine z_iload G dL_acts_410 7 rfl ?_
      refine z_if_neT G dL_acts_412 430 (by decide) (by rw [ow_t hg hq n sg sq]; exact e) ?_
      refine z_iload G dL_acts_430 9 rfl ?_
      refine z_iload G dL_acts_432 7 rfl ?_
      refine z_iconst (v := nI 1) G dL_acts_434 rfl ?_
      refine z_isub G dL_acts_435 ?_
      refine z_icmp_neF G dL_acts_436 466 (by decide) (by rw [ow_t hg hq n sg sq]; rfl) ?_
      refine z_aload_n G dL_acts_439 0 rfl ?_
      refine z_iconst (v := nI 5) G dL_acts_440 rfl ?_
      refine z_q (As := [_]) G (lc_count hv.iv (nI (5)) (by decide) (by decide)) hT k_X5_count gL_acts_X5_count rfl dL_acts_441 ⟨by decide, by decide⟩ ⟨rfl, rfl⟩ ⟨Nat.zero_le _, Nat.zero_le _⟩ rfl (Nat.le_of_ble_eq_true rfl) rfl ?_
      intro w hT
      refine z_top (w := .int ((payF f g q) 7)) (congrArg Value.int (cow_5 (payF f g q))) ?_
      refine z_iload G dL_acts_444 8 rfl ?_
      refine z_iconst (v := nI 1) G dL_acts_446 rfl ?_
      refine z_iadd G dL_acts_447 ?_
      refine z_icmp_neF G dL_acts_448 466 (by decide) (pay_7 e) ?_
      refine z_aload_n G dL_acts_451 0 rfl ?_
      refine z_iload_n G dL_acts_452 2 rfl ?_
      refine z_iload_n G dL_acts_453 3 rfl ?_
      refine z_q (As := [_, _]) G (lc_owes hv.iv (nI (g)) (nI (q))) hT k_X5_owes gL_acts_X5_owes rfl dL_acts_454 ⟨by decide, by decide⟩ ⟨rfl, rfl⟩ ⟨Nat.zero_le _, Nat.zero_le _⟩ rfl (Nat.le_of_ble_eq_true rfl) rfl ?_
      intro w hT
      refine z_iload G dL_acts_457 9 rfl ?_
      refine z_icmp_neF G dL_acts_459 466 (by decide) (by rw [ow_t hg hq n ((pay_gs hq).trans sg) ((pay_gs hq).trans sq)]; exact pay_c hq e) ?_
      refine z_iconst (v := nI 1) G dL_acts_462 rfl ?_
      refine z_goto (tgt := 467) G dL_acts_463 (by decide) ?_
      exact hE _ _ _ _ dL_acts_467 rfl ⟨rfl, _, hv.mono (by omega), hT⟩

set_option maxHeartbeats 8000000 in
set_option maxRecDepth 100000 in
theorem ac_525 {D : va_G} {y : Nat → ClassId} {f : Nat → Int32} {X : zX} {o : Nat} {sv : Option (Nat → Int32)} {k0 : Nat} (G : zG D y X cL_acts RL ({ frames := 8, cells := 0, slots := 0, locals := 194 }) 26 wsL_acts) {T : Nat} (h : JV f T) (hT9 : T ≤ 9800) {c g q : Nat} (hc : c < 2 ^ 31) (hg : g < 9) (hq : q < 9) (hE : HE D X cL_acts ({ frames := 8, cells := 0, slots := 0, locals := 194 }) (PA y o sv k0 T)) (n : g ≠ q) (sg : gs f g = true) (sq : gs f q = true) (e : rsn f q = 0) (w : va_W) (hT : TW y o (ofF f g q (cu f)) sv k0 w) : zV D X w 0 0 525 [(0, .ref (o)), (1, .int (nI (c))), (2, .int (nI (g))), (3, .int (nI (q))), (4, .int (ofR1 f (nI g) (nI 0))), (5, .int (ofR1 f (nI g) (nI 2))), (6, .int (nI (ng f))), (7, .int (f (21 + 17 * g + q))), (14, .int (f (21 + 17 * q + g))), (15, .int (rsn f q)), (16, .int (f 9)), (17, .int (f (17 + 17 * q))), (18, .int (ofF f g q (cu f) (21 + 17 * q + g)))] [.int (lsF f g q)] := by
  have hv : JV (ofF f g q (cu f)) (T + 9) := JV_ofF h hg hq n sg sq e
  refine z_istoreA G dL_acts_525 (by decide) rfl ?_
  refine z_iload G dL_acts_527 7 rfl ?_
  refine z_if_geT G dL_acts_529 547 (by decide) (Int32.not_lt.mp (cell_0 h.iv hg hq)) ?_
  refine z_iload G dL_acts_547 9 rfl ?_
  refine z_if_leT G dL_acts_549 567 (by decide) (by rw [e]; decide) ?_
  refine z_iload G dL_acts_567 12 rfl ?_
  refine z_iload G dL_acts_569 8 rfl ?_
  refine z_iconst (v := nI 2) G dL_acts_571 rfl ?_
  refine z_iadd G dL_acts_572 ?_
  refine z_iload G dL_acts_573 13 rfl ?_
  refine z_isub G dL_acts_575 ?_
  refine z_icmp_neF G dL_acts_576 626 (by decide) (of_og hg hq n) ?_
  refine z_aload_n G dL_acts_579 0 rfl ?_
  refine z_iload_n G dL_acts_580 2 rfl ?_
  refine z_iload_n G dL_acts_581 3 rfl ?_
  refine z_q (As := [_, _]) G (lc_owes hv.iv (nI (g)) (nI (q))) hT k_X5_owes gL_acts_X5_owes rfl dL_acts_582 ⟨by decide, by decide⟩ ⟨rfl, rfl⟩ ⟨Nat.zero_le _, Nat.zero_le _⟩ rfl (Nat.le_of_ble_eq_true rfl) rfl ?_
  intro w hT
  refine z_iload G dL_acts_585 7 rfl ?_
  refine z_iload G dL_acts_587 13 rfl ?_
  refine z_isub G dL_acts_589 ?_
  refine z_icmp_neF G dL_acts_590 626 (by decide) (by rw [ow_t hg hq n ((of_gs hg hq).trans sg) ((of_gs hg hq).trans sq)]; exact of_go hg hq n) ?_
  refine z_aload_n G dL_acts_593 0 rfl ?_
  refine z_bipush (v := nI 7) G dL_acts_594 rfl ?_
  refine z_q (As := [_]) G (lc_count hv.iv (nI (7)) (by decide) (by decide)) hT k_X5_count gL_acts_X5_count rfl dL_acts_596 ⟨by decide, by decide⟩ ⟨rfl, rfl⟩ ⟨Nat.zero_le _, Nat.zero_le _⟩ rfl (Nat.le_of_ble_eq_true rfl) rfl ?_
  intro w hT
  refine z_top (w := .int ((ofF f g q (cu f)) 9)) (congrArg Value.int (cow_7 (ofF f g q (cu f)))) ?_
  refine z_iload G dL_acts_599 10 rfl ?_
  refine z_iconst (v := nI 2) G dL_acts_601 rfl ?_
  refine z_iload G dL_acts_602 13 rfl ?_
  refine z_imul G dL_acts_604 ?_
  refine z_iadd G dL_acts_605 ?_
  refine z_icmp_neF G dL_acts_606 626 (by decide) (of_c7 hg hq n) ?_
  refine z_aload_n G dL_acts_609 0 rfl ?_
  refine z_iload_n G dL_acts_610 3 rfl ?_
  refine z_iconst (v := nI 3) G dL_acts_611 rfl ?_
  refine z_q (As := [_, _]) G (lc_of hv.iv (nI (q)) (nI (3))) hT k_X5_of gL_acts_X5_of rfl dL_acts_612 ⟨by decide, by decide⟩ ⟨rfl, rfl⟩ ⟨Nat.zero_le _, Nat.zero_le _⟩ rfl (Nat.le_of_ble_eq_true rfl) rfl ?_
  intro w hT
  refine z_top (w := .int ((ofF f g q (cu f)) (17 + 17 * q))) (congrArg Value.int (ofw_3 hq ((of_gs hg hq).trans sq))) ?_
  refine z_iload G dL_acts_615 11 rfl ?_
  refine z_iconst (v := nI 1) G dL_acts_617 rfl ?_
  refine z_iadd G dL_acts_618 ?_
  refine z_icmp_neF G dL_acts_619 626 (by decide) (of_cu hg hq) ?_
  refine z_iconst (v := nI 1) G dL_acts_622 rfl ?_
  refine z_goto (tgt := 627) G dL_acts_623 (by decide) ?_
  exact hE _ _ _ _ dL_acts_627 rfl ⟨rfl, _, hv.mono (by omega), hT⟩

set_option maxHeartbeats 8000000 in
set_option maxRecDepth 100000 in
theorem ac_468 {D : va_G} {y : Nat → ClassId} {f : Nat → Int32} {X : zX} {o : Nat} {sv : Option (Nat → Int32)} {k0 : Nat} (G : zG D y X cL_acts RL ({ frames := 8, cells := 0, slots := 0, locals := 194 }) 26 wsL_acts) {T : Nat} (h : JV f T) (hT9 : T ≤ 9800) {c g q : Nat} (hc : c < 2 ^ 31) (hg : g < 9) (hq : q < 9) (hE : HE D X cL_acts ({ frames := 8, cells := 0, slots := 0, locals := 194 }) (PA y o sv k0 T)) (w : va_W) (hT : TW y o f sv k0 w) : zV D X w 0 0 468 [(0, .ref (o)), (1, .int (nI (c))), (2, .int (nI (g))), (3, .int (nI (q))), (4, .int (ofR1 f (nI g) (nI 0))), (5, .int (ofR1 f (nI g) (nI 2))), (6, .int (nI (ng f))), (7, .int (owR f (nI g) (nI q)))] [] := by
  refine z_aload_n G dL_acts_468 0 rfl ?_
  refine z_iload_n G dL_acts_469 3 rfl ?_
  refine z_iload_n G dL_acts_470 2 rfl ?_
  refine z_q (As := [_, _]) G (lc_owes h.iv (nI (q)) (nI (g))) hT k_X5_owes gL_acts_X5_owes rfl dL_acts_471 ⟨by decide, by decide⟩ ⟨rfl, rfl⟩ ⟨Nat.zero_le _, Nat.zero_le _⟩ rfl (Nat.le_of_ble_eq_true rfl) rfl ?_
  intro w hT
  refine z_istoreA G dL_acts_474 (by decide) rfl ?_
  refine z_aload_n G dL_acts_476 0 rfl ?_
  refine z_iload_n G dL_acts_477 3 rfl ?_
  refine z_q (As := [_]) G (lc_why h.iv (nI (q))) hT k_X5_why gL_acts_X5_why rfl dL_acts_478 ⟨by decide, by decide⟩ ⟨rfl, rfl⟩ ⟨Nat.zero_le _, Nat.zero_le _⟩ rfl (Nat.le_of_ble_eq_true rfl) rfl ?_
  intro w hT
  refine z_istoreA G dL_acts_481 (by decide) rfl ?_
  refine z_aload_n G dL_acts_483 0 rfl ?_
  refine z_bipush (v := nI 7) G dL_acts_484 rfl ?_
  refine z_q (As := [_]) G (lc_count h.iv (nI (7)) (by decide) (by decide)) hT k_X5_count gL_acts_X5_count rfl dL_acts_486 ⟨by decide, by decide⟩ ⟨rfl, rfl⟩ ⟨Nat.zero_le _, Nat.zero_le _⟩ rfl (Nat.le_of_ble_eq_true rfl) rfl ?_
  intro w hT
  refine z_top (w := .int (f 9)) (congrArg Value.int (cow_7 f)) ?_
  refine z_istoreA G dL_acts_489 (by decide) rfl ?_
  refine z_aload_n G dL_acts_491 0 rfl ?_
  refine z_iload_n G dL_acts_492 3 rfl ?_
  refine z_iconst (v := nI 3) G dL_acts_493 rfl ?_
  refine z_q (As := [_, _]) G (lc_of h.iv (nI (q)) (nI (3))) hT k_X5_of gL_acts_X5_of rfl dL_acts_494 ⟨by decide, by decide⟩ ⟨rfl, rfl⟩ ⟨Nat.zero_le _, Nat.zero_le _⟩ rfl (Nat.le_of_ble_eq_true rfl) rfl ?_
  intro w hT
  refine z_istoreA G dL_acts_497 (by decide) rfl ?_
  refine z_aload_n G dL_acts_499 0 rfl ?_
  refine z_iload_n G dL_acts_500 2 rfl ?_
  refine z_iload_n G dL_acts_501 3 rfl ?_
  rcases pr_is (f := f) hg hq with cp | ⟨n, sg, sq, cp⟩
  · have hM : LC D y yX5_offer wsX5_offer ({ frames := 6, cells := 0, slots := 0, locals := 145 }) [.int (nI g), .int (nI q)] f (pairE f (nI g) (nI q)) (f) := by
      have z := lc_offer (D := D) (y := y) h.iv (nI g) (nI q)
      rw [of_lt cp] at z
      exact z
    refine z_q (As := [_, _]) G (hM) hT k_X5_offer gL_acts_X5_offer rfl dL_acts_502 ⟨by decide, by decide⟩ ⟨rfl, rfl⟩ ⟨Nat.zero_le _, Nat.zero_le _⟩ rfl (Nat.le_of_ble_eq_true rfl) rfl ?_
    intro w hT
    refine z_istoreA G dL_acts_505 (by decide) rfl ?_
    refine z_iload G dL_acts_507 8 rfl ?_
    refine z_iconst (v := nI 2) G dL_acts_509 rfl ?_
    refine z_iadd G dL_acts_510 ?_
    refine z_iload G dL_acts_511 7 rfl ?_
    refine z_icmp_ge G dL_acts_513 523 (by decide) (fun c513 => ?_) (fun c513 => ?_)
    · refine z_iload G dL_acts_523 7 rfl ?_
      refine z_istoreA G dL_acts_525 (by decide) rfl ?_
      refine z_iload G dL_acts_527 7 rfl ?_
      refine z_if_geF G dL_acts_529 547 (by decide) (by rw [ow_lt cp]; exact Int32.not_le.mpr cp) ?_
      refine z_iload G dL_acts_532 12 rfl ?_
      refine z_iload G dL_acts_534 7 rfl ?_
      refine z_icmp_neF G dL_acts_536 543 (by decide) (ow_lt cp).symm ?_
      refine z_iconst (v := nI 1) G dL_acts_539 rfl ?_
      refine z_goto (tgt := 627) G dL_acts_540 (by decide) ?_
      exact hE _ _ _ _ dL_acts_627 rfl ⟨rfl, f, h.mono (by omega), hT⟩
    · refine z_iload G dL_acts_516 8 rfl ?_
      refine z_iconst (v := nI 2) G dL_acts_518 rfl ?_
      refine z_iadd G dL_acts_519 ?_
      refine z_goto (tgt := 525) G dL_acts_520 (by decide) ?_
      refine z_istoreA G dL_acts_525 (by decide) rfl ?_
      refine z_iload G dL_acts_527 7 rfl ?_
      refine z_if_geF G dL_acts_529 547 (by decide) (by rw [ow_lt cp]; exact Int32.not_le.mpr cp) ?_
      refine z_iload G dL_acts_532 12 rfl ?_
      refine z_iload G dL_acts_534 7 rfl ?_
      refine z_icmp_neF G dL_acts_536 543 (by decide) (ow_lt cp).symm ?_
      refine z_iconst (v := nI 1) G dL_acts_539 rfl ?_
      refine z_goto (tgt := 627) G dL_acts_540 (by decide) ?_
      exact hE _ _ _ _ dL_acts_627 rfl ⟨rfl, f, h.mono (by omega), hT⟩
  · by_cases e : rsn f q = 0
    · have hM : LC D y yX5_offer wsX5_offer ({ frames := 6, cells := 0, slots := 0, locals := 145 }) [.int (nI g), .int (nI q)] f (ofF f g q (cu f) (21 + 17 * q + g)) (ofF f g q (cu f)) := by
        have z := lc_offer (D := D) (y := y) h.iv (nI g) (nI q)
        rw [of_n h (by omega) hg hq cp e] at z
        exact z
      refine z_q (As := [_, _]) G (hM) hT k_X5_offer gL_acts_X5_offer rfl dL_acts_502 ⟨by decide, by decide⟩ ⟨rfl, rfl⟩ ⟨Nat.zero_le _, Nat.zero_le _⟩ rfl (Nat.le_of_ble_eq_true rfl) rfl ?_
      intro w hT
      refine z_istoreA G dL_acts_505 (by decide) rfl ?_
      refine z_lv (lv' := [(0, .ref (o)), (1, .int (nI (c))), (2, .int (nI (g))), (3, .int (nI (q))), (4, .int (ofR1 f (nI g) (nI 0))), (5, .int (ofR1 f (nI g) (nI 2))), (6, .int (nI (ng f))), (7, .int (f (21 + 17 * g + q))), (14, .int (f (21 + 17 * q + g))), (15, .int (rsn f q)), (16, .int (f 9)), (17, .int (f (17 + 17 * q))), (18, .int (ofF f g q (cu f) (21 + 17 * q + g)))]) (by rw [ow_t hg hq n sg sq, ow_t hq hg (fun z => n z.symm) sq sg, wh_t hq sq, ofw_3 hq sq]; try rfl) ?_
      refine z_iload G dL_acts_507 8 rfl ?_
      refine z_iconst (v := nI 2) G dL_acts_509 rfl ?_
      refine z_iadd G dL_acts_510 ?_
      refine z_iload G dL_acts_511 7 rfl ?_
      refine z_icmp_ge G dL_acts_513 523 (by decide) (fun c513 => ?_) (fun c513 => ?_)
      · refine z_iload G dL_acts_523 7 rfl ?_
        refine z_top (w := .int (lsF f g q)) (congrArg Value.int ((if_neg (Int32.not_lt.mpr c513)).symm)) ?_
        exact ac_525 G h hT9 hc hg hq hE n sg sq e w hT
      · refine z_iload G dL_acts_516 8 rfl ?_
        refine z_iconst (v := nI 2) G dL_acts_518 rfl ?_
        refine z_iadd G dL_acts_519 ?_
        refine z_goto (tgt := 525) G dL_acts_520 (by decide) ?_
        refine z_top (w := .int (lsF f g q)) (congrArg Value.int ((if_pos (Int32.not_le.mp c513)).symm)) ?_
        exact ac_525 G h hT9 hc hg hq hE n sg sq e w hT
    · have hM : LC D y yX5_offer wsX5_offer ({ frames := 6, cells := 0, slots := 0, locals := 145 }) [.int (nI g), .int (nI q)] f (-5) (f) := by
        have z := lc_offer (D := D) (y := y) h.iv (nI g) (nI q)
        rw [of_p hg hq cp e] at z
        exact z
      refine z_q (As := [_, _]) G (hM) hT k_X5_offer gL_acts_X5_offer rfl dL_acts_502 ⟨by decide, by decide⟩ ⟨rfl, rfl⟩ ⟨Nat.zero_le _, Nat.zero_le _⟩ rfl (Nat.le_of_ble_eq_true rfl) rfl ?_
      intro w hT
      refine z_istoreA G dL_acts_505 (by decide) rfl ?_
      refine z_iload G dL_acts_507 8 rfl ?_
      refine z_iconst (v := nI 2) G dL_acts_509 rfl ?_
      refine z_iadd G dL_acts_510 ?_
      refine z_iload G dL_acts_511 7 rfl ?_
      refine z_icmp_ge G dL_acts_513 523 (by decide) (fun c513 => ?_) (fun c513 => ?_)
      · refine z_iload G dL_acts_523 7 rfl ?_
        refine z_istoreA G dL_acts_525 (by decide) rfl ?_
        refine z_iload G dL_acts_527 7 rfl ?_
        refine z_if_geT G dL_acts_529 547 (by decide) (by rw [ow_t hg hq n sg sq]; exact Int32.not_lt.mp (cell_0 h.iv hg hq)) ?_
        refine z_iload G dL_acts_547 9 rfl ?_
        refine z_if_leF G dL_acts_549 567 (by decide) (by rw [wh_t hq sq]; exact fun z => e (rsn_le z)) ?_
        refine z_iload G dL_acts_552 12 rfl ?_
        refine z_bipush (v := (-5)) G dL_acts_554 rfl ?_
        refine z_icmp_neF G dL_acts_556 563 (by decide) rfl ?_
        refine z_iconst (v := nI 1) G dL_acts_559 rfl ?_
        refine z_goto (tgt := 627) G dL_acts_560 (by decide) ?_
        exact hE _ _ _ _ dL_acts_627 rfl ⟨rfl, f, h.mono (by omega), hT⟩
      · refine z_iload G dL_acts_516 8 rfl ?_
        refine z_iconst (v := nI 2) G dL_acts_518 rfl ?_
        refine z_iadd G dL_acts_519 ?_
        refine z_goto (tgt := 525) G dL_acts_520 (by decide) ?_
        refine z_istoreA G dL_acts_525 (by decide) rfl ?_
        refine z_iload G dL_acts_527 7 rfl ?_
        refine z_if_geT G dL_acts_529 547 (by decide) (by rw [ow_t hg hq n sg sq]; exact Int32.not_lt.mp (cell_0 h.iv hg hq)) ?_
        refine z_iload G dL_acts_547 9 rfl ?_
        refine z_if_leF G dL_acts_549 567 (by decide) (by rw [wh_t hq sq]; exact fun z => e (rsn_le z)) ?_
        refine z_iload G dL_acts_552 12 rfl ?_
        refine z_bipush (v := (-5)) G dL_acts_554 rfl ?_
        refine z_icmp_neF G dL_acts_556 563 (by decide) rfl ?_
        refine z_iconst (v := nI 1) G dL_acts_559 rfl ?_
        refine z_goto (tgt := 627) G dL_acts_560 (by decide) ?_
        exact hE _ _ _ _ dL_acts_627 rfl ⟨rfl, f, h.mono (by omega), hT⟩

set_option maxHeartbeats 8000000 in
set_option maxRecDepth 100000 in
theorem ac_628 {D : va_G} {y : Nat → ClassId} {f : Nat → Int32} {X : zX} {o : Nat} {sv : Option (Nat → Int32)} {k0 : Nat} (G : zG D y X cL_acts RL ({ frames := 8, cells := 0, slots := 0, locals := 194 }) 26 wsL_acts) {T : Nat} (h : JV f T) (hT9 : T ≤ 9800) {c g q : Nat} (hc : c < 2 ^ 31) (hg : g < 9) (hq : q < 9) (hE : HE D X cL_acts ({ frames := 8, cells := 0, slots := 0, locals := 194 }) (PA y o sv k0 T)) (w : va_W) (hT : TW y o f sv k0 w) : zV D X w 0 0 628 [(0, .ref (o)), (1, .int (nI (c))), (2, .int (nI (g))), (3, .int (nI (q))), (4, .int (ofR1 f (nI g) (nI 0))), (5, .int (ofR1 f (nI g) (nI 2))), (6, .int (nI (ng f))), (7, .int (owR f (nI g) (nI q)))] [] := by
  refine z_aload_n G dL_acts_628 0 rfl ?_
  refine z_qS (As := []) G (c_L_isRound h (by omega)) hT k_L_isRound gL_acts_L_isRound dL_acts_629 ⟨by decide, by decide⟩ ⟨rfl, rfl⟩ ⟨Nat.zero_le _, Nat.zero_le _⟩ rfl (Nat.le_of_ble_eq_true rfl) rfl ?_
  intro w hT
  exact hE _ _ _ _ dL_acts_632 rfl ⟨rfl, _, (JV_rd h).mono (by omega), hT⟩

set_option maxHeartbeats 8000000 in
set_option maxRecDepth 100000 in
theorem ac_679 {D : va_G} {y : Nat → ClassId} {f : Nat → Int32} {X : zX} {o : Nat} {sv : Option (Nat → Int32)} {k0 : Nat} (G : zG D y X cL_acts RL ({ frames := 8, cells := 0, slots := 0, locals := 194 }) 26 wsL_acts) {T : Nat} (h : JV f T) (hT9 : T ≤ 9800) {c g q : Nat} (hc : c < 2 ^ 31) (hg : g < 9) (hq : q < 9) (hE : HE D X cL_acts ({ frames := 8, cells := 0, slots := 0, locals := 194 }) (PA y o sv k0 T)) {ms : Nat} (hZ : zSX ms X) {k v : Nat} (hk : k < 4) (h1 : 1 ≤ v) (h2 : v ≤ mxS k) (w : va_W) (hT : TW y o f sv k0 w) : zV D X w 0 0 681 [(0, .ref (o)), (1, .int (nI (c))), (2, .int (nI (g))), (3, .int (nI (q))), (4, .int (ofR1 f (nI g) (nI 0))), (5, .int (ofR1 f (nI g) (nI 2))), (6, .int (nI (ng f))), (7, .int (owR f (nI g) (nI q))), (20, .int (nI (k)))] [.int (nI (v))] := by
  have hv : JV (upd f k (nI v)) T := JV_set h hk (se_in (f := f) hk h1 h2) h2
  refine z_istoreA G dL_acts_681 (by decide) rfl ?_
  refine z_aload_n G dL_acts_683 0 rfl ?_
  refine z_bipush (v := nI 13) G dL_acts_684 rfl ?_
  refine z_iload G dL_acts_686 8 rfl ?_
  refine z_iaddN G dL_acts_688 (k + 13) (by omega) ?_
  refine z_q (As := [_]) G (lc_count h.iv (nI (k + 13)) (fun z => by have := (nI_eq (by omega) (by omega)).mp z; omega) (fun z => by have := (nI_eq (by omega) (by omega)).mp z; omega)) hT k_X5_count gL_acts_X5_count rfl dL_acts_689 ⟨by decide, by decide⟩ ⟨rfl, rfl⟩ ⟨Nat.zero_le _, Nat.zero_le _⟩ rfl (Nat.le_of_ble_eq_true rfl) rfl ?_
  intro w hT
  refine z_top (w := .int (f k)) (congrArg Value.int (se_13b hk)) ?_
  refine z_istoreA G dL_acts_692 (by decide) rfl ?_
  refine z_aload_n G dL_acts_694 0 rfl ?_
  refine z_iload G dL_acts_695 8 rfl ?_
  refine z_iload G dL_acts_697 9 rfl ?_
  obtain ⟨fs, hr⟩ := hT.at0
  have hM : ∀ l, zMiS l D y ms yX5_set wsX5_set ({ frames := 6, cells := 0, slots := 0, locals := 145 }) [.ref o, .int (nI k), .int (nI v)] w (fun r w' => r = f k ∧ TW y o (upd f k (nI v)) sv k0 w') := fun l => by
    have z := lc_set (ms := ms) (D := D) (nI k) (nI v) hT l
    rw [seR_t hk (se_in (f := f) hk h1 h2)] at z
    exact z
  refine z_wViS hZ (As := [_, _]) G hM k_X5_set gL_acts_X5_set 0 5 hr rfl rfl dL_acts_699 ⟨by decide, by decide⟩ ⟨rfl, rfl⟩ ⟨Nat.zero_le _, Nat.zero_le _⟩ rfl (Nat.le_of_ble_eq_true rfl) rfl (fun r w hP => ?_)
  obtain ⟨rfl, hT⟩ := hP
  refine z_iload G dL_acts_702 10 rfl ?_
  refine z_icmp_neF G dL_acts_704 725 (by decide) rfl ?_
  refine z_aload_n G dL_acts_707 0 rfl ?_
  refine z_bipush (v := nI 13) G dL_acts_708 rfl ?_
  refine z_iload G dL_acts_710 8 rfl ?_
  refine z_iaddN G dL_acts_712 (k + 13) (by omega) ?_
  refine z_q (As := [_]) G (lc_count hv.iv (nI (k + 13)) (fun z => by have := (nI_eq (by omega) (by omega)).mp z; omega) (fun z => by have := (nI_eq (by omega) (by omega)).mp z; omega)) hT k_X5_count gL_acts_X5_count rfl dL_acts_713 ⟨by decide, by decide⟩ ⟨rfl, rfl⟩ ⟨Nat.zero_le _, Nat.zero_le _⟩ rfl (Nat.le_of_ble_eq_true rfl) rfl ?_
  intro w hT
  refine z_top (w := .int ((upd f k (nI v)) k)) (congrArg Value.int (se_13b hk)) ?_
  refine z_iload G dL_acts_716 9 rfl ?_
  refine z_icmp_neF G dL_acts_718 725 (by decide) upd_at ?_
  refine z_iconst (v := nI 1) G dL_acts_721 rfl ?_
  refine z_goto (tgt := 726) G dL_acts_722 (by decide) ?_
  exact hE _ _ _ _ dL_acts_726 rfl ⟨rfl, _, hv.mono (by omega), hT⟩

set_option maxHeartbeats 8000000 in
set_option maxRecDepth 100000 in
theorem ac_633 {D : va_G} {y : Nat → ClassId} {f : Nat → Int32} {X : zX} {o : Nat} {sv : Option (Nat → Int32)} {k0 : Nat} (G : zG D y X cL_acts RL ({ frames := 8, cells := 0, slots := 0, locals := 194 }) 26 wsL_acts) {T : Nat} (h : JV f T) (hT9 : T ≤ 9800) {c g q : Nat} (hc : c < 2 ^ 31) (hg : g < 9) (hq : q < 9) (hE : HE D X cL_acts ({ frames := 8, cells := 0, slots := 0, locals := 194 }) (PA y o sv k0 T)) {ms : Nat} (hZ : zSX ms X) (w : va_W) (hT : TW y o f sv k0 w) : zV D X w 0 0 633 [(0, .ref (o)), (1, .int (nI (c))), (2, .int (nI (g))), (3, .int (nI (q))), (4, .int (ofR1 f (nI g) (nI 0))), (5, .int (ofR1 f (nI g) (nI 2))), (6, .int (nI (ng f))), (7, .int (owR f (nI g) (nI q)))] [] := by
  obtain ⟨k, hk, ek⟩ : ∃ k, k < 4 ∧ c / 16 % 4 = k := ⟨_, Nat.mod_lt _ (by decide), rfl⟩
  refine z_iload_n G dL_acts_633 1 rfl ?_
  refine z_iconst (v := nI 4) G dL_acts_634 rfl ?_
  refine z_ishrN G (c / 16) dL_acts_635 (by omega) (by decide) (by omega) ?_
  refine z_iconst (v := nI 4) G dL_acts_636 rfl ?_
  refine z_iremN G (k) dL_acts_637 (by omega) (by decide) (by decide) ek ?_
  refine z_istoreA G dL_acts_638 (by decide) rfl ?_
  refine z_iconst (v := nI 1) G dL_acts_640 rfl ?_
  refine z_iload_n G dL_acts_641 1 rfl ?_
  refine z_bipush (v := nI 8) G dL_acts_642 rfl ?_
  refine z_ishrN G (c / 256) dL_acts_644 (by omega) (by decide) (by omega) ?_
  rcases (by omega : k = 0 ∨ k = 1 ∨ k = 2 ∨ k = 3) with rfl | rfl | rfl | rfl
  · obtain ⟨v, hv, ev⟩ : ∃ v, v < 9 ∧ c / 256 % 9 = v := ⟨_, Nat.mod_lt _ (by decide), rfl⟩
    refine z_iload G dL_acts_645 8 rfl ?_
    refine z_if_neF G dL_acts_647 655 (by decide) rfl ?_
    refine z_bipush (v := nI 9) G dL_acts_650 rfl ?_
    refine z_goto (tgt := 679) G dL_acts_652 (by decide) ?_
    refine z_iremN G (v) dL_acts_679 (by omega) (by decide) (by decide) ev ?_
    refine z_iaddN G dL_acts_680 (v + 1) (by omega) ?_
    exact ac_679 G h hT9 hc hg hq hE hZ (by decide) (by omega) (show v + 1 ≤ mxS 0 from (by have : mxS 0 = 9 := rfl; omega)) w hT
  · obtain ⟨v, hv, ev⟩ : ∃ v, v < 20 ∧ c / 256 % 20 = v := ⟨_, Nat.mod_lt _ (by decide), rfl⟩
    refine z_iload G dL_acts_645 8 rfl ?_
    refine z_if_neT G dL_acts_647 655 (by decide) (by decide) ?_
    refine z_iload G dL_acts_655 8 rfl ?_
    refine z_iconst (v := nI 1) G dL_acts_657 rfl ?_
    refine z_icmp_neF G dL_acts_658 666 (by decide) rfl ?_
    refine z_bipush (v := nI 20) G dL_acts_661 rfl ?_
    refine z_goto (tgt := 679) G dL_acts_663 (by decide) ?_
    refine z_iremN G (v) dL_acts_679 (by omega) (by decide) (by decide) ev ?_
    refine z_iaddN G dL_acts_680 (v + 1) (by omega) ?_
    exact ac_679 G h hT9 hc hg hq hE hZ (by decide) (by omega) (show v + 1 ≤ mxS 1 from (by have : mxS 1 = 20 := rfl; omega)) w hT
  · obtain ⟨v, hv, ev⟩ : ∃ v, v < 30 ∧ c / 256 % 30 = v := ⟨_, Nat.mod_lt _ (by decide), rfl⟩
    refine z_iload G dL_acts_645 8 rfl ?_
    refine z_if_neT G dL_acts_647 655 (by decide) (by decide) ?_
    refine z_iload G dL_acts_655 8 rfl ?_
    refine z_iconst (v := nI 1) G dL_acts_657 rfl ?_
    refine z_icmp_neT G dL_acts_658 666 (by decide) (by decide) ?_
    refine z_iload G dL_acts_666 8 rfl ?_
    refine z_iconst (v := nI 2) G dL_acts_668 rfl ?_
    refine z_icmp_neF G dL_acts_669 677 (by decide) rfl ?_
    refine z_bipush (v := nI 30) G dL_acts_672 rfl ?_
    refine z_goto (tgt := 679) G dL_acts_674 (by decide) ?_
    refine z_iremN G (v) dL_acts_679 (by omega) (by decide) (by decide) ev ?_
    refine z_iaddN G dL_acts_680 (v + 1) (by omega) ?_
    exact ac_679 G h hT9 hc hg hq hE hZ (by decide) (by omega) (show v + 1 ≤ mxS 2 from (by have : mxS 2 = 30 := rfl; omega)) w hT
  · obtain ⟨v, hv, ev⟩ : ∃ v, v < 9 ∧ c / 256 % 9 = v := ⟨_, Nat.mod_lt _ (by decide), rfl⟩
    refine z_iload G dL_acts_645 8 rfl ?_
    refine z_if_neT G dL_acts_647 655 (by decide) (by decide) ?_
    refine z_iload G dL_acts_655 8 rfl ?_
    refine z_iconst (v := nI 1) G dL_acts_657 rfl ?_
    refine z_icmp_neT G dL_acts_658 666 (by decide) (by decide) ?_
    refine z_iload G dL_acts_666 8 rfl ?_
    refine z_iconst (v := nI 2) G dL_acts_668 rfl ?_
    refine z_icmp_neT G dL_acts_669 677 (by decide) (by decide) ?_
    refine z_bipush (v := nI 9) G dL_acts_677 rfl ?_
    refine z_iremN G (v) dL_acts_679 (by omega) (by decide) (by decide) ev ?_
    refine z_iaddN G dL_acts_680 (v + 1) (by omega) ?_
    exact ac_679 G h hT9 hc hg hq hE hZ (by decide) (by omega) (show v + 1 ≤ mxS 3 from (by have : mxS 3 = 9 := rfl; omega)) w hT

set_option maxHeartbeats 8000000 in
set_option maxRecDepth 100000 in
theorem ac_727 {D : va_G} {y : Nat → ClassId} {f : Nat → Int32} {X : zX} {o : Nat} {sv : Option (Nat → Int32)} {k0 : Nat} (G : zG D y X cL_acts RL ({ frames := 8, cells := 0, slots := 0, locals := 194 }) 26 wsL_acts) {T : Nat} (h : JV f T) (hT9 : T ≤ 9800) {c g q : Nat} (hc : c < 2 ^ 31) (hg : g < 9) (hq : q < 9) (hE : HE D X cL_acts ({ frames := 8, cells := 0, slots := 0, locals := 194 }) (PA y o sv k0 T)) (w : va_W) (hT : TW y o f sv k0 w) : zV D X w 0 0 727 [(0, .ref (o)), (1, .int (nI (c))), (2, .int (nI (g))), (3, .int (nI (q))), (4, .int (ofR1 f (nI g) (nI 0))), (5, .int (ofR1 f (nI g) (nI 2))), (6, .int (nI (ng f))), (7, .int (owR f (nI g) (nI q)))] [] := by
  obtain ⟨p, hp, ep⟩ : ∃ p, p < 40 ∧ c / 16 % 40 = p := ⟨_, Nat.mod_lt _ (by decide), rfl⟩
  have hM : LC D y yX5_breathe wsX5_breathe ({ frames := 6, cells := 0, slots := 0, locals := 145 }) [.int (nI (p + 1))] f (nI (brMC f (p + 1))) (psF f (p + 1)) := by
    have z := lc_breathe (D := D) (y := y) h.iv (nI (p + 1))
    rw [be_n h (by omega) (by omega) (by omega)] at z
    exact z
  have hv : JV (psF f (p + 1)) (T + (p + 1)) := JV_ps h (p + 1)
  refine z_iconst (v := nI 1) G dL_acts_727 rfl ?_
  refine z_iload_n G dL_acts_728 1 rfl ?_
  refine z_iconst (v := nI 4) G dL_acts_729 rfl ?_
  refine z_ishrN G (c / 16) dL_acts_730 (by omega) (by decide) (by omega) ?_
  refine z_bipush (v := nI 40) G dL_acts_731 rfl ?_
  refine z_iremN G (p) dL_acts_733 (by omega) (by decide) (by decide) ep ?_
  refine z_iaddN G dL_acts_734 (p + 1) (by omega) ?_
  refine z_istoreA G dL_acts_735 (by decide) rfl ?_
  refine z_aload_n G dL_acts_737 0 rfl ?_
  refine z_iconst (v := nI 0) G dL_acts_738 rfl ?_
  refine z_q (As := [_]) G (lc_count h.iv (nI (0)) (by decide) (by decide)) hT k_X5_count gL_acts_X5_count rfl dL_acts_739 ⟨by decide, by decide⟩ ⟨rfl, rfl⟩ ⟨Nat.zero_le _, Nat.zero_le _⟩ rfl (Nat.le_of_ble_eq_true rfl) rfl ?_
  intro w hT
  refine z_top (w := .int (f 4)) (congrArg Value.int (cow_0 f)) ?_
  refine z_istoreA G dL_acts_742 (by decide) rfl ?_
  refine z_aload_n G dL_acts_744 0 rfl ?_
  refine z_bipush (v := nI 10) G dL_acts_745 rfl ?_
  refine z_q (As := [_]) G (lc_count h.iv (nI (10)) (by decide) (by decide)) hT k_X5_count gL_acts_X5_count rfl dL_acts_747 ⟨by decide, by decide⟩ ⟨rfl, rfl⟩ ⟨Nat.zero_le _, Nat.zero_le _⟩ rfl (Nat.le_of_ble_eq_true rfl) rfl ?_
  intro w hT
  refine z_top (w := .int (f 12)) (congrArg Value.int (cow_10 f)) ?_
  refine z_istoreA G dL_acts_750 (by decide) rfl ?_
  refine z_aload_n G dL_acts_752 0 rfl ?_
  refine z_iload G dL_acts_753 8 rfl ?_
  refine z_q (As := [_]) G (hM) hT k_X5_breathe gL_acts_X5_breathe rfl dL_acts_755 ⟨by decide, by decide⟩ ⟨rfl, rfl⟩ ⟨Nat.zero_le _, Nat.zero_le _⟩ rfl (Nat.le_of_ble_eq_true rfl) rfl ?_
  intro w hT
  refine z_aload_n G dL_acts_758 0 rfl ?_
  refine z_bipush (v := nI 10) G dL_acts_759 rfl ?_
  refine z_q (As := [_]) G (lc_count hv.iv (nI (10)) (by decide) (by decide)) hT k_X5_count gL_acts_X5_count rfl dL_acts_761 ⟨by decide, by decide⟩ ⟨rfl, rfl⟩ ⟨Nat.zero_le _, Nat.zero_le _⟩ rfl (Nat.le_of_ble_eq_true rfl) rfl ?_
  intro w hT
  refine z_top (w := .int ((psF f (p + 1)) 12)) (congrArg Value.int (cow_10 (psF f (p + 1)))) ?_
  refine z_iload G dL_acts_764 10 rfl ?_
  refine z_isub G dL_acts_766 ?_
  refine z_icmp_neF G dL_acts_767 787 (by decide) (ps_12 f _) ?_
  refine z_aload_n G dL_acts_770 0 rfl ?_
  refine z_iconst (v := nI 0) G dL_acts_771 rfl ?_
  refine z_q (As := [_]) G (lc_count hv.iv (nI (0)) (by decide) (by decide)) hT k_X5_count gL_acts_X5_count rfl dL_acts_772 ⟨by decide, by decide⟩ ⟨rfl, rfl⟩ ⟨Nat.zero_le _, Nat.zero_le _⟩ rfl (Nat.le_of_ble_eq_true rfl) rfl ?_
  intro w hT
  refine z_top (w := .int ((psF f (p + 1)) 4)) (congrArg Value.int (cow_0 (psF f (p + 1)))) ?_
  refine z_iload G dL_acts_775 9 rfl ?_
  refine z_iload G dL_acts_777 8 rfl ?_
  refine z_iadd G dL_acts_779 ?_
  refine z_icmp_neF G dL_acts_780 787 (by decide) (ps_4 f _) ?_
  refine z_iconst (v := nI 1) G dL_acts_783 rfl ?_
  refine z_goto (tgt := 788) G dL_acts_784 (by decide) ?_
  exact hE _ _ _ _ dL_acts_788 rfl ⟨rfl, _, hv.mono (by omega), hT⟩

theorem k_L_acts : zCal yL_acts wsL_acts cL_acts 26 (some .boolean) 2 := ⟨⟨_, rfl⟩, by decide +kernel⟩
set_option maxHeartbeats 8000000 in
set_option maxRecDepth 100000 in
theorem c_L_acts {D : va_G} {y : Nat → ClassId} {f : Nat → Int32} {T : Nat} (h : JV f T) (hT9 : T ≤ 9800) {c : Nat} (hc : c < 2 ^ 31) {o ms : Nat} {sv : Option (Nat → Int32)} {k0 : Nat} {w : va_W} (hT : TW y o f sv k0 w) (l : Launch) : zMiS l D y ms yL_acts wsL_acts ({ frames := 8, cells := 0, slots := 0, locals := 194 }) [.ref o, .int (nI c)] w (PA y o sv k0 T) := by
  refine zMiS.mk (cc := cL_acts) (maxL := 26) (lv := [(0, .ref (o)), (1, .int (nI (c)))]) (by decide) rfl (Nat.le_of_ble_eq_true rfl) rfl (fun X G hZ hE => ?_)
  obtain ⟨g, hg, eg⟩ : ∃ g, g < 9 ∧ c / 16 % 9 = g := ⟨_, Nat.mod_lt _ (by decide), rfl⟩
  obtain ⟨q, hq, eq⟩ : ∃ q, q < 9 ∧ c / 256 % 9 = q := ⟨_, Nat.mod_lt _ (by decide), rfl⟩
  obtain ⟨m, hm, em⟩ : ∃ m, m < 12 ∧ c % 12 = m := ⟨_, Nat.mod_lt _ (by decide), rfl⟩
  refine z_iload_n G dL_acts_0 1 rfl ?_
  refine z_iconst (v := nI 4) G dL_acts_1 rfl ?_
  refine z_ishrN G (c / 16) dL_acts_2 (by omega) (by decide) (by omega) ?_
  refine z_bipush (v := nI 9) G dL_acts_3 rfl ?_
  refine z_iremN G (g) dL_acts_5 (by omega) (by decide) (by decide) eg ?_
  refine z_istore_nA G dL_acts_6 rfl (by decide) rfl ?_
  refine z_iload_n G dL_acts_7 1 rfl ?_
  refine z_bipush (v := nI 8) G dL_acts_8 rfl ?_
  refine z_ishrN G (c / 256) dL_acts_10 (by omega) (by decide) (by omega) ?_
  refine z_bipush (v := nI 9) G dL_acts_11 rfl ?_
  refine z_iremN G (q) dL_acts_13 (by omega) (by decide) (by decide) eq ?_
  refine z_istore_nA G dL_acts_14 rfl (by decide) rfl ?_
  refine z_aload_n G dL_acts_15 0 rfl ?_
  refine z_iload_n G dL_acts_16 2 rfl ?_
  refine z_iconst (v := nI 0) G dL_acts_17 rfl ?_
  refine z_q (As := [_, _]) G (lc_of h.iv (nI (g)) (nI (0))) hT k_X5_of gL_acts_X5_of rfl dL_acts_18 ⟨by decide, by decide⟩ ⟨rfl, rfl⟩ ⟨Nat.zero_le _, Nat.zero_le _⟩ rfl (Nat.le_of_ble_eq_true rfl) rfl ?_
  intro w hT
  refine z_istoreA G dL_acts_21 (by decide) rfl ?_
  refine z_aload_n G dL_acts_23 0 rfl ?_
  refine z_iload_n G dL_acts_24 2 rfl ?_
  refine z_iconst (v := nI 2) G dL_acts_25 rfl ?_
  refine z_q (As := [_, _]) G (lc_of h.iv (nI (g)) (nI (2))) hT k_X5_of gL_acts_X5_of rfl dL_acts_26 ⟨by decide, by decide⟩ ⟨rfl, rfl⟩ ⟨Nat.zero_le _, Nat.zero_le _⟩ rfl (Nat.le_of_ble_eq_true rfl) rfl ?_
  intro w hT
  refine z_istoreA G dL_acts_29 (by decide) rfl ?_
  refine z_aload_n G dL_acts_31 0 rfl ?_
  refine z_iconst (v := nI 1) G dL_acts_32 rfl ?_
  refine z_q (As := [_]) G (lc_count h.iv (nI (1)) (by decide) (by decide)) hT k_X5_count gL_acts_X5_count rfl dL_acts_33 ⟨by decide, by decide⟩ ⟨rfl, rfl⟩ ⟨Nat.zero_le _, Nat.zero_le _⟩ rfl (Nat.le_of_ble_eq_true rfl) rfl ?_
  intro w hT
  refine z_top (w := .int (nI (ng f))) (congrArg Value.int (cow_1 f)) ?_
  refine z_istoreA G dL_acts_36 (by decide) rfl ?_
  refine z_aload_n G dL_acts_38 0 rfl ?_
  refine z_iload_n G dL_acts_39 2 rfl ?_
  refine z_iload_n G dL_acts_40 3 rfl ?_
  refine z_q (As := [_, _]) G (lc_owes h.iv (nI (g)) (nI (q))) hT k_X5_owes gL_acts_X5_owes rfl dL_acts_41 ⟨by decide, by decide⟩ ⟨rfl, rfl⟩ ⟨Nat.zero_le _, Nat.zero_le _⟩ rfl (Nat.le_of_ble_eq_true rfl) rfl ?_
  intro w hT
  refine z_istoreA G dL_acts_44 (by decide) rfl ?_
  refine z_iload_n G dL_acts_46 1 rfl ?_
  refine z_bipush (v := nI 12) G dL_acts_47 rfl ?_
  refine z_iremN G (m) dL_acts_49 (by omega) (by decide) (by decide) em ?_
  rcases (by omega : m = 0 ∨ m = 1 ∨ m = 2 ∨ m = 3 ∨ m = 4 ∨ m = 5 ∨ m = 6 ∨ m = 7 ∨ m = 8 ∨ m = 9 ∨ m = 10 ∨ m = 11) with rfl | rfl | rfl | rfl | rfl | rfl | rfl | rfl | rfl | rfl | rfl | rfl
  · refine z_tableIn G 104 dL_acts_50 (by decide) (by decide) rfl (by decide) ?_
    exact ac_104 G h hT9 hc hg hq hE w hT
  · refine z_tableIn G 104 dL_acts_50 (by decide) (by decide) rfl (by decide) ?_
    exact ac_104 G h hT9 hc hg hq hE w hT
  · refine z_tableIn G 104 dL_acts_50 (by decide) (by decide) rfl (by decide) ?_
    exact ac_104 G h hT9 hc hg hq hE w hT
  · refine z_tableIn G 213 dL_acts_50 (by decide) (by decide) rfl (by decide) ?_
    exact ac_213 G h hT9 hc hg hq hE w hT
  · refine z_tableIn G 315 dL_acts_50 (by decide) (by decide) rfl (by decide) ?_
    exact ac_315 G h hT9 hc hg hq hE w hT
  · refine z_tableIn G 375 dL_acts_50 (by decide) (by decide) rfl (by decide) ?_
    exact ac_375 G h hT9 hc hg hq hE w hT
  · refine z_tableIn G 468 dL_acts_50 (by decide) (by decide) rfl (by decide) ?_
    exact ac_468 G h hT9 hc hg hq hE w hT
  · refine z_tableIn G 468 dL_acts_50 (by decide) (by decide) rfl (by decide) ?_
    exact ac_468 G h hT9 hc hg hq hE w hT
  · refine z_tableIn G 628 dL_acts_50 (by decide) (by decide) rfl (by decide) ?_
    exact ac_628 G h hT9 hc hg hq hE w hT
  · refine z_tableIn G 633 dL_acts_50 (by decide) (by decide) rfl (by decide) ?_
    exact ac_633 G h hT9 hc hg hq hE hZ w hT
  · refine z_tableOut G 727 dL_acts_50 (Or.inr (by decide)) (by decide) ?_
    exact ac_727 G h hT9 hc hg hq hE w hT
  · refine z_tableOut G 727 dL_acts_50 (Or.inr (by decide)) (by decide) ?_
    exact ac_727 G h hT9 hc hg hq hE w hT
