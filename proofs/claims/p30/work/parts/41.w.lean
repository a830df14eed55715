/-! kit rows that come into use further on, named once -/
theorem kit_use : True := by
  have h1 := @va_new
  have h2 := @va_newa
  have h3 := @va_newq
  have h4 := @va_aldq
  have h5 := @va_astq
  have h6 := @va_gets
  have h7 := @va_runIN
  have h8 := @va_forget
  exact trivial
/-! slots and the ring of states -/
def hiW (y : Nat → ClassId) (h : Nat → Nat) (A : Nat → Nat → Nat) (nx kp : Int32) : va_W := [(h 0, .inr (1, [.ref (h 1), .int nx, .int kp])), (h 1, .inl (y 3, 6, .inr (.inr (.inr (.inr (fun i => if i < 6 then some (A i 0) else none))))))]
def slW (s : Nat → Nat) (r : Nat) (fl : Int32) : va_W := [(s 0, .inr (4, [.ref r, .int fl]))]
def nxS (nx : Nat) : Nat := if nx + 1 < 6 then nx + 1 else 0
def nxP (nx : Nat) : Nat := if 0 < nx then nx - 1 else 5
def kpS (kp : Nat) : Nat := if 6 < kp + 1 then 6 else kp + 1
theorem nxP_lt {nx : Nat} (h : nx < 6) : nxP nx < 6 := by
  unfold nxP
  split <;> omega
theorem nxS_lt {nx : Nat} (h : nx < 6) : nxS nx < 6 := by
  unfold nxS
  split <;> omega
theorem kpS_min {kp : Nat} (h : kp ≤ 6) : (if nI 6 < nI (kp + 1) then nI 6 else nI (kp + 1)) = nI (kpS kp) := by
  unfold kpS
  by_cases c : 6 < kp + 1
  · rw [if_pos c, if_pos (nI_lt c (by omega))]
  · rw [if_neg c, if_neg (fun z => c ((nI_ltI (by omega) (by omega)).mp z))]
section ZH
variable {D : va_G} {y : Nat → ClassId} {X : zX} {cc : ByteArray} {own : String} {rm : Room} {nm : Nat} {Ts : List Cond} {ws : va_W} {k n pc : Nat} {lv : List (Nat × Value)} {st : List Value}
theorem z_aald (G : zG D y X cc own rm nm Ts) (q0 : Nat) {ad N j : Nat} {F : Nat → Option Nat} (ha : ws[q0]? = some (ad, .inl (y 3, N, .inr (.inr (.inr (.inr F)))))) (hj : j < N) (hN : N < 2 ^ 31) (hdg : decode cc pc = .ok (.aaload, 1)) {v : Nat} (hv : F j = some v) (kk : zV D X ws k n (pc + 1) lv (.ref v :: st)) : zV D X ws k n pc lv (.int (nI j) :: .ref ad :: st) := by
  obtain ⟨p, l, e, R, s, m, args, below, meth, c, A, Q, nL⟩ := X
  obtain ⟨hx, hb, hml, hown, hts, hK, hA, rfl, rfl⟩ := G
  intro H locs ls hP hD hS hl
  refine va_aldq hx hb hK hP q0 3 ha rfl (vp_in_nI hj hN) hdg ?_
  rw [nI_clamp (by omega), hv]
  exact kk H locs ls hP hD hS hl
def zDr (l : Launch) (D : va_G) (y : Nat → ClassId) (yn : MethodName) (wm : List Cond) (rm : Room) (av : List Value) (w0 : va_W) (r : Nat) (w1 : va_W) : Prop := zMr l D y yn wm rm av w0 (fun r' w' => r' = r ∧ w' = w1)
/-- a call over the whole world -/
theorem z_dVr (G : zG D y X cc own rm nm Ts) {rest As : List Value} {b : Addr} {idx na : Nat} {yn : MethodName} {bytes : ByteArray} {maxL : Nat} {ret : Option FieldType} {wm : List Cond} {rm2 : Room} (r : Nat) (w1 : va_W)
    (hM : ∀ l, zDr l D y yn wm rm2 (.ref b :: As) ws r w1) (hk : zCal yn wm bytes maxL ret na) (hg : GoodIn Ts (wsV own idx yn.cls yn wm)) (q0 ci : Nat) {fs : List Value} {qc : vw_C} (hr : ws[q0]? = some (b, .inr (ci, fs))) (hc : vwCl[ci]? = some qc) (hcn : qc.1 = yn.cls) (hdg : decode cc pc = .ok (.invokevirtual idx, 3)) (hR : rm2.frames + 1 ≤ rm.frames ∧ 8 + (maxL + 11) + rm2.locals ≤ rm.locals) (hz : rm2.cells = 0 ∧ rm2.slots = 0) (hfit : k ≤ rm.cells ∧ n ≤ rm.slots) (hn : As.length = na) (hcat : (rest.map fun v => v.category).sum ≤ 8) (hst : st = (As.reverse ++ .ref b :: rest))
    (kk : zV D X w1 k n (pc + 3) lv (.ref r :: rest)) : zV D X ws k n pc lv st := by
  obtain ⟨h1, h2⟩ := hz
  have e := z_callVr G (wc := ws) (wr := []) hM hk hg q0 ci hr hc hcn hdg hR (by rw [h1, h2]; exact hfit) hn hcat st hst (fun r1 w2 h => by obtain ⟨rfl, rfl⟩ := h; exact (by rw [h1, h2]; exact z_nil kk))
  rwa [List.append_nil] at e
/-- a call over a part of the world -/
theorem z_pVr (G : zG D y X cc own rm nm Ts) {rest As : List Value} {b : Addr} {idx na : Nat} {yn : MethodName} {bytes : ByteArray} {maxL : Nat} {ret : Option FieldType} {wm : List Cond} {rm2 : Room} {wc wr : va_W} (r : Nat) (w1 : va_W) (ws' : va_W)
    (hM : ∀ l, zDr l D y yn wm rm2 (.ref b :: As) wc r w1) (hk : zCal yn wm bytes maxL ret na) (hg : GoodIn Ts (wsV own idx yn.cls yn wm)) (q0 ci : Nat) {fs : List Value} {qc : vw_C} (hr : wc[q0]? = some (b, .inr (ci, fs))) (hc : vwCl[ci]? = some qc) (hcn : qc.1 = yn.cls) (hdg : decode cc pc = .ok (.invokevirtual idx, 3)) (hR : rm2.frames + 1 ≤ rm.frames ∧ 8 + (maxL + 11) + rm2.locals ≤ rm.locals) (hz : rm2.cells = 0 ∧ rm2.slots = 0) (hfit : k ≤ rm.cells ∧ n ≤ rm.slots) (hn : As.length = na) (hcat : (rest.map fun v => v.category).sum ≤ 8) (hst : st = (As.reverse ++ .ref b :: rest)) (hp : ws.Perm (wc ++ wr)) (hp2 : (w1 ++ wr).Perm ws')
    (kk : zV D X ws' k n (pc + 3) lv (.ref r :: rest)) : zV D X ws k n pc lv st := by
  obtain ⟨h1, h2⟩ := hz
  refine z_perm hp ?_
  exact z_callVr G (wc := wc) (wr := wr) hM hk hg q0 ci hr hc hcn hdg hR (by rw [h1, h2]; exact hfit) hn hcat st hst (fun r1 w2 h => by obtain ⟨rfl, rfl⟩ := h; exact (by rw [h1, h2]; exact z_perm hp2 kk))
end ZH
