/-! contracts that know the most of each setting: a static's array, apart from all that may change -/
def zS (t : Nat) (A : Nat → Prop) (U : State) (H : Heap) : Prop := va_Nw (.fieldLinkNest RX3 79 "TeaSeats" "MOST_OF_SETTING" "[I" "TeaSeats") U ∧ va_Z "TeaSeats" "MOST_OF_SETTING" "[I" (.ref t) A U H ∧ va_T .int t 4 (fun j => .int (nI (mxS j))) A U H
theorem zS.warm {t : Nat} {A B : Nat → Prop} {s U : State} {H H1 : Heap} (hW : s.WarmedH U.vm) (h : zS t A s H) (hq : ∀ a : Nat, a < H.size → ¬ A a → H1[a]? = H[a]?) (hAB : ∀ q, B q → A q) : zS t B U H1 :=
  ⟨va_Nw.warmF hW h.1, ((va_Z.moved hW.alike h.2.1).kept hq).narrow hAB, ((va_T.moved hW.alike h.2.2).kept hq).narrow hAB⟩
def zSX (t : Nat) (X : zX) : Prop :=
  match X with
  | (p, l, e, R, s, m, args, below, meth, c, A, Q, nL) => zS t A s s.heap
def zMiS (l : Launch) (D : va_G) (y : Nat → ClassId) (t : Nat) (yn : MethodName) (wm : List Cond) (rm : Room) (av : List Value) (w0 : va_W) (Post : Int32 → va_W → Prop) : Prop :=
  ∀ sz : Nat, Met l yn wm rm (va_Pc av (fun U => U.heap.size = sz ∧ va_P D vwCl w0 U.heap ∧ va_K D vwCl (zT y) U ∧ va_D (fun _ => True) w0 ∧ zS t (va_A w0 sz) U U.heap)) (va_Qi (fun (r : Int32) (u : va_W) => Post r u) (fun u t => va_P D vwCl u t.heap ∧ va_K D vwCl (zT y) t ∧ va_D (va_A w0 sz) u) (va_A w0 sz)) rm.cells rm.slots (va_A w0 sz)
def zDiS (l : Launch) (D : va_G) (y : Nat → ClassId) (t : Nat) (yn : MethodName) (wm : List Cond) (rm : Room) (av : List Value) (w0 : va_W) (r : Int32) (w1 : va_W) : Prop := zMiS l D y t yn wm rm av w0 (fun r' w' => r' = r ∧ w' = w1)
theorem zMiS.mk {t : Nat} {l : Launch} {D : va_G} {y : Nat → ClassId} {yn : MethodName} {wm ws' : List Cond} {rm : Room} {av : List Value} {w0 : va_W} {cc : ByteArray} {maxL : Nat} {lv : List (Nat × Value)} {Post : Int32 → va_W → Prop} {rt : FieldType} (hy : plainName yn.cls = true) (hw : wm = Cond.code yn cc maxL (some rt) :: ws') (hlen : (lg_sl av).length ≤ maxL) (hlv : lv_args 0 av = lv)
    (body : ∀ X : zX, zG D y X cc yn.cls rm maxL wm → zSX t X → (∀ (ws1 : va_W) (pc : Nat) (lv1 : List (Nat × Value)) (r : Int32), decode cc pc = .ok (.ireturn, 1) → narrow rt (.int r) = .int r → Post r ws1 → zV D X ws1 rm.cells rm.slots pc lv1 [.int r]) → zV D X w0 0 0 0 lv []) : zMiS l D y t yn wm rm av w0 Post := by
  intro sz
  refine Met.ofW (cc := cc) (maxL := maxL) (ret := (some rt)) hy hw ?_
  intro p e s m args below meth c s₁ B hml hv
  obtain ⟨rfl, hsz, hP, hK, hD0, hZ⟩ := hv
  have hts := atoms_spec (ws := wm) B.pre
  have hown : s.vm.findClass yn.cls = some m.cls := findClass_of_methodNamed B.named
  subst hsz
  have hD := hD0.self (sz := s.heap.size)
  have hl := lv_entry av hlen
  rw [hlv] at hl
  rw [lg_entry_eq]
  refine body (p, l, e, rm, s, m, av.toArray, below, meth, c, va_A w0 s.heap.size, _, maxL) ⟨B.exec, B.bytes, hml, hown, hts, hK, fun q h => Or.inr h, rfl, rfl⟩ hZ ?_ _ _ _ hP hD va_S.rf hl
  intro ws1 pc lv1 r hdg hn hp H locs ls hP1 hD1 hS1 hl1
  exact W.zret B.exec B.bytes B.returns hn (fun t ht hW => ⟨⟨r, ws1, rfl, hp, by rw [ht]; exact hP1, va_K.moved hW.alike hK, hD1⟩, hS1.F ht⟩) hS1.2.2 hdg B.notSynchronized
section ZT
variable {D : va_G} {y : Nat → ClassId} {X : zX} {cc : ByteArray} {own : String} {rm : Room} {nm : Nat} {Ts : List Cond} {ws : va_W} {k n pc : Nat} {lv : List (Nat × Value)} {st : List Value}
theorem z_gets {t : Nat} (G : zG D y X cc RX3 rm nm Ts) (hZ : zSX t X) (hdg : decode cc pc = .ok (.getstatic 79, 3)) (kk : zV D X ws k n (pc + 3) lv (.ref t :: st)) : zV D X ws k n pc lv st := by
  obtain ⟨p, l, e, R, s, m, args, below, meth, c, A, Q, nL⟩ := X
  obtain ⟨hx, hb, hml, hown, hts, hK, hA, rfl, rfl⟩ := G
  intro H locs ls hP hD hS hl
  exact va_getsN hx hb hZ.2.1 hS hown (va_Nw.use rfl hZ.1) (fun _ h => h) hdg (kk H locs ls hP hD hS hl)
theorem z_tlen {t : Nat} (G : zG D y X cc own rm nm Ts) (hZ : zSX t X) (hdg : decode cc pc = .ok (.arraylength, 1)) (kk : zV D X ws k n (pc + 1) lv (.int (nI 4) :: st)) : zV D X ws k n pc lv (.ref t :: st) := by
  obtain ⟨p, l, e, R, s, m, args, below, meth, c, A, Q, nL⟩ := X
  obtain ⟨hx, hb, hml, hown, hts, hK, hA, rfl, rfl⟩ := G
  intro H locs ls hP hD hS hl
  exact va_tlen hx hb hZ.2.2 hS rfl hdg (kk H locs ls hP hD hS hl)
theorem z_tald {t j : Nat} (G : zG D y X cc own rm nm Ts) (hZ : zSX t X) (hj : j < 4) (hdg : decode cc pc = .ok (.iaload, 1)) (kk : zV D X ws k n (pc + 1) lv (.int (nI (mxS j)) :: st)) : zV D X ws k n pc lv (.int (nI j) :: .ref t :: st) := by
  obtain ⟨p, l, e, R, s, m, args, below, meth, c, A, Q, nL⟩ := X
  obtain ⟨hx, hb, hml, hown, hts, hK, hA, rfl, rfl⟩ := G
  intro H locs ls hP hD hS hl
  exact va_ti hx hb hZ.2.2 hS (vp_in_nI hj (by decide)) (v := .int (nI (mxS j))) (by rw [nI_clamp (by omega)]) hdg (kk H locs ls hP hD hS hl)
theorem z_callViS {t : Nat} (hZ : zSX t X) (G : zG D y X cc own rm nm Ts) {wc wr : va_W} {rest As : List Value} {b : Addr} {idx na : Nat} {yn : MethodName} {bytes : ByteArray} {maxL : Nat} {ret : Option FieldType} {wm : List Cond} {rm2 : Room} {Post : Int32 → va_W → Prop}
    (hM : ∀ l, zMiS l D y t yn wm rm2 (.ref b :: As) wc Post) (hk : zCal yn wm bytes maxL ret na) (hg : GoodIn Ts (wsV own idx yn.cls yn wm)) (q0 ci : Nat) {fs : List Value} {qc : vw_C} (hr : wc[q0]? = some (b, .inr (ci, fs))) (hc : vwCl[ci]? = some qc) (hcn : qc.1 = yn.cls) (hdg : decode cc pc = .ok (.invokevirtual idx, 3)) (hR : rm2.frames + 1 ≤ rm.frames ∧ 8 + (maxL + 11) + rm2.locals ≤ rm.locals) (hfit : k + rm2.cells ≤ rm.cells ∧ n + rm2.slots ≤ rm.slots) (hn : As.length = na) (hcat : (rest.map fun v => v.category).sum ≤ 8) (st : List Value) (hst : st = (As.reverse ++ .ref b :: rest))
    (kk : ∀ (r : Int32) (w1 : va_W), Post r w1 → zV D X (w1 ++ wr) (k + rm2.cells) (n + rm2.slots) (pc + 3) lv (.int r :: rest)) : zV D X (wc ++ wr) k n pc lv st := by
  obtain ⟨p, l, e, R, s, m, args, below, meth, c, A, Q, nL⟩ := X
  obtain ⟨hx, hb, hml, hown, hts, hK, hA, rfl, rfl⟩ := G
  obtain ⟨⟨ws', hw⟩, hd⟩ := hk
  subst hst
  intro H locs ls hP hD hS hl
  have hPc : va_P D vwCl wc H := fun k q hq => hP k q (by rw [List.getElem?_append_left (List.getElem?_eq_some_iff.mp hq).1]; exact hq)
  have hDc : va_D A wc := ⟨fun i j p q hp hq e => hD.1 i j p q (by rw [List.getElem?_append_left (List.getElem?_eq_some_iff.mp hp).1]; exact hp) (by rw [List.getElem?_append_left (List.getElem?_eq_some_iff.mp hq).1]; exact hq) e, fun k q hq => hD.2 k q (by rw [List.getElem?_append_left (List.getElem?_eq_some_iff.mp hq).1]; exact hq)⟩
  have hFc : ∀ q, va_A wc H.size q → A q := by
    intro q h
    rcases h with ⟨k, e, h⟩ | h
    · exact hDc.2 k (q, e) h
    · exact hA q (Nat.le_trans hS.1 h)
  have hbl : FrameBlind (va_Pc (.ref b :: As) (fun U => U.heap.size = H.size ∧ va_P D vwCl wc U.heap ∧ va_K D vwCl (zT y) U ∧ va_D (fun _ => True) wc ∧ zS t (va_A wc H.size) U U.heap)) := fun a U g mk q => by
    obtain ⟨q0, q1, qP, qK, qD, qZ⟩ := q
    exact ⟨q0, q1, qP, va_K.moved (u := U) (U := U.calling g mk a) (Vm.Alike.refl U.vm) qK, qD, va_Nw.same rfl rfl qZ.1, va_Z.moved (u := U) (U := U.calling g mk a) (Vm.Alike.refl U.vm) qZ.2.1, va_T.moved (u := U) (U := U.calling g mk a) (Vm.Alike.refl U.vm) qZ.2.2⟩
  have hpre : ∀ U : State, U.heap = H → s.WarmedH U.vm → va_Pc (.ref b :: As) (fun U => U.heap.size = H.size ∧ va_P D vwCl wc U.heap ∧ va_K D vwCl (zT y) U ∧ va_D (fun _ => True) wc ∧ zS t (va_A wc H.size) U U.heap) (.ref b :: As).toArray U := fun U hU hW => ⟨rfl, by rw [hU], by rw [hU]; exact hPc, va_K.moved hW.alike hK, hDc.weaken (fun _ _ _ _ => trivial), by rw [hU]; exact zS.warm hW hZ hS.2.1 hFc⟩
  have hfit' : k + rm2.cells ≤ R.cells ∧ n + rm2.slots ≤ R.slots := hfit
  refine va_calli (va_runV (As := As) (rest := rest) ⟨hx, hb, hml, hown, hts⟩ (hM l H.size) (cwV na hts hg hw rfl rfl ⟨rfl, hd⟩ hR) ⟨hbl, hcn ▸ va_recv hK hPc hc hr, hpre⟩ rfl hn hl.1 rfl (lv_room hcat) hdg hfit) hS (fun q _ h => hFc q h) hFc (fun r u t H1 locs ht hvm hp hB hz1 hk1 hS1 => ?_)
  obtain ⟨hP1, hK1, hD1⟩ := hB
  rw [ht] at hP1
  obtain ⟨hP2, hD2⟩ := z_join hP hD hk1 hFc hP1 hD1
  exact kk r u hp H1 locs ls hP2 hD2 hS1 hl
/-- a call over a part of the world -/
theorem z_pViS {t : Nat} (hZ : zSX t X) (G : zG D y X cc own rm nm Ts) {rest As : List Value} {b : Addr} {idx na : Nat} {yn : MethodName} {bytes : ByteArray} {maxL : Nat} {ret : Option FieldType} {wm : List Cond} {rm2 : Room} {wc wr : va_W} (r : Int32) (w1 : va_W) (ws' : va_W)
    (hM : ∀ l, zDiS l D y t yn wm rm2 (.ref b :: As) wc r w1) (hk : zCal yn wm bytes maxL ret na) (hg : GoodIn Ts (wsV own idx yn.cls yn wm)) (q0 ci : Nat) {fs : List Value} {qc : vw_C} (hr : wc[q0]? = some (b, .inr (ci, fs))) (hc : vwCl[ci]? = some qc) (hcn : qc.1 = yn.cls) (hdg : decode cc pc = .ok (.invokevirtual idx, 3)) (hR : rm2.frames + 1 ≤ rm.frames ∧ 8 + (maxL + 11) + rm2.locals ≤ rm.locals) (hz : rm2.cells = 0 ∧ rm2.slots = 0) (hfit : k ≤ rm.cells ∧ n ≤ rm.slots) (hn : As.length = na) (hcat : (rest.map fun v => v.category).sum ≤ 8) (hst : st = (As.reverse ++ .ref b :: rest)) (hp : ws.Perm (wc ++ wr)) (hp2 : (w1 ++ wr).Perm ws')
    (kk : zV D X ws' k n (pc + 3) lv (.int r :: rest)) : zV D X ws k n pc lv st := by
  obtain ⟨h1, h2⟩ := hz
  refine z_perm hp ?_
  exact z_callViS hZ G (wc := wc) (wr := wr) hM hk hg q0 ci hr hc hcn hdg hR (by rw [h1, h2]; exact hfit) hn hcat st hst (fun r1 w2 h => by obtain ⟨rfl, rfl⟩ := h; exact (by rw [h1, h2]; exact z_perm hp2 kk))
end ZT
theorem seB_lo {x v : Int32} (h : x < 0) : seB x v = false := by
  rw [seB, decide_eq_false (Int32.not_le.mpr h)]
  rfl
theorem seB_hi {x v : Int32} (h : nI 4 ≤ x) : seB x v = false := by
  rw [seB, decide_eq_false (p := x ≤ nI 3) (fun z => absurd (Int32.le_trans h z) (by decide))]
  exact Bool.and_false _
theorem seB_j {j : Nat} {v : Int32} (hj : j < 4) : seB (nI j) v = inB v (nI 1) (nI (mxS j)) := by
  rw [seB, decide_eq_true (nI_pos' (by omega)), decide_eq_true (p := nI j ≤ nI 3) (nI_le (by omega) (by decide)), nI_clamp (by omega)]
  rfl
theorem inB_l {x lo hi : Int32} (h : x < lo) : inB x lo hi = false := by
  rw [inB, decide_eq_false (Int32.not_le.mpr h)]
  rfl
theorem inB_h {x lo hi : Int32} (h : hi < x) : inB x lo hi = false := by
  rw [inB, decide_eq_false (p := x ≤ hi) (Int32.not_le.mpr h)]
  exact Bool.and_false _
theorem inB_T {x lo hi : Int32} (h : lo ≤ x) (h2 : x ≤ hi) : inB x lo hi = true := by
  rw [inB, decide_eq_true h, decide_eq_true h2]
  rfl
theorem seR_f {f : Nat → Int32} {x v : Int32} (h : seB x v = false) : seR f x v = (-2, f) := by
  rw [seR, h]
  rfl
theorem seR_t {f : Nat → Int32} {j : Nat} {v : Int32} (hj : j < 4) (h : seB (nI j) v = true) : seR f (nI j) v = (f j, upd f j v) := by
  rw [seR, if_pos h, nI_clamp (by omega)]
