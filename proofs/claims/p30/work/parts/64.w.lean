/-! what is made -/
theorem kit_use2 : True := by
  have h1 := @va_putF
  have h2 := @va_cnB
  have h3 := @W.objInit
  have h4 := @va_AO.moved
  have h5 := @va_AO.of
  have h6 := @va_Nw.warmM
  have h7 := @va_Nw.of
  have h8 := @va_sld
  have h9 := @va_slen
  have h10 := @u_known
  have h11 := @name_of_methodNamed
  have h12 := @va_up
  have h13 := @va_Zof
  have h14 := @va_Tof
  exact trivial
theorem ra_same {U : State} {c1 c2 : ClassId} {ty : FieldType} (h1 : va_RA U c1 ty) (h2 : va_RA U c2 ty) : c1 = c2 := by
  cases ty with
  | object C =>
    obtain ⟨k1, p1, -, -, -, e1⟩ := h1
    obtain ⟨k2, p2, -, -, -, e2⟩ := h2
    exact Option.some.inj (e1.symm.trans e2)
  | _ => exact Option.some.inj (Eq.trans (Eq.symm h1) h2)
/-- what the makers want of the tables beside their words -/
def zI (U : State) : Prop := va_AO RX3 U ∧ va_Nw (.methodLinkNest RX5 9 yX3_init "TeaSeats") U ∧ va_Nw (.methodLinkNest RX3 35 yX0_init "TeaSeats") U ∧ va_Nw (.methodLinkNest RX5 24 yX4_init "TeaSeats") U ∧ va_Nw (.methodLinkNest RX4 9 yX3_init "TeaSeats") U ∧ va_Nw (.methodLinkNest RX1 17 yX3_init "TeaSeats") U ∧ va_Nw (.methodLinkNest RX5 41 yX2_init "TeaSeats") U
theorem zI.warm {s U : State} (hW : s.WarmedH U.vm) (h : zI s) : zI U :=
  ⟨va_AO.moved hW.alike h.1, va_Nw.warmM hW h.2.1, va_Nw.warmM hW h.2.2.1, va_Nw.warmM hW h.2.2.2.1, va_Nw.warmM hW h.2.2.2.2.1, va_Nw.warmM hW h.2.2.2.2.2.1, va_Nw.warmM hW h.2.2.2.2.2.2⟩
theorem va_AO.same {C : String} {u U : State} (h : u.vm = U.vm) (hZ : va_AO C u) : va_AO C U := va_AO.moved (by rw [← h]; exact Vm.Alike.refl _) hZ
theorem zI.same {s U : State} (h : s.vm = U.vm) (hz : zI s) : zI U :=
  ⟨va_AO.same h hz.1, va_Nw.same rfl h hz.2.1, va_Nw.same rfl h hz.2.2.1, va_Nw.same rfl h hz.2.2.2.1, va_Nw.same rfl h hz.2.2.2.2.1, va_Nw.same rfl h hz.2.2.2.2.2.1, va_Nw.same rfl h hz.2.2.2.2.2.2⟩
def zIX (X : zX) : Prop :=
  match X with
  | (p, l, e, R, s, m, args, below, meth, c, A, Q, nL) => zI s
def zIn (X : zX) : Prop :=
  match X with
  | (p, l, e, R, s, m, args, below, meth, c, A, Q, nL) => meth.name = "<init>"
def zMvI (l : Launch) (D : va_G) (y : Nat → ClassId) (yn : MethodName) (wm : List Cond) (rm : Room) (av : List Value) (w0 : va_W) (Post : va_W → Prop) : Prop :=
  ∀ sz : Nat, Met l yn wm rm (va_Pc av (fun U => U.heap.size = sz ∧ va_P D vwCl w0 U.heap ∧ va_K D vwCl (zT y) U ∧ va_D (fun _ => True) w0 ∧ zI U)) (va_Qv (fun (u : va_W) => Post u) (fun u t => va_P D vwCl u t.heap ∧ va_K D vwCl (zT y) t ∧ va_D (va_A w0 sz) u) (va_A w0 sz)) rm.cells rm.slots (va_A w0 sz)
theorem zMvI.mk {l : Launch} {D : va_G} {y : Nat → ClassId} {yn : MethodName} {wm ws' : List Cond} {rm : Room} {av : List Value} {w0 : va_W} {cc : ByteArray} {maxL : Nat} {lv : List (Nat × Value)} {Post : va_W → Prop} (hy : plainName yn.cls = true) (hnm : yn.name = "<init>") (hw : wm = Cond.code yn cc maxL none :: ws') (hlen : (lg_sl av).length ≤ maxL) (hlv : lv_args 0 av = lv)
    (body : ∀ X : zX, zG D y X cc yn.cls rm maxL wm → zIX X → zIn X → (∀ (ws1 : va_W) (pc : Nat) (lv1 : List (Nat × Value)), decode cc pc = .ok (.return_, 1) → Post ws1 → zV D X ws1 rm.cells rm.slots pc lv1 []) → zV D X w0 0 0 0 lv []) : zMvI l D y yn wm rm av w0 Post := by
  intro sz
  refine Met.ofW (cc := cc) (maxL := maxL) (ret := none) hy hw ?_
  intro p e s m args below meth c s₁ B hml hv
  obtain ⟨rfl, hsz, hP, hK, hD0, hI⟩ := hv
  have hts := atoms_spec (ws := wm) B.pre
  have hown : s.vm.findClass yn.cls = some m.cls := findClass_of_methodNamed B.named
  have hin : meth.name = "<init>" := ((name_of_methodNamed B.named B.method).1).trans hnm
  subst hsz
  have hD := hD0.self (sz := s.heap.size)
  have hl := lv_entry av hlen
  rw [hlv] at hl
  rw [lg_entry_eq]
  refine body (p, l, e, rm, s, m, av.toArray, below, meth, c, va_A w0 s.heap.size, _, maxL) ⟨B.exec, B.bytes, hml, hown, hts, hK, fun q h => Or.inr h, rfl, rfl⟩ hI hin ?_ _ _ _ hP hD va_S.rf hl
  intro ws1 pc lv1 hdg hp H locs ls hP1 hD1 hS1 hl1
  exact W.vret B.exec B.bytes B.returns (fun t ht hW => ⟨⟨ws1, rfl, hp, by rw [ht]; exact hP1, va_K.moved hW.alike hK, hD1⟩, hS1.F ht⟩) hS1.2.2 hdg B.notSynchronized
section ZN
variable {D : va_G} {y : Nat → ClassId} {X : zX} {cc : ByteArray} {own : String} {rm : Room} {nm : Nat} {Ts : List Cond} {ws : va_W} {k n pc : Nat} {lv : List (Nat × Value)} {st : List Value}
theorem z_objI (G : zG D y X cc own rm nm Ts) {idx a : Nat} (h1 : Cond.methodLink own idx objectInit ∈ Ts) (h2 : Cond.instanceMethod objectInit ∈ Ts) (h3 : Cond.code objectInit ⟨#[0xb1]⟩ 1 none ∈ Ts) (hf : 1 ≤ rm.frames) (hlo : 12 ≤ rm.locals) (hdg : decode cc pc = .ok (.invokespecial idx, 3)) (kk : zV D X ws k n (pc + 3) lv []) : zV D X ws k n pc lv [.ref a] := by
  obtain ⟨p, l, e, R, s, m, args, below, meth, c, A, Q, nL⟩ := X
  obtain ⟨hx, hb, hml, hown, hts, hK, hA, rfl, rfl⟩ := G
  intro H locs ls hP hD hS hl
  exact W.objInit hx hb hown (hts _ h1) (hts _ h2) (hts _ h3) rfl (hl.1.trans hml.symm) rfl hdg hf (by show 2 * 0 + 0 + 12 ≤ _; omega) (kk H locs ls hP hD hS hl)
theorem z_new (G : zG D y X cc own rm nm Ts) {C : String} {T : u_T} {N ci index : Nat} (hin : ∀ w ∈ u_ws C T N, w ∈ Ts) (ty0 : Nat → FieldType) (hty : ∀ k, k < N → parseFieldDescriptor (T k).2.2.1 = some (ty0 k)) (hcl : Cond.classLink own index C ∈ Ts) (hinst : Cond.instantiable C N ∈ Ts) (hini : Cond.initialized C ∈ Ts) (hc : vwCl[ci]? = some (C, T, N)) (fs : List Value) (hfs : ∀ j, j < N → defaultValue (ty0 j) = vp_V fs j) {k' n' : Nat} (hk : k + 1 = k') (hn : n + N = n') (hk1 : k' ≤ rm.cells) (hn1 : n' ≤ rm.slots) (hdg : decode cc pc = .ok (.new index, 3))
    (kk : ∀ q : Nat, zV D X (ws ++ [(q, .inr (ci, fs))]) k' n' (pc + 3) lv (.ref q :: st)) : zV D X ws k n pc lv st := by
  obtain ⟨p, l, e, R, s, m, args, below, meth, c, A, Q, nL⟩ := X
  obtain ⟨hx, hb, hml, hown, hts, hK, hA, rfl, rfl⟩ := G
  subst hk
  subst hn
  intro H locs ls hP hD hS hl
  exact va_new hx hb hts hin ty0 hty hown (hts _ hcl) (hts _ hinst) (hts _ hini) hK hP hD hS hA hc hfs hk1 hn1 hdg (fun q H1 hP1 hD1 hS1 => kk q H1 locs ls hP1 hD1 hS1 hl)
theorem z_newa (G : zG D y X cc own rm nm Ts) {atype : ArrayType} {ty : FieldType} (hty : newarray.typeOf atype = ty) (harr : Cond.arrayClass ty ∈ Ts) (t0 : Nat) {cY : ClassId} (ht : (zT y)[t0]? = some (cY, ty)) {N : Nat} (hN : N < 2 ^ 31) (hdv : defaultValue ty = .int (nI 0)) (hby : N * componentBytes ty ≤ 536870912) {k' n' : Nat} (hk : k + 1 = k') (hn : n + N = n') (hk1 : k' ≤ rm.cells) (hn1 : n' ≤ rm.slots) (hdg : decode cc pc = .ok (.newarray atype, 2))
    (kk : ∀ q : Nat, zV D X (ws ++ [(q, .inl (cY, N, .inl (fun _ => nI 0)))]) k' n' (pc + 2) lv (.ref q :: st)) : zV D X ws k n pc lv (.int (nI N) :: st) := by
  obtain ⟨p, l, e, R, s, m, args, below, meth, c, A, Q, nL⟩ := X
  obtain ⟨hx, hb, hml, hown, hts, hK, hA, rfl, rfl⟩ := G
  subst hk
  subst hn
  intro H locs ls hP hD hS hl
  refine va_newa (a0 := (N, .inl (fun _ => nI 0))) hx hb (by rw [hty]; exact hts _ harr) hty hK hP hD hS hA (fun cA => by rw [vp_cell_i, hdv]) (nI_pos hN) (nI_clamp hN) hby hk1 hn1 hdg (fun q cA H1 hK1 hP1 hD1 hS1 => ?_)
  have e1 := (hK1.2 (zT y).length (cA, ty) (by rw [List.getElem?_append_right (Nat.le_refl _), Nat.sub_self]; rfl)).2
  have e2 := (hK.2 t0 _ ht).2
  obtain rfl : cA = cY := ra_same e1 e2
  exact kk q H1 locs ls hP1 hD1 hS1 hl
theorem z_newq (G : zG D y X cc own rm nm Ts) (hI : zIX X) {index : Nat} (hcl : Cond.classLink own index RX3 ∈ Ts) {N : Nat} (hN : N < 2 ^ 20) {k' n' : Nat} (hk : k + 1 = k') (hn : n + N = n') (hk1 : k' ≤ rm.cells) (hn1 : n' ≤ rm.slots) (hdg : decode cc pc = .ok (.anewarray index, 3))
    (kk : ∀ q : Nat, zV D X (ws ++ [(q, .inl (y 3, N, .inr (.inr (.inr (.inr (fun _ => none))))))]) k' n' (pc + 3) lv (.ref q :: st)) : zV D X ws k n pc lv (.int (nI N) :: st) := by
  obtain ⟨p, l, e, R, s, m, args, below, meth, c, A, Q, nL⟩ := X
  obtain ⟨hx, hb, hml, hown, hts, hK, hA, rfl, rfl⟩ := G
  subst hk
  subst hn
  intro H locs ls hP hD hS hl
  refine va_newq hx hb hown (hts _ hcl) hI.1 hK hP hD hS hA (nI_pos (by omega)) (nI_clamp (by omega)) (by omega) hk1 hn1 hdg (fun q cA H1 hK1 hP1 hD1 hS1 => ?_)
  have e1 := (hK1.2 (zT y).length (cA, .object RX3) (by rw [List.getElem?_append_right (Nat.le_refl _), Nat.sub_self]; rfl)).2
  have e2 := (hK.2 3 (y 3, .object RX3) rfl).2
  obtain rfl : cA = y 3 := ra_same e1 e2
  exact kk q H1 locs ls hP1 hD1 hS1 hl
theorem z_putF (G : zG D y X cc own rm nm Ts) (hI : zIn X) {C : String} {T : u_T} {N ci index ad : Nat} (hin : ∀ w ∈ u_ws C T N, w ∈ Ts) (ty0 : Nat → FieldType) (hty : ∀ k, k < N → parseFieldDescriptor (T k).2.2.1 = some (ty0 k)) (hnm : ∀ a, a < N → ∀ b, b < N → a ≠ b → (T a).2.1 ≠ (T b).2.1) (q0 : Nat) {fs : List Value} (he : ws[q0]? = some (ad, .inr (ci, fs))) (hc : vwCl[ci]? = some (C, T, N)) (fk : Nat) (hk : fk < N) (hlink : Cond.fieldLink own index (T fk).1 (T fk).2.1 (T fk).2.2.1 ∈ Ts) (hfin : (T fk).2.2.2 = true) (hdecl : (T fk).1 = own) {ty : FieldType} {v : Value} (hd : parseFieldDescriptor (T fk).2.2.1 = some ty) (hn : narrow ty v = v) (hfit : fits ty v = true) (hl0 : fk < fs.length) (hdg : decode cc pc = .ok (.putfield index, 3)) (ws' : va_W) (hw : ws.set q0 (ad, .inr (ci, fs.set fk v)) = ws') (kk : zV D X ws' k n (pc + 3) lv st) : zV D X ws k n pc lv (v :: .ref ad :: st) := by
  obtain ⟨p, l, e, R, s, m, args, below, meth, c, A, Q, nL⟩ := X
  obtain ⟨hx, hb, hml, hown, hts, hK, hA, rfl, rfl⟩ := G
  subst hw
  intro H locs ls hP hD hS hl
  exact va_putF hx hb hts hin ty0 hty hnm hown hK hP hD hS q0 he hc fk hk (hts _ hlink) (fun _ h => h) hfin hI hdecl hd hn hfit hl0 hdg (fun H1 locs1 hP1 hD1 hS1 => kk H1 locs1 ls hP1 hD1 hS1 hl)
theorem z_astq (G : zG D y X cc own rm nm Ts) (q0 qk : Nat) {ad v N j : Nat} {vs : List Value} {F : Nat → Option Nat} (ha : ws[q0]? = some (ad, .inl (y 3, N, .inr (.inr (.inr (.inr F)))))) (hv : ws[qk]? = some (v, .inr (3, vs))) (hj : j < N) (hN : N < 2 ^ 31) (hdg : decode cc pc = .ok (.aastore, 1)) (ws' : va_W) (hw : ws.set q0 (ad, .inl (y 3, N, .inr (.inr (.inr (.inr (va_up F j (some v))))))) = ws') (kk : zV D X ws' k n (pc + 1) lv st) : zV D X ws k n pc lv (.ref v :: .int (nI j) :: .ref ad :: st) := by
  obtain ⟨p, l, e, R, s, m, args, below, meth, c, A, Q, nL⟩ := X
  obtain ⟨hx, hb, hml, hown, hts, hK, hA, rfl, rfl⟩ := G
  subst hw
  intro H locs ls hP hD hS hl
  refine va_astq hx hb hK hP hD hS q0 3 qk 3 (r := (RX3, TX3, 14)) ha rfl hv rfl (vp_in_nI hj hN) hdg (fun H1 locs1 hP1 hD1 hS1 => ?_)
  rw [nI_clamp (by omega)] at hP1 hD1
  exact kk H1 locs1 ls hP1 hD1 hS1 hl
/-- a maker is called: by a link among nest mates -/
theorem z_callIN (G : zG D y X cc own rm nm Ts) (hI : zIX X) {wc wr : va_W} {rest As : List Value} {b : Addr} {idx na : Nat} {yn : MethodName} {bytes : ByteArray} {maxL : Nat} {wm : List Cond} {rm2 : Room} {Post : va_W → Prop}
    (hM : ∀ l, zMvI l D y yn wm rm2 (.ref b :: As) wc Post) (hkc : zCal yn wm bytes maxL none na) (hg : GoodIn Ts wm) (hini : Cond.initialized yn.cls ∈ Ts) {host : String} (hlk : ∀ U, zI U → va_Nw (.methodLinkNest own idx yn host) U) (him : Cond.instanceMethod yn ∈ Ts) (hnm : yn.name = "<init>") (hdg : decode cc pc = .ok (.invokespecial idx, 3)) (hR : rm2.frames + 1 ≤ rm.frames ∧ 8 + (maxL + 11) + rm2.locals ≤ rm.locals) {k' n' : Nat} (hk' : k + rm2.cells = k') (hn' : n + rm2.slots = n') (hk1 : k' ≤ rm.cells) (hn1 : n' ≤ rm.slots) (hn : As.length = na) (hcat : (rest.map fun v => v.category).sum ≤ 8) (st : List Value) (hst : st = (As.reverse ++ .ref b :: rest))
    (kk : ∀ (w1 : va_W), Post w1 → zV D X (w1 ++ wr) k' n' (pc + 3) lv rest) : zV D X (wc ++ wr) k n pc lv st := by
  obtain ⟨p, l, e, R, s, m, args, below, meth, c, A, Q, nL⟩ := X
  obtain ⟨hx, hb, hml, hown, hts, hK, hA, rfl, rfl⟩ := G
  obtain ⟨⟨ws', hw⟩, hd⟩ := hkc
  subst hst
  subst hk'
  subst hn'
  intro H locs ls hP hD hS hl
  have hPc : va_P D vwCl wc H := fun k q hq => hP k q (by rw [List.getElem?_append_left (List.getElem?_eq_some_iff.mp hq).1]; exact hq)
  have hDc : va_D A wc := ⟨fun i j p q hp hq e => hD.1 i j p q (by rw [List.getElem?_append_left (List.getElem?_eq_some_iff.mp hp).1]; exact hp) (by rw [List.getElem?_append_left (List.getElem?_eq_some_iff.mp hq).1]; exact hq) e, fun k q hq => hD.2 k q (by rw [List.getElem?_append_left (List.getElem?_eq_some_iff.mp hq).1]; exact hq)⟩
  have hFc : ∀ q, va_A wc H.size q → A q := by
    intro q h
    rcases h with ⟨k, e, h⟩ | h
    · exact hDc.2 k (q, e) h
    · exact hA q (Nat.le_trans hS.1 h)
  have hbl : FrameBlind (va_Pc (.ref b :: As) (fun U => U.heap.size = H.size ∧ va_P D vwCl wc U.heap ∧ va_K D vwCl (zT y) U ∧ va_D (fun _ => True) wc ∧ zI U)) := fun a U g mk q => by
    obtain ⟨q0, q1, qP, qK, qD, qI⟩ := q
    exact ⟨q0, q1, qP, va_K.moved (u := U) (U := U.calling g mk a) (Vm.Alike.refl U.vm) qK, qD, zI.same (U := U.calling g mk a) rfl qI⟩
  have hpre : ∀ U : State, U.heap = H → s.WarmedH U.vm → va_Pc (.ref b :: As) (fun U => U.heap.size = H.size ∧ va_P D vwCl wc U.heap ∧ va_K D vwCl (zT y) U ∧ va_D (fun _ => True) wc ∧ zI U) (.ref b :: As).toArray U := fun U hU hW => ⟨rfl, by rw [hU], by rw [hU]; exact hPc, va_K.moved hW.alike hK, hDc.weaken (fun _ _ _ _ => trivial), zI.warm hW hI⟩
  refine va_callv (va_runIN (As := As) (rest := rest) ⟨hx, hb, hml, hown, hts⟩ (hM l H.size) ⟨va_cnB na hts hg hw rfl rfl (hlk s hI) (hts _ hini) hd hR, hnm, hts _ him⟩ ⟨hbl, hpre⟩ rfl hn hl.1 rfl (lv_room hcat) hdg ⟨hk1, hn1⟩) hS (fun q _ h => hFc q h) hFc (fun u t H1 locs ht hvm hp hB hz1 hk1 hS1 => ?_)
  obtain ⟨hP1, hK1, hD1⟩ := hB
  rw [ht] at hP1
  obtain ⟨hP2, hD2⟩ := z_join hP hD hk1 hFc hP1 hD1
  exact kk u hp H1 locs ls hP2 hD2 hS1 hl
/-- a maker is called: by an open link -/
theorem z_callII (G : zG D y X cc own rm nm Ts) (hI : zIX X) {wc wr : va_W} {rest As : List Value} {b : Addr} {idx na : Nat} {yn : MethodName} {bytes : ByteArray} {maxL : Nat} {wm : List Cond} {rm2 : Room} {Post : va_W → Prop}
    (hM : ∀ l, zMvI l D y yn wm rm2 (.ref b :: As) wc Post) (hkc : zCal yn wm bytes maxL none na) (hg : GoodIn Ts wm) (hini : Cond.initialized yn.cls ∈ Ts) (hlk : Cond.methodLink own idx yn ∈ Ts) (him : Cond.instanceMethod yn ∈ Ts) (hnm : yn.name = "<init>") (hdg : decode cc pc = .ok (.invokespecial idx, 3)) (hR : rm2.frames + 1 ≤ rm.frames ∧ 8 + (maxL + 11) + rm2.locals ≤ rm.locals) {k' n' : Nat} (hk' : k + rm2.cells = k') (hn' : n + rm2.slots = n') (hk1 : k' ≤ rm.cells) (hn1 : n' ≤ rm.slots) (hn : As.length = na) (hcat : (rest.map fun v => v.category).sum ≤ 8) (st : List Value) (hst : st = (As.reverse ++ .ref b :: rest))
    (kk : ∀ (w1 : va_W), Post w1 → zV D X (w1 ++ wr) k' n' (pc + 3) lv rest) : zV D X (wc ++ wr) k n pc lv st := by
  obtain ⟨p, l, e, R, s, m, args, below, meth, c, A, Q, nL⟩ := X
  obtain ⟨hx, hb, hml, hown, hts, hK, hA, rfl, rfl⟩ := G
  obtain ⟨⟨ws', hw⟩, hd⟩ := hkc
  subst hst
  subst hk'
  subst hn'
  intro H locs ls hP hD hS hl
  have hPc : va_P D vwCl wc H := fun k q hq => hP k q (by rw [List.getElem?_append_left (List.getElem?_eq_some_iff.mp hq).1]; exact hq)
  have hDc : va_D A wc := ⟨fun i j p q hp hq e => hD.1 i j p q (by rw [List.getElem?_append_left (List.getElem?_eq_some_iff.mp hp).1]; exact hp) (by rw [List.getElem?_append_left (List.getElem?_eq_some_iff.mp hq).1]; exact hq) e, fun k q hq => hD.2 k q (by rw [List.getElem?_append_left (List.getElem?_eq_some_iff.mp hq).1]; exact hq)⟩
  have hFc : ∀ q, va_A wc H.size q → A q := by
    intro q h
    rcases h with ⟨k, e, h⟩ | h
    · exact hDc.2 k (q, e) h
    · exact hA q (Nat.le_trans hS.1 h)
  have hbl : FrameBlind (va_Pc (.ref b :: As) (fun U => U.heap.size = H.size ∧ va_P D vwCl wc U.heap ∧ va_K D vwCl (zT y) U ∧ va_D (fun _ => True) wc ∧ zI U)) := fun a U g mk q => by
    obtain ⟨q0, q1, qP, qK, qD, qI⟩ := q
    exact ⟨q0, q1, qP, va_K.moved (u := U) (U := U.calling g mk a) (Vm.Alike.refl U.vm) qK, qD, zI.same (U := U.calling g mk a) rfl qI⟩
  have hpre : ∀ U : State, U.heap = H → s.WarmedH U.vm → va_Pc (.ref b :: As) (fun U => U.heap.size = H.size ∧ va_P D vwCl wc U.heap ∧ va_K D vwCl (zT y) U ∧ va_D (fun _ => True) wc ∧ zI U) (.ref b :: As).toArray U := fun U hU hW => ⟨rfl, by rw [hU], by rw [hU]; exact hPc, va_K.moved hW.alike hK, hDc.weaken (fun _ _ _ _ => trivial), zI.warm hW hI⟩
  refine va_callv (va_runI (As := As) (rest := rest) ⟨hx, hb, hml, hown, hts⟩ (hM l H.size) (cwI na hts hg hw rfl rfl (hts _ hini) (hts _ hlk) (hts _ him) hnm hd hR) ⟨hbl, hpre⟩ rfl hn hl.1 rfl (lv_room hcat) hdg ⟨hk1, hn1⟩) hS (fun q _ h => hFc q h) hFc (fun u t H1 locs ht hvm hp hB hz1 hk1 hS1 => ?_)
  obtain ⟨hP1, hK1, hD1⟩ := hB
  rw [ht] at hP1
  obtain ⟨hP2, hD2⟩ := z_join hP hD hk1 hFc hP1 hD1
  exact kk u hp H1 locs ls hP2 hD2 hS1 hl
end ZN
def zF : Nat → Int32 := fun _ => nI 0
def iF : Nat → Int32 := fun i => if i = 0 then nI 2 else if i = 1 then nI 3 else if i = 2 then nI 9 else if i = 3 then nI 3 else nI 0
theorem iF_0 {i : Nat} (h : 4 ≤ i) : iF i = nI 0 := by
  rw [iF, if_neg (by omega), if_neg (by omega), if_neg (by omega), if_neg (by omega)]
theorem cut_z {N : Nat} {f : Nat → Int32} (h : ∀ j, j < N → f j = nI 0) : (fun _ => nI 0) = cut N f := by
  funext j
  by_cases hj : j < N
  · rw [cut_at hj, h j hj]
  · rw [cut, if_neg hj]
    rfl
theorem iF_se {N : Nat} (h : 4 ≤ N) : upd (upd (upd (upd (fun _ => nI 0) 0 (nI 2)) 1 (nI 3)) 2 (nI 9)) 3 (nI 3) = cut N iF := by
  funext j
  by_cases hj : j < N
  · rw [cut_at hj]
    rcases (by omega : j = 0 ∨ j = 1 ∨ j = 2 ∨ j = 3 ∨ 4 ≤ j) with rfl | rfl | rfl | rfl | h4
    · rfl
    · rfl
    · rfl
    · rfl
    · rw [upd_ne (by omega), upd_ne (by omega), upd_ne (by omega), upd_ne (by omega), iF_0 h4]
  · rw [cut, if_neg hj, upd_ne (by omega), upd_ne (by omega), upd_ne (by omega), upd_ne (by omega)]
    rfl
