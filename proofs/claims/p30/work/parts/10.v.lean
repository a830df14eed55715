/-! the walk's judgement: zV D X ws k n pc lv st: at any heap that holds the cells ws, at any locals that hold lv, at pc with the stack st, the method comes to its end as X says -/
abbrev zX : Type := Program × Launch × Env × Room × State × MethodId × Array Value × List Frame × Method × Code × (Nat → Prop) × (State → Prop) × Nat
def zT (y : Nat → ClassId) : List (ClassId × FieldType) := [(y 0, .int), (y 1, .char), (y 2, .int), (y 3, .object RX3)]
def zV (D : va_G) (X : zX) (ws : va_W) (k n pc : Nat) (lv : List (Nat × Value)) (st : List Value) : Prop :=
  match X with
  | (p, l, e, R, s, m, args, below, meth, c, A, Q, nL) => ∀ (H : Heap) (locs : List Loc) (ls : Array Slot), va_P D vwCl ws H → va_D A ws → va_S A s.heap H locs → lv_has ls nL lv → W p l e R s m args below meth c H locs k n Q (F0 m pc ls st)
def zG (D : va_G) (y : Nat → ClassId) (X : zX) (cc : ByteArray) (own : String) (rm : Room) (nm : Nat) (Ts : List Cond) : Prop :=
  match X with
  | (p, l, e, R, s, m, args, below, meth, c, A, Q, nL) => p.tables.exec = Jvm.exec ∧ c.code = cc ∧ c.maxLocals = nL ∧ s.vm.findClass own = some m.cls ∧ (∀ w ∈ Ts, w.before args s = true) ∧ va_K D vwCl (zT y) s ∧ (∀ q, s.heap.size ≤ q → A q) ∧ R = rm ∧ nL = nm
/-- a contract: from the world w0, at the arguments av: the answer and the world behind it are as Post says -/
def zMi (l : Launch) (D : va_G) (y : Nat → ClassId) (yn : MethodName) (wm : List Cond) (rm : Room) (av : List Value) (w0 : va_W) (Post : Int32 → va_W → Prop) : Prop :=
  ∀ sz : Nat, Met l yn wm rm (va_Pc av (fun U => U.heap.size = sz ∧ va_P D vwCl w0 U.heap ∧ va_K D vwCl (zT y) U ∧ va_D (fun _ => True) w0)) (va_Qi (fun (r : Int32) (u : va_W) => Post r u) (fun u t => va_P D vwCl u t.heap ∧ va_K D vwCl (zT y) t ∧ va_D (va_A w0 sz) u) (va_A w0 sz)) rm.cells rm.slots (va_A w0 sz)
def zMv (l : Launch) (D : va_G) (y : Nat → ClassId) (yn : MethodName) (wm : List Cond) (rm : Room) (av : List Value) (w0 : va_W) (Post : va_W → Prop) : Prop :=
  ∀ sz : Nat, Met l yn wm rm (va_Pc av (fun U => U.heap.size = sz ∧ va_P D vwCl w0 U.heap ∧ va_K D vwCl (zT y) U ∧ va_D (fun _ => True) w0)) (va_Qv (fun (u : va_W) => Post u) (fun u t => va_P D vwCl u t.heap ∧ va_K D vwCl (zT y) t ∧ va_D (va_A w0 sz) u) (va_A w0 sz)) rm.cells rm.slots (va_A w0 sz)
def zMr (l : Launch) (D : va_G) (y : Nat → ClassId) (yn : MethodName) (wm : List Cond) (rm : Room) (av : List Value) (w0 : va_W) (Post : Nat → va_W → Prop) : Prop :=
  ∀ sz : Nat, Met l yn wm rm (va_Pc av (fun U => U.heap.size = sz ∧ va_P D vwCl w0 U.heap ∧ va_K D vwCl (zT y) U ∧ va_D (fun _ => True) w0)) (va_Qr (fun (u : Nat × va_W) => Post u.1 u.2) (fun u a t => a = u.1 ∧ va_P D vwCl u.2 t.heap ∧ va_K D vwCl (zT y) t ∧ va_D (va_A w0 sz) u.2) (va_A w0 sz)) rm.cells rm.slots (va_A w0 sz)

theorem zMi.mk {l : Launch} {D : va_G} {y : Nat → ClassId} {yn : MethodName} {wm ws' : List Cond} {rm : Room} {av : List Value} {w0 : va_W} {cc : ByteArray} {maxL : Nat} {lv : List (Nat × Value)} {Post : Int32 → va_W → Prop} {rt : FieldType} (hy : plainName yn.cls = true) (hw : wm = Cond.code yn cc maxL (some rt) :: ws') (hlen : (lg_sl av).length ≤ maxL) (hlv : lv_args 0 av = lv)
    (body : ∀ X : zX, zG D y X cc yn.cls rm maxL wm → (∀ (ws1 : va_W) (pc : Nat) (lv1 : List (Nat × Value)) (r : Int32), decode cc pc = .ok (.ireturn, 1) → narrow rt (.int r) = .int r → Post r ws1 → zV D X ws1 rm.cells rm.slots pc lv1 [.int r]) → zV D X w0 0 0 0 lv []) : zMi l D y yn wm rm av w0 Post := by
  intro sz
  refine Met.ofW (cc := cc) (maxL := maxL) (ret := (some rt)) hy hw ?_
  intro p e s m args below meth c s₁ B hml hv
  obtain ⟨rfl, hsz, hP, hK, hD0⟩ := hv
  have hts := atoms_spec (ws := wm) B.pre
  have hown : s.vm.findClass yn.cls = some m.cls := findClass_of_methodNamed B.named
  subst hsz
  have hD := hD0.self (sz := s.heap.size)
  have hl := lv_entry av hlen
  rw [hlv] at hl
  rw [lg_entry_eq]
  refine body (p, l, e, rm, s, m, av.toArray, below, meth, c, va_A w0 s.heap.size, _, maxL) ⟨B.exec, B.bytes, hml, hown, hts, hK, fun q h => Or.inr h, rfl, rfl⟩ ?_ _ _ _ hP hD va_S.rf hl
  intro ws1 pc lv1 r hdg hn hp H locs ls hP1 hD1 hS1 hl1
  exact W.zret B.exec B.bytes B.returns hn (fun t ht hW => ⟨⟨r, ws1, rfl, hp, by rw [ht]; exact hP1, va_K.moved hW.alike hK, hD1⟩, hS1.F ht⟩) hS1.2.2 hdg B.notSynchronized

theorem zMv.mk {l : Launch} {D : va_G} {y : Nat → ClassId} {yn : MethodName} {wm ws' : List Cond} {rm : Room} {av : List Value} {w0 : va_W} {cc : ByteArray} {maxL : Nat} {lv : List (Nat × Value)} {Post : va_W → Prop} (hy : plainName yn.cls = true) (hw : wm = Cond.code yn cc maxL none :: ws') (hlen : (lg_sl av).length ≤ maxL) (hlv : lv_args 0 av = lv)
    (body : ∀ X : zX, zG D y X cc yn.cls rm maxL wm → (∀ (ws1 : va_W) (pc : Nat) (lv1 : List (Nat × Value)), decode cc pc = .ok (.return_, 1) → Post ws1 → zV D X ws1 rm.cells rm.slots pc lv1 []) → zV D X w0 0 0 0 lv []) : zMv l D y yn wm rm av w0 Post := by
  intro sz
  refine Met.ofW (cc := cc) (maxL := maxL) (ret := none) hy hw ?_
  intro p e s m args below meth c s₁ B hml hv
  obtain ⟨rfl, hsz, hP, hK, hD0⟩ := hv
  have hts := atoms_spec (ws := wm) B.pre
  have hown : s.vm.findClass yn.cls = some m.cls := findClass_of_methodNamed B.named
  subst hsz
  have hD := hD0.self (sz := s.heap.size)
  have hl := lv_entry av hlen
  rw [hlv] at hl
  rw [lg_entry_eq]
  refine body (p, l, e, rm, s, m, av.toArray, below, meth, c, va_A w0 s.heap.size, _, maxL) ⟨B.exec, B.bytes, hml, hown, hts, hK, fun q h => Or.inr h, rfl, rfl⟩ ?_ _ _ _ hP hD va_S.rf hl
  intro ws1 pc lv1 hdg hp H locs ls hP1 hD1 hS1 hl1
  exact W.vret B.exec B.bytes B.returns (fun t ht hW => ⟨⟨ws1, rfl, hp, by rw [ht]; exact hP1, va_K.moved hW.alike hK, hD1⟩, hS1.F ht⟩) hS1.2.2 hdg B.notSynchronized

theorem zMr.mk {l : Launch} {D : va_G} {y : Nat → ClassId} {yn : MethodName} {wm ws' : List Cond} {rm : Room} {av : List Value} {w0 : va_W} {cc : ByteArray} {maxL : Nat} {lv : List (Nat × Value)} {Post : Nat → va_W → Prop} {C : String} (hy : plainName yn.cls = true) (hw : wm = Cond.code yn cc maxL (some (.object C)) :: ws') (hlen : (lg_sl av).length ≤ maxL) (hlv : lv_args 0 av = lv)
    (body : ∀ X : zX, zG D y X cc yn.cls rm maxL wm → (∀ (ws1 : va_W) (pc : Nat) (lv1 : List (Nat × Value)) (r : Nat), decode cc pc = .ok (.areturn, 1) → Post r ws1 → zV D X ws1 rm.cells rm.slots pc lv1 [.ref r]) → zV D X w0 0 0 0 lv []) : zMr l D y yn wm rm av w0 Post := by
  intro sz
  refine Met.ofW (cc := cc) (maxL := maxL) (ret := (some (.object C))) hy hw ?_
  intro p e s m args below meth c s₁ B hml hv
  obtain ⟨rfl, hsz, hP, hK, hD0⟩ := hv
  have hts := atoms_spec (ws := wm) B.pre
  have hown : s.vm.findClass yn.cls = some m.cls := findClass_of_methodNamed B.named
  subst hsz
  have hD := hD0.self (sz := s.heap.size)
  have hl := lv_entry av hlen
  rw [hlv] at hl
  rw [lg_entry_eq]
  refine body (p, l, e, rm, s, m, av.toArray, below, meth, c, va_A w0 s.heap.size, _, maxL) ⟨B.exec, B.bytes, hml, hown, hts, hK, fun q h => Or.inr h, rfl, rfl⟩ ?_ _ _ _ hP hD va_S.rf hl
  intro ws1 pc lv1 r hdg hp H locs ls hP1 hD1 hS1 hl1
  exact W.aret B.exec B.bytes B.returns (Or.inl ⟨C, rfl⟩) (Or.inr ⟨r, rfl⟩) (fun t ht hW => ⟨⟨(r, ws1), r, rfl, hp, rfl, by rw [ht]; exact hP1, va_K.moved hW.alike hK, hD1⟩, hS1.F ht⟩) hS1.2.2 hdg B.notSynchronized

section ZV
variable {D : va_G} {y : Nat → ClassId} {X : zX} {cc : ByteArray} {own : String} {rm : Room} {nm : Nat} {Ts : List Cond} {ws : va_W} {k n pc : Nat} {lv : List (Nat × Value)} {st : List Value}
theorem z_iconst (G : zG D y X cc own rm nm Ts) {i : Int} {v : Int32} (hdg : decode cc pc = .ok (.iconst i, 1)) (hv : Int32.ofInt i = v) (kk : zV D X ws k n (pc + 1) lv (.int v :: st)) : zV D X ws k n pc lv st := by
  obtain ⟨p, l, e, R, s, m, args, below, meth, c, A, Q, nL⟩ := X
  obtain ⟨hx, hb, hml, hown, hts, hK, hA, rfl, rfl⟩ := G
  intro H locs ls hP hD hS hl
  exact lv_iconst hx hb hdg hv (kk H locs ls hP hD hS hl)
theorem z_bipush (G : zG D y X cc own rm nm Ts) {i : Int} {v : Int32} (hdg : decode cc pc = .ok (.bipush i, 2)) (hv : (Int8.ofInt i).toInt32 = v) (kk : zV D X ws k n (pc + 2) lv (.int v :: st)) : zV D X ws k n pc lv st := by
  obtain ⟨p, l, e, R, s, m, args, below, meth, c, A, Q, nL⟩ := X
  obtain ⟨hx, hb, hml, hown, hts, hK, hA, rfl, rfl⟩ := G
  intro H locs ls hP hD hS hl
  exact lv_bipush hx hb hdg hv (kk H locs ls hP hD hS hl)
theorem z_sipush (G : zG D y X cc own rm nm Ts) {i : Int} {v : Int32} (hdg : decode cc pc = .ok (.sipush i, 3)) (hv : (Int16.ofInt i).toInt32 = v) (kk : zV D X ws k n (pc + 3) lv (.int v :: st)) : zV D X ws k n pc lv st := by
  obtain ⟨p, l, e, R, s, m, args, below, meth, c, A, Q, nL⟩ := X
  obtain ⟨hx, hb, hml, hown, hts, hK, hA, rfl, rfl⟩ := G
  intro H locs ls hP hD hS hl
  exact lv_sipush hx hb hdg hv (kk H locs ls hP hD hS hl)
theorem z_lconst (G : zG D y X cc own rm nm Ts) {i : Fin 2} {v : Int64} (hdg : decode cc pc = .ok (.lconst i, 1)) (hv : Int64.ofNat (i : Nat) = v) (kk : zV D X ws k n (pc + 1) lv (.long v :: st)) : zV D X ws k n pc lv st := by
  obtain ⟨p, l, e, R, s, m, args, below, meth, c, A, Q, nL⟩ := X
  obtain ⟨hx, hb, hml, hown, hts, hK, hA, rfl, rfl⟩ := G
  intro H locs ls hP hD hS hl
  exact lv_lconst hx hb hdg hv (kk H locs ls hP hD hS hl)
theorem z_ldcw (G : zG D y X cc own rm nm Ts) {i : Nat} {v : Int32} (hc : Cond.constant own i v ∈ Ts) (hdg : decode cc pc = .ok (.ldc_w i, 3)) (kk : zV D X ws k n (pc + 3) lv (.int v :: st)) : zV D X ws k n pc lv st := by
  obtain ⟨p, l, e, R, s, m, args, below, meth, c, A, Q, nL⟩ := X
  obtain ⟨hx, hb, hml, hown, hts, hK, hA, rfl, rfl⟩ := G
  intro H locs ls hP hD hS hl
  exact lv_ldcw hx hb hown (hts _ hc) hdg (kk H locs ls hP hD hS hl)
theorem z_ldc2 (G : zG D y X cc own rm nm Ts) {i : Nat} {v : Int64} (hc : Cond.constantLong own i v ∈ Ts) (hdg : decode cc pc = .ok (.ldc2_w i, 3)) (kk : zV D X ws k n (pc + 3) lv (.long v :: st)) : zV D X ws k n pc lv st := by
  obtain ⟨p, l, e, R, s, m, args, below, meth, c, A, Q, nL⟩ := X
  obtain ⟨hx, hb, hml, hown, hts, hK, hA, rfl, rfl⟩ := G
  intro H locs ls hP hD hS hl
  exact lv_ldc2 hx hb hown (hts _ hc) hdg (kk H locs ls hP hD hS hl)
theorem z_iload_n (G : zG D y X cc own rm nm Ts) {r : Fin 4} {x : Int32} (hdg : decode cc pc = .ok (.iload_n r, 1)) (j : Nat) (hj : lv[j]? = some ((r : Nat), .int x)) (kk : zV D X ws k n (pc + 1) lv (.int x :: st)) : zV D X ws k n pc lv st := by
  obtain ⟨p, l, e, R, s, m, args, below, meth, c, A, Q, nL⟩ := X
  obtain ⟨hx, hb, hml, hown, hts, hK, hA, rfl, rfl⟩ := G
  intro H locs ls hP hD hS hl
  exact lv_iload_n hx hb hdg rfl (lv_at hl j hj) (kk H locs ls hP hD hS hl)
theorem z_iload (G : zG D y X cc own rm nm Ts) {r : Nat} {x : Int32} (hdg : decode cc pc = .ok (.iload r, 2)) (j : Nat) (hj : lv[j]? = some (r, .int x)) (kk : zV D X ws k n (pc + 2) lv (.int x :: st)) : zV D X ws k n pc lv st := by
  obtain ⟨p, l, e, R, s, m, args, below, meth, c, A, Q, nL⟩ := X
  obtain ⟨hx, hb, hml, hown, hts, hK, hA, rfl, rfl⟩ := G
  intro H locs ls hP hD hS hl
  exact lv_iload hx hb hdg (lv_at hl j hj) (kk H locs ls hP hD hS hl)
theorem z_lload_n (G : zG D y X cc own rm nm Ts) {r : Fin 4} {x : Int64} (hdg : decode cc pc = .ok (.lload_n r, 1)) (j : Nat) (hj : lv[j]? = some ((r : Nat), .long x)) (kk : zV D X ws k n (pc + 1) lv (.long x :: st)) : zV D X ws k n pc lv st := by
  obtain ⟨p, l, e, R, s, m, args, below, meth, c, A, Q, nL⟩ := X
  obtain ⟨hx, hb, hml, hown, hts, hK, hA, rfl, rfl⟩ := G
  intro H locs ls hP hD hS hl
  exact lv_lload_n hx hb hdg rfl (lv_at hl j hj) (kk H locs ls hP hD hS hl)
theorem z_lload (G : zG D y X cc own rm nm Ts) {r : Nat} {x : Int64} (hdg : decode cc pc = .ok (.lload r, 2)) (j : Nat) (hj : lv[j]? = some (r, .long x)) (kk : zV D X ws k n (pc + 2) lv (.long x :: st)) : zV D X ws k n pc lv st := by
  obtain ⟨p, l, e, R, s, m, args, below, meth, c, A, Q, nL⟩ := X
  obtain ⟨hx, hb, hml, hown, hts, hK, hA, rfl, rfl⟩ := G
  intro H locs ls hP hD hS hl
  exact lv_lload hx hb hdg (lv_at hl j hj) (kk H locs ls hP hD hS hl)
theorem z_aload_n (G : zG D y X cc own rm nm Ts) {r : Fin 4} {x : Nat} (hdg : decode cc pc = .ok (.aload_n r, 1)) (j : Nat) (hj : lv[j]? = some ((r : Nat), .ref x)) (kk : zV D X ws k n (pc + 1) lv (.ref x :: st)) : zV D X ws k n pc lv st := by
  obtain ⟨p, l, e, R, s, m, args, below, meth, c, A, Q, nL⟩ := X
  obtain ⟨hx, hb, hml, hown, hts, hK, hA, rfl, rfl⟩ := G
  intro H locs ls hP hD hS hl
  exact lv_aload_n hx hb hdg rfl (lv_at hl j hj) (kk H locs ls hP hD hS hl)
theorem z_aload (G : zG D y X cc own rm nm Ts) {r : Nat} {x : Nat} (hdg : decode cc pc = .ok (.aload r, 2)) (j : Nat) (hj : lv[j]? = some (r, .ref x)) (kk : zV D X ws k n (pc + 2) lv (.ref x :: st)) : zV D X ws k n pc lv st := by
  obtain ⟨p, l, e, R, s, m, args, below, meth, c, A, Q, nL⟩ := X
  obtain ⟨hx, hb, hml, hown, hts, hK, hA, rfl, rfl⟩ := G
  intro H locs ls hP hD hS hl
  exact lv_aload hx hb hdg (lv_at hl j hj) (kk H locs ls hP hD hS hl)
theorem z_setH {ls : Array Slot} {nL : Nat} {l : List (Nat × Value)} {q0 : Nat × Value} {j : Nat} {F : Nat × Value → Bool} (h : lv_has ls nL (q0 :: l.filter F)) (hok : (l.eraseIdx j).all F = true) : lv_has ls nL (l.set j q0) := by
  refine ⟨h.1, h.2.1, fun q hq => ?_⟩
  obtain ⟨k, hk⟩ := List.getElem?_of_mem hq
  by_cases e : j = k
  · subst e
    have hl : j < l.length := by simpa using (List.getElem?_eq_some_iff.mp hk).1
    rw [List.getElem?_set_self hl] at hk
    cases hk
    exact h.2.2 q0 List.mem_cons_self
  · rw [List.getElem?_set_ne e] at hk
    have hm : q ∈ l.eraseIdx j := List.mem_eraseIdx_iff_getElem?.mpr ⟨k, fun z => e z.symm, hk⟩
    exact h.2.2 q (List.mem_cons_of_mem _ (List.mem_filter.mpr ⟨List.mem_of_getElem? hk, List.all_eq_true.mp hok q hm⟩))
theorem z_appH {ls : Array Slot} {nL : Nat} {l : List (Nat × Value)} {q0 : Nat × Value} {F : Nat × Value → Bool} (h : lv_has ls nL (q0 :: l.filter F)) (hok : l.all F = true) : lv_has ls nL (l ++ [q0]) := by
  refine ⟨h.1, h.2.1, fun q hq => ?_⟩
  rcases List.mem_append.mp hq with hm | hm
  · exact h.2.2 q (List.mem_cons_of_mem _ (List.mem_filter.mpr ⟨hm, List.all_eq_true.mp hok q hm⟩))
  · rw [List.mem_singleton.mp hm]
    exact h.2.2 q0 List.mem_cons_self
theorem z_istore_n (G : zG D y X cc own rm nm Ts) {r : Fin 4} {i : Nat} {x : Int32} (hdg : decode cc pc = .ok (.istore_n r, 1)) (hi : (r : Nat) = i) (hn : i < nm) (j : Nat) (hok : (lv.eraseIdx j).all (fun q => !(q.1 == i) && !(q.1 + 1 == i && q.2.category == 2)) = true) (kk : zV D X ws k n (pc + 1) (lv.set j (i, .int x)) st) : zV D X ws k n pc lv (.int x :: st) := by
  obtain ⟨p, l, e, R, s, m, args, below, meth, c, A, Q, nL⟩ := X
  obtain ⟨hx, hb, hml, hown, hts, hK, hA, rfl, rfl⟩ := G
  intro H locs ls hP hD hS hl
  exact lv_istore_n hx hb hdg hi hl hn rfl (fun ls' hl' => kk H locs ls' hP hD hS (z_setH hl' hok))
theorem z_istore_nA (G : zG D y X cc own rm nm Ts) {r : Fin 4} {i : Nat} {x : Int32} (hdg : decode cc pc = .ok (.istore_n r, 1)) (hi : (r : Nat) = i) (hn : i < nm) (hok : lv.all (fun q => !(q.1 == i) && !(q.1 + 1 == i && q.2.category == 2)) = true) (kk : zV D X ws k n (pc + 1) (lv ++ [(i, .int x)]) st) : zV D X ws k n pc lv (.int x :: st) := by
  obtain ⟨p, l, e, R, s, m, args, below, meth, c, A, Q, nL⟩ := X
  obtain ⟨hx, hb, hml, hown, hts, hK, hA, rfl, rfl⟩ := G
  intro H locs ls hP hD hS hl
  exact lv_istore_n hx hb hdg hi hl hn rfl (fun ls' hl' => kk H locs ls' hP hD hS (z_appH hl' hok))
theorem z_istore (G : zG D y X cc own rm nm Ts) {i : Nat} {x : Int32} (hdg : decode cc pc = .ok (.istore i, 2)) (hn : i < nm) (j : Nat) (hok : (lv.eraseIdx j).all (fun q => !(q.1 == i) && !(q.1 + 1 == i && q.2.category == 2)) = true) (kk : zV D X ws k n (pc + 2) (lv.set j (i, .int x)) st) : zV D X ws k n pc lv (.int x :: st) := by
  obtain ⟨p, l, e, R, s, m, args, below, meth, c, A, Q, nL⟩ := X
  obtain ⟨hx, hb, hml, hown, hts, hK, hA, rfl, rfl⟩ := G
  intro H locs ls hP hD hS hl
  exact lv_istore hx hb hdg hl hn rfl (fun ls' hl' => kk H locs ls' hP hD hS (z_setH hl' hok))
theorem z_istoreA (G : zG D y X cc own rm nm Ts) {i : Nat} {x : Int32} (hdg : decode cc pc = .ok (.istore i, 2)) (hn : i < nm) (hok : lv.all (fun q => !(q.1 == i) && !(q.1 + 1 == i && q.2.category == 2)) = true) (kk : zV D X ws k n (pc + 2) (lv ++ [(i, .int x)]) st) : zV D X ws k n pc lv (.int x :: st) := by
  obtain ⟨p, l, e, R, s, m, args, below, meth, c, A, Q, nL⟩ := X
  obtain ⟨hx, hb, hml, hown, hts, hK, hA, rfl, rfl⟩ := G
  intro H locs ls hP hD hS hl
  exact lv_istore hx hb hdg hl hn rfl (fun ls' hl' => kk H locs ls' hP hD hS (z_appH hl' hok))
theorem z_lstore_n (G : zG D y X cc own rm nm Ts) {r : Fin 4} {i : Nat} {x : Int64} (hdg : decode cc pc = .ok (.lstore_n r, 1)) (hi : (r : Nat) = i) (hn : i + 1 < nm) (j : Nat) (hok : (lv.eraseIdx j).all (fun q => !(q.1 == i) && (!(q.1 == i + 1) && !(q.1 + 1 == i && q.2.category == 2))) = true) (kk : zV D X ws k n (pc + 1) (lv.set j (i, .long x)) st) : zV D X ws k n pc lv (.long x :: st) := by
  obtain ⟨p, l, e, R, s, m, args, below, meth, c, A, Q, nL⟩ := X
  obtain ⟨hx, hb, hml, hown, hts, hK, hA, rfl, rfl⟩ := G
  intro H locs ls hP hD hS hl
  exact lv_lstore_n hx hb hdg hi hl hn rfl (fun ls' hl' => kk H locs ls' hP hD hS (z_setH hl' hok))
theorem z_lstore_nA (G : zG D y X cc own rm nm Ts) {r : Fin 4} {i : Nat} {x : Int64} (hdg : decode cc pc = .ok (.lstore_n r, 1)) (hi : (r : Nat) = i) (hn : i + 1 < nm) (hok : lv.all (fun q => !(q.1 == i) && (!(q.1 == i + 1) && !(q.1 + 1 == i && q.2.category == 2))) = true) (kk : zV D X ws k n (pc + 1) (lv ++ [(i, .long x)]) st) : zV D X ws k n pc lv (.long x :: st) := by
  obtain ⟨p, l, e, R, s, m, args, below, meth, c, A, Q, nL⟩ := X
  obtain ⟨hx, hb, hml, hown, hts, hK, hA, rfl, rfl⟩ := G
  intro H locs ls hP hD hS hl
  exact lv_lstore_n hx hb hdg hi hl hn rfl (fun ls' hl' => kk H locs ls' hP hD hS (z_appH hl' hok))
theorem z_lstore (G : zG D y X cc own rm nm Ts) {i : Nat} {x : Int64} (hdg : decode cc pc = .ok (.lstore i, 2)) (hn : i + 1 < nm) (j : Nat) (hok : (lv.eraseIdx j).all (fun q => !(q.1 == i) && (!(q.1 == i + 1) && !(q.1 + 1 == i && q.2.category == 2))) = true) (kk : zV D X ws k n (pc + 2) (lv.set j (i, .long x)) st) : zV D X ws k n pc lv (.long x :: st) := by
  obtain ⟨p, l, e, R, s, m, args, below, meth, c, A, Q, nL⟩ := X
  obtain ⟨hx, hb, hml, hown, hts, hK, hA, rfl, rfl⟩ := G
  intro H locs ls hP hD hS hl
  exact lv_lstore hx hb hdg hl hn rfl (fun ls' hl' => kk H locs ls' hP hD hS (z_setH hl' hok))
theorem z_lstoreA (G : zG D y X cc own rm nm Ts) {i : Nat} {x : Int64} (hdg : decode cc pc = .ok (.lstore i, 2)) (hn : i + 1 < nm) (hok : lv.all (fun q => !(q.1 == i) && (!(q.1 == i + 1) && !(q.1 + 1 == i && q.2.category == 2))) = true) (kk : zV D X ws k n (pc + 2) (lv ++ [(i, .long x)]) st) : zV D X ws k n pc lv (.long x :: st) := by
  obtain ⟨p, l, e, R, s, m, args, below, meth, c, A, Q, nL⟩ := X
  obtain ⟨hx, hb, hml, hown, hts, hK, hA, rfl, rfl⟩ := G
  intro H locs ls hP hD hS hl
  exact lv_lstore hx hb hdg hl hn rfl (fun ls' hl' => kk H locs ls' hP hD hS (z_appH hl' hok))
theorem z_astore_n (G : zG D y X cc own rm nm Ts) {r : Fin 4} {i : Nat} {x : Nat} (hdg : decode cc pc = .ok (.astore_n r, 1)) (hi : (r : Nat) = i) (hn : i < nm) (j : Nat) (hok : (lv.eraseIdx j).all (fun q => !(q.1 == i) && !(q.1 + 1 == i && q.2.category == 2)) = true) (kk : zV D X ws k n (pc + 1) (lv.set j (i, .ref x)) st) : zV D X ws k n pc lv (.ref x :: st) := by
  obtain ⟨p, l, e, R, s, m, args, below, meth, c, A, Q, nL⟩ := X
  obtain ⟨hx, hb, hml, hown, hts, hK, hA, rfl, rfl⟩ := G
  intro H locs ls hP hD hS hl
  exact lv_astore_n hx hb hdg hi hl hn rfl (fun ls' hl' => kk H locs ls' hP hD hS (z_setH hl' hok))
theorem z_astore_nA (G : zG D y X cc own rm nm Ts) {r : Fin 4} {i : Nat} {x : Nat} (hdg : decode cc pc = .ok (.astore_n r, 1)) (hi : (r : Nat) = i) (hn : i < nm) (hok : lv.all (fun q => !(q.1 == i) && !(q.1 + 1 == i && q.2.category == 2)) = true) (kk : zV D X ws k n (pc + 1) (lv ++ [(i, .ref x)]) st) : zV D X ws k n pc lv (.ref x :: st) := by
  obtain ⟨p, l, e, R, s, m, args, below, meth, c, A, Q, nL⟩ := X
  obtain ⟨hx, hb, hml, hown, hts, hK, hA, rfl, rfl⟩ := G
  intro H locs ls hP hD hS hl
  exact lv_astore_n hx hb hdg hi hl hn rfl (fun ls' hl' => kk H locs ls' hP hD hS (z_appH hl' hok))
theorem z_astore (G : zG D y X cc own rm nm Ts) {i : Nat} {x : Nat} (hdg : decode cc pc = .ok (.astore i, 2)) (hn : i < nm) (j : Nat) (hok : (lv.eraseIdx j).all (fun q => !(q.1 == i) && !(q.1 + 1 == i && q.2.category == 2)) = true) (kk : zV D X ws k n (pc + 2) (lv.set j (i, .ref x)) st) : zV D X ws k n pc lv (.ref x :: st) := by
  obtain ⟨p, l, e, R, s, m, args, below, meth, c, A, Q, nL⟩ := X
  obtain ⟨hx, hb, hml, hown, hts, hK, hA, rfl, rfl⟩ := G
  intro H locs ls hP hD hS hl
  exact lv_astore hx hb hdg hl hn rfl (fun ls' hl' => kk H locs ls' hP hD hS (z_setH hl' hok))
theorem z_astoreA (G : zG D y X cc own rm nm Ts) {i : Nat} {x : Nat} (hdg : decode cc pc = .ok (.astore i, 2)) (hn : i < nm) (hok : lv.all (fun q => !(q.1 == i) && !(q.1 + 1 == i && q.2.category == 2)) = true) (kk : zV D X ws k n (pc + 2) (lv ++ [(i, .ref x)]) st) : zV D X ws k n pc lv (.ref x :: st) := by
  obtain ⟨p, l, e, R, s, m, args, below, meth, c, A, Q, nL⟩ := X
  obtain ⟨hx, hb, hml, hown, hts, hK, hA, rfl, rfl⟩ := G
  intro H locs ls hP hD hS hl
  exact lv_astore hx hb hdg hl hn rfl (fun ls' hl' => kk H locs ls' hP hD hS (z_appH hl' hok))
theorem z_iinc (G : zG D y X cc own rm nm Ts) {i : Nat} {d : Int} {x : Int32} (hdg : decode cc pc = .ok (.iinc i d, 3)) (j : Nat) (hj : lv[j]? = some (i, .int x)) (v : Int32) (hv : x + Int32.ofInt d = v) (hn : i < nm) (hok : (lv.eraseIdx j).all (fun q => !(q.1 == i) && !(q.1 + 1 == i && q.2.category == 2)) = true) (kk : zV D X ws k n (pc + 3) (lv.set j (i, .int v)) st) : zV D X ws k n pc lv st := by
  obtain ⟨p, l, e, R, s, m, args, below, meth, c, A, Q, nL⟩ := X
  obtain ⟨hx, hb, hml, hown, hts, hK, hA, rfl, rfl⟩ := G
  intro H locs ls hP hD hS hl
  exact lv_iinc hx hb hdg hl hj hv hn rfl (fun ls' hl' => kk H locs ls' hP hD hS (z_setH hl' hok))
theorem z_iadd (G : zG D y X cc own rm nm Ts) {a b : Int32} (hdg : decode cc pc = .ok (.iadd, 1)) (kk : zV D X ws k n (pc + 1) lv (.int (a + b) :: st)) : zV D X ws k n pc lv (.int b :: .int a :: st) := by
  obtain ⟨p, l, e, R, s, m, args, below, meth, c, A, Q, nL⟩ := X
  obtain ⟨hx, hb, hml, hown, hts, hK, hA, rfl, rfl⟩ := G
  intro H locs ls hP hD hS hl
  exact lv_iadd hx hb hdg (kk H locs ls hP hD hS hl)
theorem z_isub (G : zG D y X cc own rm nm Ts) {a b : Int32} (hdg : decode cc pc = .ok (.isub, 1)) (kk : zV D X ws k n (pc + 1) lv (.int (a - b) :: st)) : zV D X ws k n pc lv (.int b :: .int a :: st) := by
  obtain ⟨p, l, e, R, s, m, args, below, meth, c, A, Q, nL⟩ := X
  obtain ⟨hx, hb, hml, hown, hts, hK, hA, rfl, rfl⟩ := G
  intro H locs ls hP hD hS hl
  exact lv_isub hx hb hdg (kk H locs ls hP hD hS hl)
theorem z_imul (G : zG D y X cc own rm nm Ts) {a b : Int32} (hdg : decode cc pc = .ok (.imul, 1)) (kk : zV D X ws k n (pc + 1) lv (.int (a * b) :: st)) : zV D X ws k n pc lv (.int b :: .int a :: st) := by
  obtain ⟨p, l, e, R, s, m, args, below, meth, c, A, Q, nL⟩ := X
  obtain ⟨hx, hb, hml, hown, hts, hK, hA, rfl, rfl⟩ := G
  intro H locs ls hP hD hS hl
  exact lv_imul hx hb hdg (kk H locs ls hP hD hS hl)
theorem z_iand (G : zG D y X cc own rm nm Ts) {a b : Int32} (hdg : decode cc pc = .ok (.iand, 1)) (kk : zV D X ws k n (pc + 1) lv (.int (a &&& b) :: st)) : zV D X ws k n pc lv (.int b :: .int a :: st) := by
  obtain ⟨p, l, e, R, s, m, args, below, meth, c, A, Q, nL⟩ := X
  obtain ⟨hx, hb, hml, hown, hts, hK, hA, rfl, rfl⟩ := G
  intro H locs ls hP hD hS hl
  exact lv_iand hx hb hdg (kk H locs ls hP hD hS hl)
theorem z_ior (G : zG D y X cc own rm nm Ts) {a b : Int32} (hdg : decode cc pc = .ok (.ior, 1)) (kk : zV D X ws k n (pc + 1) lv (.int (a ||| b) :: st)) : zV D X ws k n pc lv (.int b :: .int a :: st) := by
  obtain ⟨p, l, e, R, s, m, args, below, meth, c, A, Q, nL⟩ := X
  obtain ⟨hx, hb, hml, hown, hts, hK, hA, rfl, rfl⟩ := G
  intro H locs ls hP hD hS hl
  exact lv_ior hx hb hdg (kk H locs ls hP hD hS hl)
theorem z_iaddN (G : zG D y X cc own rm nm Ts) {a b : Nat} (hdg : decode cc pc = .ok (.iadd, 1)) (c0 : Nat) (hc : a + b = c0) (kk : zV D X ws k n (pc + 1) lv (.int (nI c0) :: st)) : zV D X ws k n pc lv (.int (nI b) :: .int (nI a) :: st) := by
  obtain ⟨p, l, e, R, s, m, args, below, meth, c, A, Q, nL⟩ := X
  obtain ⟨hx, hb, hml, hown, hts, hK, hA, rfl, rfl⟩ := G
  intro H locs ls hP hD hS hl
  refine lv_iadd hx hb hdg ?_
  rw [nI_add, hc]
  exact kk H locs ls hP hD hS hl
theorem z_imulN (G : zG D y X cc own rm nm Ts) {a b : Nat} (hdg : decode cc pc = .ok (.imul, 1)) (c0 : Nat) (hc : a * b = c0) (kk : zV D X ws k n (pc + 1) lv (.int (nI c0) :: st)) : zV D X ws k n pc lv (.int (nI b) :: .int (nI a) :: st) := by
  obtain ⟨p, l, e, R, s, m, args, below, meth, c, A, Q, nL⟩ := X
  obtain ⟨hx, hb, hml, hown, hts, hK, hA, rfl, rfl⟩ := G
  intro H locs ls hP hD hS hl
  refine lv_imul hx hb hdg ?_
  rw [pk_mul, hc]
  exact kk H locs ls hP hD hS hl
theorem z_isubN (G : zG D y X cc own rm nm Ts) {a b : Nat} (hdg : decode cc pc = .ok (.isub, 1)) (h : b ≤ a) (c0 : Nat) (hc : a - b = c0) (kk : zV D X ws k n (pc + 1) lv (.int (nI c0) :: st)) : zV D X ws k n pc lv (.int (nI b) :: .int (nI a) :: st) := by
  obtain ⟨p, l, e, R, s, m, args, below, meth, c, A, Q, nL⟩ := X
  obtain ⟨hx, hb, hml, hown, hts, hK, hA, rfl, rfl⟩ := G
  intro H locs ls hP hD hS hl
  refine lv_isub hx hb hdg ?_
  rw [pk_sub h, hc]
  exact kk H locs ls hP hD hS hl
theorem z_land (G : zG D y X cc own rm nm Ts) {a b : Int64} (hdg : decode cc pc = .ok (.land, 1)) (kk : zV D X ws k n (pc + 1) lv (.long (a &&& b) :: st)) : zV D X ws k n pc lv (.long b :: .long a :: st) := by
  obtain ⟨p, l, e, R, s, m, args, below, meth, c, A, Q, nL⟩ := X
  obtain ⟨hx, hb, hml, hown, hts, hK, hA, rfl, rfl⟩ := G
  intro H locs ls hP hD hS hl
  exact lv_land hx hb hdg (kk H locs ls hP hD hS hl)
theorem z_lor (G : zG D y X cc own rm nm Ts) {a b : Int64} (hdg : decode cc pc = .ok (.lor, 1)) (kk : zV D X ws k n (pc + 1) lv (.long (a ||| b) :: st)) : zV D X ws k n pc lv (.long b :: .long a :: st) := by
  obtain ⟨p, l, e, R, s, m, args, below, meth, c, A, Q, nL⟩ := X
  obtain ⟨hx, hb, hml, hown, hts, hK, hA, rfl, rfl⟩ := G
  intro H locs ls hP hD hS hl
  exact lv_lor hx hb hdg (kk H locs ls hP hD hS hl)
theorem z_ishl (G : zG D y X cc own rm nm Ts) {a b : Int32} (hdg : decode cc pc = .ok (.ishl, 1)) (kk : zV D X ws k n (pc + 1) lv (.int (a <<< (b &&& 31)) :: st)) : zV D X ws k n pc lv (.int b :: .int a :: st) := by
  obtain ⟨p, l, e, R, s, m, args, below, meth, c, A, Q, nL⟩ := X
  obtain ⟨hx, hb, hml, hown, hts, hK, hA, rfl, rfl⟩ := G
  intro H locs ls hP hD hS hl
  exact lv_ishl hx hb hdg (kk H locs ls hP hD hS hl)
theorem z_iushr (G : zG D y X cc own rm nm Ts) {a b : Int32} (v : Int32) (hdg : decode cc pc = .ok (.iushr, 1)) (hv : (a.toUInt32 >>> (b.toUInt32 &&& Int32.toUInt32 31)).toInt32 = v) (kk : zV D X ws k n (pc + 1) lv (.int v :: st)) : zV D X ws k n pc lv (.int b :: .int a :: st) := by
  obtain ⟨p, l, e, R, s, m, args, below, meth, c, A, Q, nL⟩ := X
  obtain ⟨hx, hb, hml, hown, hts, hK, hA, rfl, rfl⟩ := G
  intro H locs ls hP hD hS hl
  exact lv_iushr hx hb hdg hv (kk H locs ls hP hD hS hl)
theorem z_lushr (G : zG D y X cc own rm nm Ts) {a : Int64} {b : Int32} (v : Int64) (hdg : decode cc pc = .ok (.lushr, 1)) (hv : (a.toUInt64 >>> (b.toInt64.toUInt64 &&& Int64.toUInt64 63)).toInt64 = v) (kk : zV D X ws k n (pc + 1) lv (.long v :: st)) : zV D X ws k n pc lv (.int b :: .long a :: st) := by
  obtain ⟨p, l, e, R, s, m, args, below, meth, c, A, Q, nL⟩ := X
  obtain ⟨hx, hb, hml, hown, hts, hK, hA, rfl, rfl⟩ := G
  intro H locs ls hP hD hS hl
  exact lv_lushr hx hb hdg hv (kk H locs ls hP hD hS hl)
theorem z_lshl (G : zG D y X cc own rm nm Ts) {a : Int64} {b : Int32} (v : Int64) (hdg : decode cc pc = .ok (.lshl, 1)) (hv : a <<< (b.toInt64 &&& 63) = v) (kk : zV D X ws k n (pc + 1) lv (.long v :: st)) : zV D X ws k n pc lv (.int b :: .long a :: st) := by
  obtain ⟨p, l, e, R, s, m, args, below, meth, c, A, Q, nL⟩ := X
  obtain ⟨hx, hb, hml, hown, hts, hK, hA, rfl, rfl⟩ := G
  intro H locs ls hP hD hS hl
  exact lv_lshl hx hb hdg hv (kk H locs ls hP hD hS hl)
theorem z_lcmp (G : zG D y X cc own rm nm Ts) {a b : Int64} (hdg : decode cc pc = .ok (.lcmp, 1)) (kk : zV D X ws k n (pc + 1) lv (.int (lg_cmp a b) :: st)) : zV D X ws k n pc lv (.long b :: .long a :: st) := by
  obtain ⟨p, l, e, R, s, m, args, below, meth, c, A, Q, nL⟩ := X
  obtain ⟨hx, hb, hml, hown, hts, hK, hA, rfl, rfl⟩ := G
  intro H locs ls hP hD hS hl
  exact W.lcmp hx hb hdg (kk H locs ls hP hD hS hl)
theorem z_i2l (G : zG D y X cc own rm nm Ts) {a : Int32} (v : Int64) (hdg : decode cc pc = .ok (.i2l, 1)) (hv : a.toInt64 = v) (kk : zV D X ws k n (pc + 1) lv (.long v :: st)) : zV D X ws k n pc lv (.int a :: st) := by
  obtain ⟨p, l, e, R, s, m, args, below, meth, c, A, Q, nL⟩ := X
  obtain ⟨hx, hb, hml, hown, hts, hK, hA, rfl, rfl⟩ := G
  intro H locs ls hP hD hS hl
  exact lv_i2l hx hb hdg hv (kk H locs ls hP hD hS hl)
theorem z_l2i (G : zG D y X cc own rm nm Ts) {a : Int64} (v : Int32) (hdg : decode cc pc = .ok (.l2i, 1)) (hv : a.toInt32 = v) (kk : zV D X ws k n (pc + 1) lv (.int v :: st)) : zV D X ws k n pc lv (.long a :: st) := by
  obtain ⟨p, l, e, R, s, m, args, below, meth, c, A, Q, nL⟩ := X
  obtain ⟨hx, hb, hml, hown, hts, hK, hA, rfl, rfl⟩ := G
  intro H locs ls hP hD hS hl
  exact lv_l2i hx hb hdg hv (kk H locs ls hP hD hS hl)
theorem z_i2c (G : zG D y X cc own rm nm Ts) {a : Int32} (v : Int32) (hdg : decode cc pc = .ok (.i2c, 1)) (hv : (a.toUInt32 % 65536).toInt32 = v) (kk : zV D X ws k n (pc + 1) lv (.int v :: st)) : zV D X ws k n pc lv (.int a :: st) := by
  obtain ⟨p, l, e, R, s, m, args, below, meth, c, A, Q, nL⟩ := X
  obtain ⟨hx, hb, hml, hown, hts, hK, hA, rfl, rfl⟩ := G
  intro H locs ls hP hD hS hl
  exact lv_i2c hx hb hdg hv (kk H locs ls hP hD hS hl)
theorem z_dup (G : zG D y X cc own rm nm Ts) {v : Value} (hdg : decode cc pc = .ok (.dup, 1)) (hv : v.category = 1) (kk : zV D X ws k n (pc + 1) lv (v :: v :: st)) : zV D X ws k n pc lv (v :: st) := by
  obtain ⟨p, l, e, R, s, m, args, below, meth, c, A, Q, nL⟩ := X
  obtain ⟨hx, hb, hml, hown, hts, hK, hA, rfl, rfl⟩ := G
  intro H locs ls hP hD hS hl
  exact lv_dup hx hb hdg hv (kk H locs ls hP hD hS hl)
theorem z_pop (G : zG D y X cc own rm nm Ts) {v : Value} (hdg : decode cc pc = .ok (.pop, 1)) (hv : v.category = 1) (kk : zV D X ws k n (pc + 1) lv st) : zV D X ws k n pc lv (v :: st) := by
  obtain ⟨p, l, e, R, s, m, args, below, meth, c, A, Q, nL⟩ := X
  obtain ⟨hx, hb, hml, hown, hts, hK, hA, rfl, rfl⟩ := G
  intro H locs ls hP hD hS hl
  exact lv_pop hx hb hdg hv (kk H locs ls hP hD hS hl)
theorem z_goto (G : zG D y X cc own rm nm Ts) {off : Int} {tgt : Nat} (hdg : decode cc pc = .ok (.goto off, 3)) (ht : (pc : Int) + off = (tgt : Int)) (kk : zV D X ws k n tgt lv st) : zV D X ws k n pc lv st := by
  obtain ⟨p, l, e, R, s, m, args, below, meth, c, A, Q, nL⟩ := X
  obtain ⟨hx, hb, hml, hown, hts, hK, hA, rfl, rfl⟩ := G
  intro H locs ls hP hD hS hl
  exact lv_goto hx hb hdg ht (kk H locs ls hP hD hS hl)
theorem z_icmp_eq (G : zG D y X cc own rm nm Ts) {a b : Int32} {off : Int} (hdg : decode cc pc = .ok (.if_icmp .eq off, 3)) (tgt : Nat) (ht : (pc : Int) + off = (tgt : Int)) (kt : a = b → zV D X ws k n tgt lv st) (kf : ¬ a = b → zV D X ws k n (pc + 3) lv st) : zV D X ws k n pc lv (.int b :: .int a :: st) := by
  obtain ⟨p, l, e, R, s, m, args, below, meth, c, A, Q, nL⟩ := X
  obtain ⟨hx, hb, hml, hown, hts, hK, hA, rfl, rfl⟩ := G
  intro H locs ls hP hD hS hl
  exact lv_icmp_eq hx hb hdg ht (fun h => kt h H locs ls hP hD hS hl) (fun h => kf h H locs ls hP hD hS hl)
theorem z_icmp_eqT (G : zG D y X cc own rm nm Ts) {a b : Int32} {off : Int} (hdg : decode cc pc = .ok (.if_icmp .eq off, 3)) (tgt : Nat) (ht : (pc : Int) + off = (tgt : Int)) (h : a = b) (kt : zV D X ws k n tgt lv st) : zV D X ws k n pc lv (.int b :: .int a :: st) := by
  obtain ⟨p, l, e, R, s, m, args, below, meth, c, A, Q, nL⟩ := X
  obtain ⟨hx, hb, hml, hown, hts, hK, hA, rfl, rfl⟩ := G
  intro H locs ls hP hD hS hl
  exact lv_icmp_eq hx hb hdg ht (fun _ => kt H locs ls hP hD hS hl) (fun h2 => absurd h (by first | exact h2 | exact (fun z => z h2)))
theorem z_icmp_eqF (G : zG D y X cc own rm nm Ts) {a b : Int32} {off : Int} (hdg : decode cc pc = .ok (.if_icmp .eq off, 3)) (tgt : Nat) (ht : (pc : Int) + off = (tgt : Int)) (h : ¬ a = b) (kf : zV D X ws k n (pc + 3) lv st) : zV D X ws k n pc lv (.int b :: .int a :: st) := by
  obtain ⟨p, l, e, R, s, m, args, below, meth, c, A, Q, nL⟩ := X
  obtain ⟨hx, hb, hml, hown, hts, hK, hA, rfl, rfl⟩ := G
  intro H locs ls hP hD hS hl
  exact lv_icmp_eq hx hb hdg ht (fun h2 => absurd h2 (by first | exact h | exact (fun z => z h))) (fun _ => kf H locs ls hP hD hS hl)
theorem z_if_eq (G : zG D y X cc own rm nm Ts) {a : Int32} {off : Int} (hdg : decode cc pc = .ok (.ifCond .eq off, 3)) (tgt : Nat) (ht : (pc : Int) + off = (tgt : Int)) (kt : a = 0 → zV D X ws k n tgt lv st) (kf : ¬ a = 0 → zV D X ws k n (pc + 3) lv st) : zV D X ws k n pc lv (.int a :: st) := by
  obtain ⟨p, l, e, R, s, m, args, below, meth, c, A, Q, nL⟩ := X
  obtain ⟨hx, hb, hml, hown, hts, hK, hA, rfl, rfl⟩ := G
  intro H locs ls hP hD hS hl
  exact lv_if_eq hx hb hdg ht (fun h => kt h H locs ls hP hD hS hl) (fun h => kf h H locs ls hP hD hS hl)
theorem z_if_eqT (G : zG D y X cc own rm nm Ts) {a : Int32} {off : Int} (hdg : decode cc pc = .ok (.ifCond .eq off, 3)) (tgt : Nat) (ht : (pc : Int) + off = (tgt : Int)) (h : a = 0) (kt : zV D X ws k n tgt lv st) : zV D X ws k n pc lv (.int a :: st) := by
  obtain ⟨p, l, e, R, s, m, args, below, meth, c, A, Q, nL⟩ := X
  obtain ⟨hx, hb, hml, hown, hts, hK, hA, rfl, rfl⟩ := G
  intro H locs ls hP hD hS hl
  exact lv_if_eq hx hb hdg ht (fun _ => kt H locs ls hP hD hS hl) (fun h2 => absurd h (by first | exact h2 | exact (fun z => z h2)))
theorem z_if_eqF (G : zG D y X cc own rm nm Ts) {a : Int32} {off : Int} (hdg : decode cc pc = .ok (.ifCond .eq off, 3)) (tgt : Nat) (ht : (pc : Int) + off = (tgt : Int)) (h : ¬ a = 0) (kf : zV D X ws k n (pc + 3) lv st) : zV D X ws k n pc lv (.int a :: st) := by
  obtain ⟨p, l, e, R, s, m, args, below, meth, c, A, Q, nL⟩ := X
  obtain ⟨hx, hb, hml, hown, hts, hK, hA, rfl, rfl⟩ := G
  intro H locs ls hP hD hS hl
  exact lv_if_eq hx hb hdg ht (fun h2 => absurd h2 (by first | exact h | exact (fun z => z h))) (fun _ => kf H locs ls hP hD hS hl)
theorem z_icmp_ne (G : zG D y X cc own rm nm Ts) {a b : Int32} {off : Int} (hdg : decode cc pc = .ok (.if_icmp .ne off, 3)) (tgt : Nat) (ht : (pc : Int) + off = (tgt : Int)) (kt : ¬ a = b → zV D X ws k n tgt lv st) (kf : a = b → zV D X ws k n (pc + 3) lv st) : zV D X ws k n pc lv (.int b :: .int a :: st) := by
  obtain ⟨p, l, e, R, s, m, args, below, meth, c, A, Q, nL⟩ := X
  obtain ⟨hx, hb, hml, hown, hts, hK, hA, rfl, rfl⟩ := G
  intro H locs ls hP hD hS hl
  exact lv_icmp_ne hx hb hdg ht (fun h => kt h H locs ls hP hD hS hl) (fun h => kf h H locs ls hP hD hS hl)
theorem z_icmp_neT (G : zG D y X cc own rm nm Ts) {a b : Int32} {off : Int} (hdg : decode cc pc = .ok (.if_icmp .ne off, 3)) (tgt : Nat) (ht : (pc : Int) + off = (tgt : Int)) (h : ¬ a = b) (kt : zV D X ws k n tgt lv st) : zV D X ws k n pc lv (.int b :: .int a :: st) := by
  obtain ⟨p, l, e, R, s, m, args, below, meth, c, A, Q, nL⟩ := X
  obtain ⟨hx, hb, hml, hown, hts, hK, hA, rfl, rfl⟩ := G
  intro H locs ls hP hD hS hl
  exact lv_icmp_ne hx hb hdg ht (fun _ => kt H locs ls hP hD hS hl) (fun h2 => absurd h (by first | exact h2 | exact (fun z => z h2)))
theorem z_icmp_neF (G : zG D y X cc own rm nm Ts) {a b : Int32} {off : Int} (hdg : decode cc pc = .ok (.if_icmp .ne off, 3)) (tgt : Nat) (ht : (pc : Int) + off = (tgt : Int)) (h : a = b) (kf : zV D X ws k n (pc + 3) lv st) : zV D X ws k n pc lv (.int b :: .int a :: st) := by
  obtain ⟨p, l, e, R, s, m, args, below, meth, c, A, Q, nL⟩ := X
  obtain ⟨hx, hb, hml, hown, hts, hK, hA, rfl, rfl⟩ := G
  intro H locs ls hP hD hS hl
  exact lv_icmp_ne hx hb hdg ht (fun h2 => absurd h2 (by first | exact h | exact (fun z => z h))) (fun _ => kf H locs ls hP hD hS hl)
theorem z_if_ne (G : zG D y X cc own rm nm Ts) {a : Int32} {off : Int} (hdg : decode cc pc = .ok (.ifCond .ne off, 3)) (tgt : Nat) (ht : (pc : Int) + off = (tgt : Int)) (kt : ¬ a = 0 → zV D X ws k n tgt lv st) (kf : a = 0 → zV D X ws k n (pc + 3) lv st) : zV D X ws k n pc lv (.int a :: st) := by
  obtain ⟨p, l, e, R, s, m, args, below, meth, c, A, Q, nL⟩ := X
  obtain ⟨hx, hb, hml, hown, hts, hK, hA, rfl, rfl⟩ := G
  intro H locs ls hP hD hS hl
  exact lv_if_ne hx hb hdg ht (fun h => kt h H locs ls hP hD hS hl) (fun h => kf h H locs ls hP hD hS hl)
theorem z_if_neT (G : zG D y X cc own rm nm Ts) {a : Int32} {off : Int} (hdg : decode cc pc = .ok (.ifCond .ne off, 3)) (tgt : Nat) (ht : (pc : Int) + off = (tgt : Int)) (h : ¬ a = 0) (kt : zV D X ws k n tgt lv st) : zV D X ws k n pc lv (.int a :: st) := by
  obtain ⟨p, l, e, R, s, m, args, below, meth, c, A, Q, nL⟩ := X
  obtain ⟨hx, hb, hml, hown, hts, hK, hA, rfl, rfl⟩ := G
  intro H locs ls hP hD hS hl
  exact lv_if_ne hx hb hdg ht (fun _ => kt H locs ls hP hD hS hl) (fun h2 => absurd h (by first | exact h2 | exact (fun z => z h2)))
theorem z_if_neF (G : zG D y X cc own rm nm Ts) {a : Int32} {off : Int} (hdg : decode cc pc = .ok (.ifCond .ne off, 3)) (tgt : Nat) (ht : (pc : Int) + off = (tgt : Int)) (h : a = 0) (kf : zV D X ws k n (pc + 3) lv st) : zV D X ws k n pc lv (.int a :: st) := by
  obtain ⟨p, l, e, R, s, m, args, below, meth, c, A, Q, nL⟩ := X
  obtain ⟨hx, hb, hml, hown, hts, hK, hA, rfl, rfl⟩ := G
  intro H locs ls hP hD hS hl
  exact lv_if_ne hx hb hdg ht (fun h2 => absurd h2 (by first | exact h | exact (fun z => z h))) (fun _ => kf H locs ls hP hD hS hl)
theorem z_icmp_lt (G : zG D y X cc own rm nm Ts) {a b : Int32} {off : Int} (hdg : decode cc pc = .ok (.if_icmp .lt off, 3)) (tgt : Nat) (ht : (pc : Int) + off = (tgt : Int)) (kt : a < b → zV D X ws k n tgt lv st) (kf : ¬ a < b → zV D X ws k n (pc + 3) lv st) : zV D X ws k n pc lv (.int b :: .int a :: st) := by
  obtain ⟨p, l, e, R, s, m, args, below, meth, c, A, Q, nL⟩ := X
  obtain ⟨hx, hb, hml, hown, hts, hK, hA, rfl, rfl⟩ := G
  intro H locs ls hP hD hS hl
  exact lv_icmp_lt hx hb hdg ht (fun h => kt h H locs ls hP hD hS hl) (fun h => kf h H locs ls hP hD hS hl)
theorem z_icmp_ltT (G : zG D y X cc own rm nm Ts) {a b : Int32} {off : Int} (hdg : decode cc pc = .ok (.if_icmp .lt off, 3)) (tgt : Nat) (ht : (pc : Int) + off = (tgt : Int)) (h : a < b) (kt : zV D X ws k n tgt lv st) : zV D X ws k n pc lv (.int b :: .int a :: st) := by
  obtain ⟨p, l, e, R, s, m, args, below, meth, c, A, Q, nL⟩ := X
  obtain ⟨hx, hb, hml, hown, hts, hK, hA, rfl, rfl⟩ := G
  intro H locs ls hP hD hS hl
  exact lv_icmp_lt hx hb hdg ht (fun _ => kt H locs ls hP hD hS hl) (fun h2 => absurd h (by first | exact h2 | exact (fun z => z h2)))
theorem z_icmp_ltF (G : zG D y X cc own rm nm Ts) {a b : Int32} {off : Int} (hdg : decode cc pc = .ok (.if_icmp .lt off, 3)) (tgt : Nat) (ht : (pc : Int) + off = (tgt : Int)) (h : ¬ a < b) (kf : zV D X ws k n (pc + 3) lv st) : zV D X ws k n pc lv (.int b :: .int a :: st) := by
  obtain ⟨p, l, e, R, s, m, args, below, meth, c, A, Q, nL⟩ := X
  obtain ⟨hx, hb, hml, hown, hts, hK, hA, rfl, rfl⟩ := G
  intro H locs ls hP hD hS hl
  exact lv_icmp_lt hx hb hdg ht (fun h2 => absurd h2 (by first | exact h | exact (fun z => z h))) (fun _ => kf H locs ls hP hD hS hl)
theorem z_if_lt (G : zG D y X cc own rm nm Ts) {a : Int32} {off : Int} (hdg : decode cc pc = .ok (.ifCond .lt off, 3)) (tgt : Nat) (ht : (pc : Int) + off = (tgt : Int)) (kt : a < 0 → zV D X ws k n tgt lv st) (kf : ¬ a < 0 → zV D X ws k n (pc + 3) lv st) : zV D X ws k n pc lv (.int a :: st) := by
  obtain ⟨p, l, e, R, s, m, args, below, meth, c, A, Q, nL⟩ := X
  obtain ⟨hx, hb, hml, hown, hts, hK, hA, rfl, rfl⟩ := G
  intro H locs ls hP hD hS hl
  exact lv_if_lt hx hb hdg ht (fun h => kt h H locs ls hP hD hS hl) (fun h => kf h H locs ls hP hD hS hl)
theorem z_if_ltT (G : zG D y X cc own rm nm Ts) {a : Int32} {off : Int} (hdg : decode cc pc = .ok (.ifCond .lt off, 3)) (tgt : Nat) (ht : (pc : Int) + off = (tgt : Int)) (h : a < 0) (kt : zV D X ws k n tgt lv st) : zV D X ws k n pc lv (.int a :: st) := by
  obtain ⟨p, l, e, R, s, m, args, below, meth, c, A, Q, nL⟩ := X
  obtain ⟨hx, hb, hml, hown, hts, hK, hA, rfl, rfl⟩ := G
  intro H locs ls hP hD hS hl
  exact lv_if_lt hx hb hdg ht (fun _ => kt H locs ls hP hD hS hl) (fun h2 => absurd h (by first | exact h2 | exact (fun z => z h2)))
theorem z_if_ltF (G : zG D y X cc own rm nm Ts) {a : Int32} {off : Int} (hdg : decode cc pc = .ok (.ifCond .lt off, 3)) (tgt : Nat) (ht : (pc : Int) + off = (tgt : Int)) (h : ¬ a < 0) (kf : zV D X ws k n (pc + 3) lv st) : zV D X ws k n pc lv (.int a :: st) := by
  obtain ⟨p, l, e, R, s, m, args, below, meth, c, A, Q, nL⟩ := X
  obtain ⟨hx, hb, hml, hown, hts, hK, hA, rfl, rfl⟩ := G
  intro H locs ls hP hD hS hl
  exact lv_if_lt hx hb hdg ht (fun h2 => absurd h2 (by first | exact h | exact (fun z => z h))) (fun _ => kf H locs ls hP hD hS hl)
theorem z_icmp_ge (G : zG D y X cc own rm nm Ts) {a b : Int32} {off : Int} (hdg : decode cc pc = .ok (.if_icmp .ge off, 3)) (tgt : Nat) (ht : (pc : Int) + off = (tgt : Int)) (kt : b ≤ a → zV D X ws k n tgt lv st) (kf : ¬ b ≤ a → zV D X ws k n (pc + 3) lv st) : zV D X ws k n pc lv (.int b :: .int a :: st) := by
  obtain ⟨p, l, e, R, s, m, args, below, meth, c, A, Q, nL⟩ := X
  obtain ⟨hx, hb, hml, hown, hts, hK, hA, rfl, rfl⟩ := G
  intro H locs ls hP hD hS hl
  exact lv_icmp_ge hx hb hdg ht (fun h => kt h H locs ls hP hD hS hl) (fun h => kf h H locs ls hP hD hS hl)
theorem z_icmp_geT (G : zG D y X cc own rm nm Ts) {a b : Int32} {off : Int} (hdg : decode cc pc = .ok (.if_icmp .ge off, 3)) (tgt : Nat) (ht : (pc : Int) + off = (tgt : Int)) (h : b ≤ a) (kt : zV D X ws k n tgt lv st) : zV D X ws k n pc lv (.int b :: .int a :: st) := by
  obtain ⟨p, l, e, R, s, m, args, below, meth, c, A, Q, nL⟩ := X
  obtain ⟨hx, hb, hml, hown, hts, hK, hA, rfl, rfl⟩ := G
  intro H locs ls hP hD hS hl
  exact lv_icmp_ge hx hb hdg ht (fun _ => kt H locs ls hP hD hS hl) (fun h2 => absurd h (by first | exact h2 | exact (fun z => z h2)))
theorem z_icmp_geF (G : zG D y X cc own rm nm Ts) {a b : Int32} {off : Int} (hdg : decode cc pc = .ok (.if_icmp .ge off, 3)) (tgt : Nat) (ht : (pc : Int) + off = (tgt : Int)) (h : ¬ b ≤ a) (kf : zV D X ws k n (pc + 3) lv st) : zV D X ws k n pc lv (.int b :: .int a :: st) := by
  obtain ⟨p, l, e, R, s, m, args, below, meth, c, A, Q, nL⟩ := X
  obtain ⟨hx, hb, hml, hown, hts, hK, hA, rfl, rfl⟩ := G
  intro H locs ls hP hD hS hl
  exact lv_icmp_ge hx hb hdg ht (fun h2 => absurd h2 (by first | exact h | exact (fun z => z h))) (fun _ => kf H locs ls hP hD hS hl)
theorem z_if_ge (G : zG D y X cc own rm nm Ts) {a : Int32} {off : Int} (hdg : decode cc pc = .ok (.ifCond .ge off, 3)) (tgt : Nat) (ht : (pc : Int) + off = (tgt : Int)) (kt : 0 ≤ a → zV D X ws k n tgt lv st) (kf : ¬ 0 ≤ a → zV D X ws k n (pc + 3) lv st) : zV D X ws k n pc lv (.int a :: st) := by
  obtain ⟨p, l, e, R, s, m, args, below, meth, c, A, Q, nL⟩ := X
  obtain ⟨hx, hb, hml, hown, hts, hK, hA, rfl, rfl⟩ := G
  intro H locs ls hP hD hS hl
  exact lv_if_ge hx hb hdg ht (fun h => kt h H locs ls hP hD hS hl) (fun h => kf h H locs ls hP hD hS hl)
theorem z_if_geT (G : zG D y X cc own rm nm Ts) {a : Int32} {off : Int} (hdg : decode cc pc = .ok (.ifCond .ge off, 3)) (tgt : Nat) (ht : (pc : Int) + off = (tgt : Int)) (h : 0 ≤ a) (kt : zV D X ws k n tgt lv st) : zV D X ws k n pc lv (.int a :: st) := by
  obtain ⟨p, l, e, R, s, m, args, below, meth, c, A, Q, nL⟩ := X
  obtain ⟨hx, hb, hml, hown, hts, hK, hA, rfl, rfl⟩ := G
  intro H locs ls hP hD hS hl
  exact lv_if_ge hx hb hdg ht (fun _ => kt H locs ls hP hD hS hl) (fun h2 => absurd h (by first | exact h2 | exact (fun z => z h2)))
theorem z_if_geF (G : zG D y X cc own rm nm Ts) {a : Int32} {off : Int} (hdg : decode cc pc = .ok (.ifCond .ge off, 3)) (tgt : Nat) (ht : (pc : Int) + off = (tgt : Int)) (h : ¬ 0 ≤ a) (kf : zV D X ws k n (pc + 3) lv st) : zV D X ws k n pc lv (.int a :: st) := by
  obtain ⟨p, l, e, R, s, m, args, below, meth, c, A, Q, nL⟩ := X
  obtain ⟨hx, hb, hml, hown, hts, hK, hA, rfl, rfl⟩ := G
  intro H locs ls hP hD hS hl
  exact lv_if_ge hx hb hdg ht (fun h2 => absurd h2 (by first | exact h | exact (fun z => z h))) (fun _ => kf H locs ls hP hD hS hl)
theorem z_icmp_gt (G : zG D y X cc own rm nm Ts) {a b : Int32} {off : Int} (hdg : decode cc pc = .ok (.if_icmp .gt off, 3)) (tgt : Nat) (ht : (pc : Int) + off = (tgt : Int)) (kt : b < a → zV D X ws k n tgt lv st) (kf : ¬ b < a → zV D X ws k n (pc + 3) lv st) : zV D X ws k n pc lv (.int b :: .int a :: st) := by
  obtain ⟨p, l, e, R, s, m, args, below, meth, c, A, Q, nL⟩ := X
  obtain ⟨hx, hb, hml, hown, hts, hK, hA, rfl, rfl⟩ := G
  intro H locs ls hP hD hS hl
  exact lv_icmp_gt hx hb hdg ht (fun h => kt h H locs ls hP hD hS hl) (fun h => kf h H locs ls hP hD hS hl)
theorem z_icmp_gtT (G : zG D y X cc own rm nm Ts) {a b : Int32} {off : Int} (hdg : decode cc pc = .ok (.if_icmp .gt off, 3)) (tgt : Nat) (ht : (pc : Int) + off = (tgt : Int)) (h : b < a) (kt : zV D X ws k n tgt lv st) : zV D X ws k n pc lv (.int b :: .int a :: st) := by
  obtain ⟨p, l, e, R, s, m, args, below, meth, c, A, Q, nL⟩ := X
  obtain ⟨hx, hb, hml, hown, hts, hK, hA, rfl, rfl⟩ := G
  intro H locs ls hP hD hS hl
  exact lv_icmp_gt hx hb hdg ht (fun _ => kt H locs ls hP hD hS hl) (fun h2 => absurd h (by first | exact h2 | exact (fun z => z h2)))
theorem z_icmp_gtF (G : zG D y X cc own rm nm Ts) {a b : Int32} {off : Int} (hdg : decode cc pc = .ok (.if_icmp .gt off, 3)) (tgt : Nat) (ht : (pc : Int) + off = (tgt : Int)) (h : ¬ b < a) (kf : zV D X ws k n (pc + 3) lv st) : zV D X ws k n pc lv (.int b :: .int a :: st) := by
  obtain ⟨p, l, e, R, s, m, args, below, meth, c, A, Q, nL⟩ := X
  obtain ⟨hx, hb, hml, hown, hts, hK, hA, rfl, rfl⟩ := G
  intro H locs ls hP hD hS hl
  exact lv_icmp_gt hx hb hdg ht (fun h2 => absurd h2 (by first | exact h | exact (fun z => z h))) (fun _ => kf H locs ls hP hD hS hl)
theorem z_if_gt (G : zG D y X cc own rm nm Ts) {a : Int32} {off : Int} (hdg : decode cc pc = .ok (.ifCond .gt off, 3)) (tgt : Nat) (ht : (pc : Int) + off = (tgt : Int)) (kt : 0 < a → zV D X ws k n tgt lv st) (kf : ¬ 0 < a → zV D X ws k n (pc + 3) lv st) : zV D X ws k n pc lv (.int a :: st) := by
  obtain ⟨p, l, e, R, s, m, args, below, meth, c, A, Q, nL⟩ := X
  obtain ⟨hx, hb, hml, hown, hts, hK, hA, rfl, rfl⟩ := G
  intro H locs ls hP hD hS hl
  exact lv_if_gt hx hb hdg ht (fun h => kt h H locs ls hP hD hS hl) (fun h => kf h H locs ls hP hD hS hl)
theorem z_if_gtT (G : zG D y X cc own rm nm Ts) {a : Int32} {off : Int} (hdg : decode cc pc = .ok (.ifCond .gt off, 3)) (tgt : Nat) (ht : (pc : Int) + off = (tgt : Int)) (h : 0 < a) (kt : zV D X ws k n tgt lv st) : zV D X ws k n pc lv (.int a :: st) := by
  obtain ⟨p, l, e, R, s, m, args, below, meth, c, A, Q, nL⟩ := X
  obtain ⟨hx, hb, hml, hown, hts, hK, hA, rfl, rfl⟩ := G
  intro H locs ls hP hD hS hl
  exact lv_if_gt hx hb hdg ht (fun _ => kt H locs ls hP hD hS hl) (fun h2 => absurd h (by first | exact h2 | exact (fun z => z h2)))
theorem z_if_gtF (G : zG D y X cc own rm nm Ts) {a : Int32} {off : Int} (hdg : decode cc pc = .ok (.ifCond .gt off, 3)) (tgt : Nat) (ht : (pc : Int) + off = (tgt : Int)) (h : ¬ 0 < a) (kf : zV D X ws k n (pc + 3) lv st) : zV D X ws k n pc lv (.int a :: st) := by
  obtain ⟨p, l, e, R, s, m, args, below, meth, c, A, Q, nL⟩ := X
  obtain ⟨hx, hb, hml, hown, hts, hK, hA, rfl, rfl⟩ := G
  intro H locs ls hP hD hS hl
  exact lv_if_gt hx hb hdg ht (fun h2 => absurd h2 (by first | exact h | exact (fun z => z h))) (fun _ => kf H locs ls hP hD hS hl)
theorem z_icmp_le (G : zG D y X cc own rm nm Ts) {a b : Int32} {off : Int} (hdg : decode cc pc = .ok (.if_icmp .le off, 3)) (tgt : Nat) (ht : (pc : Int) + off = (tgt : Int)) (kt : a ≤ b → zV D X ws k n tgt lv st) (kf : ¬ a ≤ b → zV D X ws k n (pc + 3) lv st) : zV D X ws k n pc lv (.int b :: .int a :: st) := by
  obtain ⟨p, l, e, R, s, m, args, below, meth, c, A, Q, nL⟩ := X
  obtain ⟨hx, hb, hml, hown, hts, hK, hA, rfl, rfl⟩ := G
  intro H locs ls hP hD hS hl
  exact lv_icmp_le hx hb hdg ht (fun h => kt h H locs ls hP hD hS hl) (fun h => kf h H locs ls hP hD hS hl)
theorem z_icmp_leT (G : zG D y X cc own rm nm Ts) {a b : Int32} {off : Int} (hdg : decode cc pc = .ok (.if_icmp .le off, 3)) (tgt : Nat) (ht : (pc : Int) + off = (tgt : Int)) (h : a ≤ b) (kt : zV D X ws k n tgt lv st) : zV D X ws k n pc lv (.int b :: .int a :: st) := by
  obtain ⟨p, l, e, R, s, m, args, below, meth, c, A, Q, nL⟩ := X
  obtain ⟨hx, hb, hml, hown, hts, hK, hA, rfl, rfl⟩ := G
  intro H locs ls hP hD hS hl
  exact lv_icmp_le hx hb hdg ht (fun _ => kt H locs ls hP hD hS hl) (fun h2 => absurd h (by first | exact h2 | exact (fun z => z h2)))
theorem z_icmp_leF (G : zG D y X cc own rm nm Ts) {a b : Int32} {off : Int} (hdg : decode cc pc = .ok (.if_icmp .le off, 3)) (tgt : Nat) (ht : (pc : Int) + off = (tgt : Int)) (h : ¬ a ≤ b) (kf : zV D X ws k n (pc + 3) lv st) : zV D X ws k n pc lv (.int b :: .int a :: st) := by
  obtain ⟨p, l, e, R, s, m, args, below, meth, c, A, Q, nL⟩ := X
  obtain ⟨hx, hb, hml, hown, hts, hK, hA, rfl, rfl⟩ := G
  intro H locs ls hP hD hS hl
  exact lv_icmp_le hx hb hdg ht (fun h2 => absurd h2 (by first | exact h | exact (fun z => z h))) (fun _ => kf H locs ls hP hD hS hl)
theorem z_if_le (G : zG D y X cc own rm nm Ts) {a : Int32} {off : Int} (hdg : decode cc pc = .ok (.ifCond .le off, 3)) (tgt : Nat) (ht : (pc : Int) + off = (tgt : Int)) (kt : a ≤ 0 → zV D X ws k n tgt lv st) (kf : ¬ a ≤ 0 → zV D X ws k n (pc + 3) lv st) : zV D X ws k n pc lv (.int a :: st) := by
  obtain ⟨p, l, e, R, s, m, args, below, meth, c, A, Q, nL⟩ := X
  obtain ⟨hx, hb, hml, hown, hts, hK, hA, rfl, rfl⟩ := G
  intro H locs ls hP hD hS hl
  exact lv_if_le hx hb hdg ht (fun h => kt h H locs ls hP hD hS hl) (fun h => kf h H locs ls hP hD hS hl)
theorem z_if_leT (G : zG D y X cc own rm nm Ts) {a : Int32} {off : Int} (hdg : decode cc pc = .ok (.ifCond .le off, 3)) (tgt : Nat) (ht : (pc : Int) + off = (tgt : Int)) (h : a ≤ 0) (kt : zV D X ws k n tgt lv st) : zV D X ws k n pc lv (.int a :: st) := by
  obtain ⟨p, l, e, R, s, m, args, below, meth, c, A, Q, nL⟩ := X
  obtain ⟨hx, hb, hml, hown, hts, hK, hA, rfl, rfl⟩ := G
  intro H locs ls hP hD hS hl
  exact lv_if_le hx hb hdg ht (fun _ => kt H locs ls hP hD hS hl) (fun h2 => absurd h (by first | exact h2 | exact (fun z => z h2)))
theorem z_if_leF (G : zG D y X cc own rm nm Ts) {a : Int32} {off : Int} (hdg : decode cc pc = .ok (.ifCond .le off, 3)) (tgt : Nat) (ht : (pc : Int) + off = (tgt : Int)) (h : ¬ a ≤ 0) (kf : zV D X ws k n (pc + 3) lv st) : zV D X ws k n pc lv (.int a :: st) := by
  obtain ⟨p, l, e, R, s, m, args, below, meth, c, A, Q, nL⟩ := X
  obtain ⟨hx, hb, hml, hown, hts, hK, hA, rfl, rfl⟩ := G
  intro H locs ls hP hD hS hl
  exact lv_if_le hx hb hdg ht (fun h2 => absurd h2 (by first | exact h | exact (fun z => z h))) (fun _ => kf H locs ls hP hD hS hl)
theorem z_ifnull (G : zG D y X cc own rm nm Ts) {a : Nat} {off : Int} (hdg : decode cc pc = .ok (.ifnull off, 3)) (kk : zV D X ws k n (pc + 3) lv st) : zV D X ws k n pc lv (.ref a :: st) := by
  obtain ⟨p, l, e, R, s, m, args, below, meth, c, A, Q, nL⟩ := X
  obtain ⟨hx, hb, hml, hown, hts, hK, hA, rfl, rfl⟩ := G
  intro H locs ls hP hD hS hl
  exact lv_ifnull hx hb hdg (kk H locs ls hP hD hS hl)
theorem z_lookup (G : zG D y X cc own rm nm Ts) {dflt : Int} {ps : Array (Int × Int)} {len : Nat} {x : Int32} {off : Int} (tgt : Nat) (hdg : decode cc pc = .ok (.lookupswitch dflt ps, len)) (hp : (ps.toList.zip (ps.toList.drop 1)).all (fun (a, next) => a.1 < next.1) = true) (ho : Op.lookupswitch.offset ps.toList dflt x.toInt = off) (ht : (pc : Int) + off = (tgt : Int)) (kk : zV D X ws k n tgt lv st) : zV D X ws k n pc lv (.int x :: st) := by
  obtain ⟨p, l, e, R, s, m, args, below, meth, c, A, Q, nL⟩ := X
  obtain ⟨hx, hb, hml, hown, hts, hK, hA, rfl, rfl⟩ := G
  intro H locs ls hP hD hS hl
  exact lv_lookup hx hb hdg hp ho ht (kk H locs ls hP hD hS hl)
theorem z_tableOut (G : zG D y X cc own rm nm Ts) {dflt lo hi : Int} {offs : Array Int} {len : Nat} {x : Int32} (tgt : Nat) (hdg : decode cc pc = .ok (.tableswitch dflt lo hi offs, len)) (h : x.toInt < lo ∨ hi < x.toInt) (ht : (pc : Int) + dflt = (tgt : Int)) (kk : zV D X ws k n tgt lv st) : zV D X ws k n pc lv (.int x :: st) := by
  obtain ⟨p, l, e, R, s, m, args, below, meth, c, A, Q, nL⟩ := X
  obtain ⟨hx, hb, hml, hown, hts, hK, hA, rfl, rfl⟩ := G
  intro H locs ls hP hD hS hl
  exact lv_tableOut hx hb hdg h ht (kk H locs ls hP hD hS hl)
theorem z_tableIn (G : zG D y X cc own rm nm Ts) {dflt lo hi : Int} {offs : Array Int} {len : Nat} {x : Int32} {off : Int} (tgt : Nat) (hdg : decode cc pc = .ok (.tableswitch dflt lo hi offs, len)) (h1 : ¬ x.toInt < lo) (h2 : ¬ hi < x.toInt) (ho : offs[(x.toInt - lo).toNat]? = some off) (ht : (pc : Int) + off = (tgt : Int)) (kk : zV D X ws k n tgt lv st) : zV D X ws k n pc lv (.int x :: st) := by
  obtain ⟨p, l, e, R, s, m, args, below, meth, c, A, Q, nL⟩ := X
  obtain ⟨hx, hb, hml, hown, hts, hK, hA, rfl, rfl⟩ := G
  intro H locs ls hP hD hS hl
  exact lv_tableIn hx hb hdg h1 h2 ho ht (kk H locs ls hP hD hS hl)
theorem z_top {v w : Value} (h : v = w) (kk : zV D X ws k n pc lv (w :: st)) : zV D X ws k n pc lv (v :: st) := h ▸ kk
theorem z_world {ws' : va_W} (h : ws = ws') (kk : zV D X ws' k n pc lv st) : zV D X ws k n pc lv st := h ▸ kk
theorem z_pc {pc' : Nat} (h : pc = pc') (kk : zV D X ws k n pc' lv st) : zV D X ws k n pc lv st := h ▸ kk
theorem z_lv {lv' : List (Nat × Value)} (h : lv = lv') (kk : zV D X ws k n pc lv' st) : zV D X ws k n pc lv st := h ▸ kk
theorem z_loc (G : zG D y X cc own rm nm Ts) (lv' : List (Nat × Value)) (ks : List Nat) (hk : lv_pick lv ks = lv') (kk : zV D X ws k n pc lv' st) : zV D X ws k n pc lv st := by
  obtain ⟨p, l, e, R, s, m, args, below, meth, c, A, Q, nL⟩ := X
  obtain ⟨hx, hb, hml, hown, hts, hK, hA, rfl, rfl⟩ := G
  intro H locs ls hP hD hS hl
  exact kk H locs ls hP hD hS (lv_sub hl ks hk)
theorem z_widen (G : zG D y X cc own rm nm Ts) {k2 n2 : Nat} (h1 : k ≤ k2) (h2 : n ≤ n2) (kk : zV D X ws k2 n2 pc lv st) : zV D X ws k n pc lv st := by
  obtain ⟨p, l, e, R, s, m, args, below, meth, c, A, Q, nL⟩ := X
  obtain ⟨hx, hb, hml, hown, hts, hK, hA, rfl, rfl⟩ := G
  intro H locs ls hP hD hS hl
  exact W.widen h1 h2 (kk H locs ls hP hD hS hl)
theorem va_P.perm {D : va_G} {cl : List vw_C} {w1 w2 : va_W} {H : Heap} (h : w1.Perm w2) (hP : va_P D cl w1 H) : va_P D cl w2 H := fun _ q hq => by
  obtain ⟨i, hi⟩ := List.getElem?_of_mem (h.mem_iff.mpr (List.mem_of_getElem? hq))
  exact hP i q hi
theorem va_D.iff {A : Nat → Prop} {w : va_W} : va_D A w ↔ w.Pairwise (fun p q => p.1 ≠ q.1) ∧ ∀ q ∈ w, A q.1 := by
  constructor
  · intro h
    refine ⟨List.pairwise_iff_getElem.mpr (fun i j hi hj hij e => ?_), fun q hq => ?_⟩
    · have := h.1 i j _ _ (List.getElem?_eq_getElem hi) (List.getElem?_eq_getElem hj) e
      omega
    · obtain ⟨i, hi⟩ := List.getElem?_of_mem hq
      exact h.2 i q hi
  · intro h
    refine ⟨fun i j p q hp hq e => ?_, fun k q hq => h.2 q (List.mem_of_getElem? hq)⟩
    have h1 := List.pairwise_iff_getElem.mp h.1
    obtain ⟨li, ep⟩ := List.getElem?_eq_some_iff.mp hp
    obtain ⟨lj, eq⟩ := List.getElem?_eq_some_iff.mp hq
    rcases Nat.lt_trichotomy i j with z | z | z
    · exact absurd (by rw [ep, eq]; exact e) (h1 i j li lj z)
    · exact z
    · exact absurd (by rw [ep, eq]; exact e.symm) (h1 j i lj li z)
theorem va_D.perm {A : Nat → Prop} {w1 w2 : va_W} (h : w1.Perm w2) (hD : va_D A w1) : va_D A w2 := by
  rw [va_D.iff] at hD ⊢
  exact ⟨(List.Perm.pairwise_iff (fun z => Ne.symm z) h).mp hD.1, fun q hq => hD.2 q (h.mem_iff.mpr hq)⟩
theorem z_perm {ws' : va_W} (h : ws.Perm ws') (kk : zV D X ws' k n pc lv st) : zV D X ws k n pc lv st := by
  obtain ⟨p, l, e, R, s, m, args, below, meth, c, A, Q, nL⟩ := X
  intro H locs ls hP hD hS hl
  exact kk H locs ls (hP.perm h) (hD.perm h) hS hl
/-- a frame: the callee's cells wc, the rest wr -/
theorem z_join {A0 : Nat → Prop} {D : va_G} {cl : List vw_C} {wc wr w1 : va_W} {H H1 : Heap} (hP : va_P D cl (wc ++ wr) H) (hD : va_D A0 (wc ++ wr))
    (hk : ∀ q : Nat, q < H.size → ¬ va_A wc H.size q → H1[q]? = H[q]?) (hF : ∀ q, va_A wc H.size q → A0 q) (hP1 : va_P D cl w1 H1) (hD1 : va_D (va_A wc H.size) w1) : va_P D cl (w1 ++ wr) H1 ∧ va_D A0 (w1 ++ wr) := by
  have apart : ∀ (k : Nat) (q : Nat × va_E), wr[k]? = some q → q.1 < H.size ∧ ¬ va_A wc H.size q.1 := by
    intro k q hq
    have hq' : (wc ++ wr)[wc.length + k]? = some q := by rw [List.getElem?_append_right (by omega), Nat.add_sub_cancel_left]; exact hq
    have hl := (hP _ q hq').lt
    refine ⟨hl, fun h => ?_⟩
    rcases h with ⟨k2, e, h⟩ | h
    · have hlt := (List.getElem?_eq_some_iff.mp h).1
      have h' : (wc ++ wr)[k2]? = some (q.1, e) := by rw [List.getElem?_append_left hlt]; exact h
      have hij := hD.1 _ _ q (q.1, e) hq' h' rfl
      omega
    · omega
  refine ⟨hP1.app (fun k q hq => ?_), va_D.app (hD1.weaken (fun k q _ h => hF q.1 h)) ⟨fun i j p q hp hq e => ?_, fun k q hq => hD.2 (wc.length + k) q (by rw [List.getElem?_append_right (by omega), Nat.add_sub_cancel_left]; exact hq)⟩ (fun i j x z hx hz hxz => ?_)⟩
  · obtain ⟨g1, g2⟩ := apart k q hq
    have hq' : (wc ++ wr)[wc.length + k]? = some q := by rw [List.getElem?_append_right (by omega), Nat.add_sub_cancel_left]; exact hq
    exact (hP _ q hq').kept (hk q.1 g1 g2)
  · have h1 : (wc ++ wr)[wc.length + i]? = some p := by rw [List.getElem?_append_right (by omega), Nat.add_sub_cancel_left]; exact hp
    have h2 : (wc ++ wr)[wc.length + j]? = some q := by rw [List.getElem?_append_right (by omega), Nat.add_sub_cancel_left]; exact hq
    have := hD.1 _ _ p q h1 h2 e
    omega
  · exact (apart j z hz).2 (by rw [← hxz]; exact hD1.2 i x hx)
/-- what a call needs to know of its callee -/
def zCal (yn : MethodName) (wm : List Cond) (bytes : ByteArray) (maxL : Nat) (ret : Option FieldType) (na : Nat) : Prop := (∃ ws', wm = Cond.code yn bytes maxL ret :: ws') ∧ (yn.cls ≠ "java/lang/invoke/MethodHandle" ∧ yn.cls ≠ "java/lang/invoke/VarHandle" ∧ (parseMethodDescriptor yn.desc).map (fun d => d.parameters.length) = some na)

theorem z_callVi (G : zG D y X cc own rm nm Ts) {wc wr : va_W} {rest As : List Value} {b : Addr} {idx na : Nat} {yn : MethodName} {bytes : ByteArray} {maxL : Nat} {ret : Option FieldType} {wm : List Cond} {rm2 : Room} {Post : Int32 → va_W → Prop}
    (hM : ∀ l, zMi l D y yn wm rm2 (.ref b :: As) wc Post) (hk : zCal yn wm bytes maxL ret na) (hg : GoodIn Ts (wsV own idx yn.cls yn wm)) (q0 ci : Nat) {fs : List Value} {qc : vw_C} (hr : wc[q0]? = some (b, .inr (ci, fs))) (hc : vwCl[ci]? = some qc) (hcn : qc.1 = yn.cls) (hdg : decode cc pc = .ok (.invokevirtual idx, 3)) (hR : rm2.frames + 1 ≤ rm.frames ∧ 8 + (maxL + 11) + rm2.locals ≤ rm.locals) (hfit : k + rm2.cells ≤ rm.cells ∧ n + rm2.slots ≤ rm.slots) (hn : As.length = na) (hcat : (rest.map fun v => v.category).sum ≤ 8) (st : List Value) (hst : st = (As.reverse ++ .ref b :: rest))
    (kk : ∀ (r : Int32) (w1 : va_W), Post r w1 → zV D X (w1 ++ wr) (k + rm2.cells) (n + rm2.slots) (pc + 3) lv (.int r :: rest)) : zV D X (wc ++ wr) k n pc lv st := by
  obtain ⟨p, l, e, R, s, m, args, below, meth, c, A, Q, nL⟩ := X
  obtain ⟨hx, hb, hml, hown, hts, hK, hA, rfl, rfl⟩ := G
  obtain ⟨⟨ws', hw⟩, hd⟩ := hk
  subst hst
  intro H locs ls hP hD hS hl
  have hPc : va_P D vwCl wc H := fun k q hq => hP k q (by rw [List.getElem?_append_left (List.getElem?_eq_some_iff.mp hq).1]; exact hq)
  have hDc : va_D A wc := ⟨fun i j p q hp hq e => hD.1 i j p q (by rw [List.getElem?_append_left (List.getElem?_eq_some_iff.mp hp).1]; exact hp) (by rw [List.getElem?_append_left (List.getElem?_eq_some_iff.mp hq).1]; exact hq) e, fun k q hq => hD.2 k q (by rw [List.getElem?_append_left (List.getElem?_eq_some_iff.mp hq).1]; exact hq)⟩
  have hFc : ∀ q, va_A wc H.size q → A q := by
    intro q h
    rcases h with ⟨k, e, h⟩ | h
    · exact hDc.2 k (q, e) h
    · exact hA q (Nat.le_trans hS.1 h)
  have hbl : FrameBlind (va_Pc (.ref b :: As) (fun U => U.heap.size = H.size ∧ va_P D vwCl wc U.heap ∧ va_K D vwCl (zT y) U ∧ va_D (fun _ => True) wc)) := fun a U g mk q => by
    obtain ⟨q0, q1, qP, qK, qD⟩ := q
    exact ⟨q0, q1, qP, va_K.moved (u := U) (U := U.calling g mk a) (Vm.Alike.refl U.vm) qK, qD⟩
  have hpre : ∀ U : State, U.heap = H → s.WarmedH U.vm → va_Pc (.ref b :: As) (fun U => U.heap.size = H.size ∧ va_P D vwCl wc U.heap ∧ va_K D vwCl (zT y) U ∧ va_D (fun _ => True) wc) (.ref b :: As).toArray U := fun U hU hW => ⟨rfl, by rw [hU], by rw [hU]; exact hPc, va_K.moved hW.alike hK, hDc.weaken (fun _ _ _ _ => trivial)⟩
  have hfit' : k + rm2.cells ≤ R.cells ∧ n + rm2.slots ≤ R.slots := hfit
  refine va_calli (va_runV (As := As) (rest := rest) ⟨hx, hb, hml, hown, hts⟩ (hM l H.size) (cwV na hts hg hw rfl rfl ⟨rfl, hd⟩ hR) ⟨hbl, hcn ▸ va_recv hK hPc hc hr, hpre⟩ rfl hn hl.1 rfl (lv_room hcat) hdg hfit) hS (fun q _ h => hFc q h) hFc (fun r u t H1 locs ht hvm hp hB hz1 hk1 hS1 => ?_)
  obtain ⟨hP1, hK1, hD1⟩ := hB
  rw [ht] at hP1
  obtain ⟨hP2, hD2⟩ := z_join hP hD hk1 hFc hP1 hD1
  exact kk r u hp H1 locs ls hP2 hD2 hS1 hl
theorem z_callVv (G : zG D y X cc own rm nm Ts) {wc wr : va_W} {rest As : List Value} {b : Addr} {idx na : Nat} {yn : MethodName} {bytes : ByteArray} {maxL : Nat} {ret : Option FieldType} {wm : List Cond} {rm2 : Room} {Post : va_W → Prop}
    (hM : ∀ l, zMv l D y yn wm rm2 (.ref b :: As) wc Post) (hk : zCal yn wm bytes maxL ret na) (hg : GoodIn Ts (wsV own idx yn.cls yn wm)) (q0 ci : Nat) {fs : List Value} {qc : vw_C} (hr : wc[q0]? = some (b, .inr (ci, fs))) (hc : vwCl[ci]? = some qc) (hcn : qc.1 = yn.cls) (hdg : decode cc pc = .ok (.invokevirtual idx, 3)) (hR : rm2.frames + 1 ≤ rm.frames ∧ 8 + (maxL + 11) + rm2.locals ≤ rm.locals) (hfit : k + rm2.cells ≤ rm.cells ∧ n + rm2.slots ≤ rm.slots) (hn : As.length = na) (hcat : (rest.map fun v => v.category).sum ≤ 8) (st : List Value) (hst : st = (As.reverse ++ .ref b :: rest))
    (kk : ∀ (w1 : va_W), Post w1 → zV D X (w1 ++ wr) (k + rm2.cells) (n + rm2.slots) (pc + 3) lv rest) : zV D X (wc ++ wr) k n pc lv st := by
  obtain ⟨p, l, e, R, s, m, args, below, meth, c, A, Q, nL⟩ := X
  obtain ⟨hx, hb, hml, hown, hts, hK, hA, rfl, rfl⟩ := G
  obtain ⟨⟨ws', hw⟩, hd⟩ := hk
  subst hst
  intro H locs ls hP hD hS hl
  have hPc : va_P D vwCl wc H := fun k q hq => hP k q (by rw [List.getElem?_append_left (List.getElem?_eq_some_iff.mp hq).1]; exact hq)
  have hDc : va_D A wc := ⟨fun i j p q hp hq e => hD.1 i j p q (by rw [List.getElem?_append_left (List.getElem?_eq_some_iff.mp hp).1]; exact hp) (by rw [List.getElem?_append_left (List.getElem?_eq_some_iff.mp hq).1]; exact hq) e, fun k q hq => hD.2 k q (by rw [List.getElem?_append_left (List.getElem?_eq_some_iff.mp hq).1]; exact hq)⟩
  have hFc : ∀ q, va_A wc H.size q → A q := by
    intro q h
    rcases h with ⟨k, e, h⟩ | h
    · exact hDc.2 k (q, e) h
    · exact hA q (Nat.le_trans hS.1 h)
  have hbl : FrameBlind (va_Pc (.ref b :: As) (fun U => U.heap.size = H.size ∧ va_P D vwCl wc U.heap ∧ va_K D vwCl (zT y) U ∧ va_D (fun _ => True) wc)) := fun a U g mk q => by
    obtain ⟨q0, q1, qP, qK, qD⟩ := q
    exact ⟨q0, q1, qP, va_K.moved (u := U) (U := U.calling g mk a) (Vm.Alike.refl U.vm) qK, qD⟩
  have hpre : ∀ U : State, U.heap = H → s.WarmedH U.vm → va_Pc (.ref b :: As) (fun U => U.heap.size = H.size ∧ va_P D vwCl wc U.heap ∧ va_K D vwCl (zT y) U ∧ va_D (fun _ => True) wc) (.ref b :: As).toArray U := fun U hU hW => ⟨rfl, by rw [hU], by rw [hU]; exact hPc, va_K.moved hW.alike hK, hDc.weaken (fun _ _ _ _ => trivial)⟩
  have hfit' : k + rm2.cells ≤ R.cells ∧ n + rm2.slots ≤ R.slots := hfit
  refine va_callv (va_runV (As := As) (rest := rest) ⟨hx, hb, hml, hown, hts⟩ (hM l H.size) (cwV na hts hg hw rfl rfl ⟨rfl, hd⟩ hR) ⟨hbl, hcn ▸ va_recv hK hPc hc hr, hpre⟩ rfl hn hl.1 rfl (lv_room hcat) hdg hfit) hS (fun q _ h => hFc q h) hFc (fun u t H1 locs ht hvm hp hB hz1 hk1 hS1 => ?_)
  obtain ⟨hP1, hK1, hD1⟩ := hB
  rw [ht] at hP1
  obtain ⟨hP2, hD2⟩ := z_join hP hD hk1 hFc hP1 hD1
  exact kk u hp H1 locs ls hP2 hD2 hS1 hl
theorem z_callVr (G : zG D y X cc own rm nm Ts) {wc wr : va_W} {rest As : List Value} {b : Addr} {idx na : Nat} {yn : MethodName} {bytes : ByteArray} {maxL : Nat} {ret : Option FieldType} {wm : List Cond} {rm2 : Room} {Post : Nat → va_W → Prop}
    (hM : ∀ l, zMr l D y yn wm rm2 (.ref b :: As) wc Post) (hk : zCal yn wm bytes maxL ret na) (hg : GoodIn Ts (wsV own idx yn.cls yn wm)) (q0 ci : Nat) {fs : List Value} {qc : vw_C} (hr : wc[q0]? = some (b, .inr (ci, fs))) (hc : vwCl[ci]? = some qc) (hcn : qc.1 = yn.cls) (hdg : decode cc pc = .ok (.invokevirtual idx, 3)) (hR : rm2.frames + 1 ≤ rm.frames ∧ 8 + (maxL + 11) + rm2.locals ≤ rm.locals) (hfit : k + rm2.cells ≤ rm.cells ∧ n + rm2.slots ≤ rm.slots) (hn : As.length = na) (hcat : (rest.map fun v => v.category).sum ≤ 8) (st : List Value) (hst : st = (As.reverse ++ .ref b :: rest))
    (kk : ∀ (r : Nat) (w1 : va_W), Post r w1 → zV D X (w1 ++ wr) (k + rm2.cells) (n + rm2.slots) (pc + 3) lv (.ref r :: rest)) : zV D X (wc ++ wr) k n pc lv st := by
  obtain ⟨p, l, e, R, s, m, args, below, meth, c, A, Q, nL⟩ := X
  obtain ⟨hx, hb, hml, hown, hts, hK, hA, rfl, rfl⟩ := G
  obtain ⟨⟨ws', hw⟩, hd⟩ := hk
  subst hst
  intro H locs ls hP hD hS hl
  have hPc : va_P D vwCl wc H := fun k q hq => hP k q (by rw [List.getElem?_append_left (List.getElem?_eq_some_iff.mp hq).1]; exact hq)
  have hDc : va_D A wc := ⟨fun i j p q hp hq e => hD.1 i j p q (by rw [List.getElem?_append_left (List.getElem?_eq_some_iff.mp hp).1]; exact hp) (by rw [List.getElem?_append_left (List.getElem?_eq_some_iff.mp hq).1]; exact hq) e, fun k q hq => hD.2 k q (by rw [List.getElem?_append_left (List.getElem?_eq_some_iff.mp hq).1]; exact hq)⟩
  have hFc : ∀ q, va_A wc H.size q → A q := by
    intro q h
    rcases h with ⟨k, e, h⟩ | h
    · exact hDc.2 k (q, e) h
    · exact hA q (Nat.le_trans hS.1 h)
  have hbl : FrameBlind (va_Pc (.ref b :: As) (fun U => U.heap.size = H.size ∧ va_P D vwCl wc U.heap ∧ va_K D vwCl (zT y) U ∧ va_D (fun _ => True) wc)) := fun a U g mk q => by
    obtain ⟨q0, q1, qP, qK, qD⟩ := q
    exact ⟨q0, q1, qP, va_K.moved (u := U) (U := U.calling g mk a) (Vm.Alike.refl U.vm) qK, qD⟩
  have hpre : ∀ U : State, U.heap = H → s.WarmedH U.vm → va_Pc (.ref b :: As) (fun U => U.heap.size = H.size ∧ va_P D vwCl wc U.heap ∧ va_K D vwCl (zT y) U ∧ va_D (fun _ => True) wc) (.ref b :: As).toArray U := fun U hU hW => ⟨rfl, by rw [hU], by rw [hU]; exact hPc, va_K.moved hW.alike hK, hDc.weaken (fun _ _ _ _ => trivial)⟩
  have hfit' : k + rm2.cells ≤ R.cells ∧ n + rm2.slots ≤ R.slots := hfit
  refine va_callr (va_runV (As := As) (rest := rest) ⟨hx, hb, hml, hown, hts⟩ (hM l H.size) (cwV na hts hg hw rfl rfl ⟨rfl, hd⟩ hR) ⟨hbl, hcn ▸ va_recv hK hPc hc hr, hpre⟩ rfl hn hl.1 rfl (lv_room hcat) hdg hfit) hS (fun q _ h => hFc q h) hFc (fun u ra t H1 locs ht hvm hp hB hz1 hk1 hS1 => ?_)
  obtain ⟨rfl, hP1, hK1, hD1⟩ := hB
  rw [ht] at hP1
  obtain ⟨hP2, hD2⟩ := z_join hP hD hk1 hFc hP1 hD1
  exact kk u.1 u.2 hp H1 locs ls hP2 hD2 hS1 hl
theorem z_callSi (G : zG D y X cc own rm nm Ts) {wc wr : va_W} {rest As : List Value} {idx na : Nat} {yn : MethodName} {bytes : ByteArray} {maxL : Nat} {ret : Option FieldType} {wm : List Cond} {rm2 : Room} {Post : Int32 → va_W → Prop}
    (hM : ∀ l, zMi l D y yn wm rm2 As wc Post) (hk : zCal yn wm bytes maxL ret na) (hg : GoodIn Ts (va_wsS own idx yn wm)) (hdg : decode cc pc = .ok (.invokestatic idx, 3)) (hR : rm2.frames + 1 ≤ rm.frames ∧ 8 + (maxL + 11) + rm2.locals ≤ rm.locals) (hfit : k + rm2.cells ≤ rm.cells ∧ n + rm2.slots ≤ rm.slots) (hn : As.length = na) (hcat : (rest.map fun v => v.category).sum ≤ 8) (st : List Value) (hst : st = (As.reverse ++ rest))
    (kk : ∀ (r : Int32) (w1 : va_W), Post r w1 → zV D X (w1 ++ wr) (k + rm2.cells) (n + rm2.slots) (pc + 3) lv (.int r :: rest)) : zV D X (wc ++ wr) k n pc lv st := by
  obtain ⟨p, l, e, R, s, m, args, below, meth, c, A, Q, nL⟩ := X
  obtain ⟨hx, hb, hml, hown, hts, hK, hA, rfl, rfl⟩ := G
  obtain ⟨⟨ws', hw⟩, hd⟩ := hk
  subst hst
  intro H locs ls hP hD hS hl
  have hPc : va_P D vwCl wc H := fun k q hq => hP k q (by rw [List.getElem?_append_left (List.getElem?_eq_some_iff.mp hq).1]; exact hq)
  have hDc : va_D A wc := ⟨fun i j p q hp hq e => hD.1 i j p q (by rw [List.getElem?_append_left (List.getElem?_eq_some_iff.mp hp).1]; exact hp) (by rw [List.getElem?_append_left (List.getElem?_eq_some_iff.mp hq).1]; exact hq) e, fun k q hq => hD.2 k q (by rw [List.getElem?_append_left (List.getElem?_eq_some_iff.mp hq).1]; exact hq)⟩
  have hFc : ∀ q, va_A wc H.size q → A q := by
    intro q h
    rcases h with ⟨k, e, h⟩ | h
    · exact hDc.2 k (q, e) h
    · exact hA q (Nat.le_trans hS.1 h)
  have hbl : FrameBlind (va_Pc As (fun U => U.heap.size = H.size ∧ va_P D vwCl wc U.heap ∧ va_K D vwCl (zT y) U ∧ va_D (fun _ => True) wc)) := fun a U g mk q => by
    obtain ⟨q0, q1, qP, qK, qD⟩ := q
    exact ⟨q0, q1, qP, va_K.moved (u := U) (U := U.calling g mk a) (Vm.Alike.refl U.vm) qK, qD⟩
  have hpre : ∀ U : State, U.heap = H → s.WarmedH U.vm → va_Pc As (fun U => U.heap.size = H.size ∧ va_P D vwCl wc U.heap ∧ va_K D vwCl (zT y) U ∧ va_D (fun _ => True) wc) As.toArray U := fun U hU hW => ⟨rfl, by rw [hU], by rw [hU]; exact hPc, va_K.moved hW.alike hK, hDc.weaken (fun _ _ _ _ => trivial)⟩
  have hfit' : k + rm2.cells ≤ R.cells ∧ n + rm2.slots ≤ R.slots := hfit
  refine va_calli (va_runS (As := As) (rest := rest) ⟨hx, hb, hml, hown, hts⟩ (hM l H.size) (va_cwS na hts hg hw rfl rfl hd hR) ⟨hbl, hpre⟩ rfl hn hl.1 rfl (lv_room hcat) hdg hfit) hS (fun q _ h => hFc q h) hFc (fun r u t H1 locs ht hvm hp hB hz1 hk1 hS1 => ?_)
  obtain ⟨hP1, hK1, hD1⟩ := hB
  rw [ht] at hP1
  obtain ⟨hP2, hD2⟩ := z_join hP hD hk1 hFc hP1 hD1
  exact kk r u hp H1 locs ls hP2 hD2 hS1 hl
theorem z_callSv (G : zG D y X cc own rm nm Ts) {wc wr : va_W} {rest As : List Value} {idx na : Nat} {yn : MethodName} {bytes : ByteArray} {maxL : Nat} {ret : Option FieldType} {wm : List Cond} {rm2 : Room} {Post : va_W → Prop}
    (hM : ∀ l, zMv l D y yn wm rm2 As wc Post) (hk : zCal yn wm bytes maxL ret na) (hg : GoodIn Ts (va_wsS own idx yn wm)) (hdg : decode cc pc = .ok (.invokestatic idx, 3)) (hR : rm2.frames + 1 ≤ rm.frames ∧ 8 + (maxL + 11) + rm2.locals ≤ rm.locals) (hfit : k + rm2.cells ≤ rm.cells ∧ n + rm2.slots ≤ rm.slots) (hn : As.length = na) (hcat : (rest.map fun v => v.category).sum ≤ 8) (st : List Value) (hst : st = (As.reverse ++ rest))
    (kk : ∀ (w1 : va_W), Post w1 → zV D X (w1 ++ wr) (k + rm2.cells) (n + rm2.slots) (pc + 3) lv rest) : zV D X (wc ++ wr) k n pc lv st := by
  obtain ⟨p, l, e, R, s, m, args, below, meth, c, A, Q, nL⟩ := X
  obtain ⟨hx, hb, hml, hown, hts, hK, hA, rfl, rfl⟩ := G
  obtain ⟨⟨ws', hw⟩, hd⟩ := hk
  subst hst
  intro H locs ls hP hD hS hl
  have hPc : va_P D vwCl wc H := fun k q hq => hP k q (by rw [List.getElem?_append_left (List.getElem?_eq_some_iff.mp hq).1]; exact hq)
  have hDc : va_D A wc := ⟨fun i j p q hp hq e => hD.1 i j p q (by rw [List.getElem?_append_left (List.getElem?_eq_some_iff.mp hp).1]; exact hp) (by rw [List.getElem?_append_left (List.getElem?_eq_some_iff.mp hq).1]; exact hq) e, fun k q hq => hD.2 k q (by rw [List.getElem?_append_left (List.getElem?_eq_some_iff.mp hq).1]; exact hq)⟩
  have hFc : ∀ q, va_A wc H.size q → A q := by
    intro q h
    rcases h with ⟨k, e, h⟩ | h
    · exact hDc.2 k (q, e) h
    · exact hA q (Nat.le_trans hS.1 h)
  have hbl : FrameBlind (va_Pc As (fun U => U.heap.size = H.size ∧ va_P D vwCl wc U.heap ∧ va_K D vwCl (zT y) U ∧ va_D (fun _ => True) wc)) := fun a U g mk q => by
    obtain ⟨q0, q1, qP, qK, qD⟩ := q
    exact ⟨q0, q1, qP, va_K.moved (u := U) (U := U.calling g mk a) (Vm.Alike.refl U.vm) qK, qD⟩
  have hpre : ∀ U : State, U.heap = H → s.WarmedH U.vm → va_Pc As (fun U => U.heap.size = H.size ∧ va_P D vwCl wc U.heap ∧ va_K D vwCl (zT y) U ∧ va_D (fun _ => True) wc) As.toArray U := fun U hU hW => ⟨rfl, by rw [hU], by rw [hU]; exact hPc, va_K.moved hW.alike hK, hDc.weaken (fun _ _ _ _ => trivial)⟩
  have hfit' : k + rm2.cells ≤ R.cells ∧ n + rm2.slots ≤ R.slots := hfit
  refine va_callv (va_runS (As := As) (rest := rest) ⟨hx, hb, hml, hown, hts⟩ (hM l H.size) (va_cwS na hts hg hw rfl rfl hd hR) ⟨hbl, hpre⟩ rfl hn hl.1 rfl (lv_room hcat) hdg hfit) hS (fun q _ h => hFc q h) hFc (fun u t H1 locs ht hvm hp hB hz1 hk1 hS1 => ?_)
  obtain ⟨hP1, hK1, hD1⟩ := hB
  rw [ht] at hP1
  obtain ⟨hP2, hD2⟩ := z_join hP hD hk1 hFc hP1 hD1
  exact kk u hp H1 locs ls hP2 hD2 hS1 hl
theorem z_callSr (G : zG D y X cc own rm nm Ts) {wc wr : va_W} {rest As : List Value} {idx na : Nat} {yn : MethodName} {bytes : ByteArray} {maxL : Nat} {ret : Option FieldType} {wm : List Cond} {rm2 : Room} {Post : Nat → va_W → Prop}
    (hM : ∀ l, zMr l D y yn wm rm2 As wc Post) (hk : zCal yn wm bytes maxL ret na) (hg : GoodIn Ts (va_wsS own idx yn wm)) (hdg : decode cc pc = .ok (.invokestatic idx, 3)) (hR : rm2.frames + 1 ≤ rm.frames ∧ 8 + (maxL + 11) + rm2.locals ≤ rm.locals) (hfit : k + rm2.cells ≤ rm.cells ∧ n + rm2.slots ≤ rm.slots) (hn : As.length = na) (hcat : (rest.map fun v => v.category).sum ≤ 8) (st : List Value) (hst : st = (As.reverse ++ rest))
    (kk : ∀ (r : Nat) (w1 : va_W), Post r w1 → zV D X (w1 ++ wr) (k + rm2.cells) (n + rm2.slots) (pc + 3) lv (.ref r :: rest)) : zV D X (wc ++ wr) k n pc lv st := by
  obtain ⟨p, l, e, R, s, m, args, below, meth, c, A, Q, nL⟩ := X
  obtain ⟨hx, hb, hml, hown, hts, hK, hA, rfl, rfl⟩ := G
  obtain ⟨⟨ws', hw⟩, hd⟩ := hk
  subst hst
  intro H locs ls hP hD hS hl
  have hPc : va_P D vwCl wc H := fun k q hq => hP k q (by rw [List.getElem?_append_left (List.getElem?_eq_some_iff.mp hq).1]; exact hq)
  have hDc : va_D A wc := ⟨fun i j p q hp hq e => hD.1 i j p q (by rw [List.getElem?_append_left (List.getElem?_eq_some_iff.mp hp).1]; exact hp) (by rw [List.getElem?_append_left (List.getElem?_eq_some_iff.mp hq).1]; exact hq) e, fun k q hq => hD.2 k q (by rw [List.getElem?_append_left (List.getElem?_eq_some_iff.mp hq).1]; exact hq)⟩
  have hFc : ∀ q, va_A wc H.size q → A q := by
    intro q h
    rcases h with ⟨k, e, h⟩ | h
    · exact hDc.2 k (q, e) h
    · exact hA q (Nat.le_trans hS.1 h)
  have hbl : FrameBlind (va_Pc As (fun U => U.heap.size = H.size ∧ va_P D vwCl wc U.heap ∧ va_K D vwCl (zT y) U ∧ va_D (fun _ => True) wc)) := fun a U g mk q => by
    obtain ⟨q0, q1, qP, qK, qD⟩ := q
    exact ⟨q0, q1, qP, va_K.moved (u := U) (U := U.calling g mk a) (Vm.Alike.refl U.vm) qK, qD⟩
  have hpre : ∀ U : State, U.heap = H → s.WarmedH U.vm → va_Pc As (fun U => U.heap.size = H.size ∧ va_P D vwCl wc U.heap ∧ va_K D vwCl (zT y) U ∧ va_D (fun _ => True) wc) As.toArray U := fun U hU hW => ⟨rfl, by rw [hU], by rw [hU]; exact hPc, va_K.moved hW.alike hK, hDc.weaken (fun _ _ _ _ => trivial)⟩
  have hfit' : k + rm2.cells ≤ R.cells ∧ n + rm2.slots ≤ R.slots := hfit
  refine va_callr (va_runS (As := As) (rest := rest) ⟨hx, hb, hml, hown, hts⟩ (hM l H.size) (va_cwS na hts hg hw rfl rfl hd hR) ⟨hbl, hpre⟩ rfl hn hl.1 rfl (lv_room hcat) hdg hfit) hS (fun q _ h => hFc q h) hFc (fun u ra t H1 locs ht hvm hp hB hz1 hk1 hS1 => ?_)
  obtain ⟨rfl, hP1, hK1, hD1⟩ := hB
  rw [ht] at hP1
  obtain ⟨hP2, hD2⟩ := z_join hP hD hk1 hFc hP1 hD1
  exact kk u.1 u.2 hp H1 locs ls hP2 hD2 hS1 hl
theorem z_callIv (G : zG D y X cc own rm nm Ts) {wc wr : va_W} {rest As : List Value} {b : Addr} {idx na : Nat} {yn : MethodName} {bytes : ByteArray} {maxL : Nat} {wm : List Cond} {rm2 : Room} {Post : va_W → Prop}
    (hM : ∀ l, zMv l D y yn wm rm2 (.ref b :: As) wc Post) (hk : zCal yn wm bytes maxL none na) (hg : GoodIn Ts wm) (hini : Cond.initialized yn.cls ∈ Ts) (hlk : Cond.methodLink own idx yn ∈ Ts) (him : Cond.instanceMethod yn ∈ Ts) (hnm : yn.name = "<init>") (hdg : decode cc pc = .ok (.invokespecial idx, 3)) (hR : rm2.frames + 1 ≤ rm.frames ∧ 8 + (maxL + 11) + rm2.locals ≤ rm.locals) (hfit : k + rm2.cells ≤ rm.cells ∧ n + rm2.slots ≤ rm.slots) (hn : As.length = na) (hcat : (rest.map fun v => v.category).sum ≤ 8) (st : List Value) (hst : st = (As.reverse ++ .ref b :: rest))
    (kk : ∀ (w1 : va_W), Post w1 → zV D X (w1 ++ wr) (k + rm2.cells) (n + rm2.slots) (pc + 3) lv rest) : zV D X (wc ++ wr) k n pc lv st := by
  obtain ⟨p, l, e, R, s, m, args, below, meth, c, A, Q, nL⟩ := X
  obtain ⟨hx, hb, hml, hown, hts, hK, hA, rfl, rfl⟩ := G
  obtain ⟨⟨ws', hw⟩, hd⟩ := hk
  subst hst
  intro H locs ls hP hD hS hl
  have hPc : va_P D vwCl wc H := fun k q hq => hP k q (by rw [List.getElem?_append_left (List.getElem?_eq_some_iff.mp hq).1]; exact hq)
  have hDc : va_D A wc := ⟨fun i j p q hp hq e => hD.1 i j p q (by rw [List.getElem?_append_left (List.getElem?_eq_some_iff.mp hp).1]; exact hp) (by rw [List.getElem?_append_left (List.getElem?_eq_some_iff.mp hq).1]; exact hq) e, fun k q hq => hD.2 k q (by rw [List.getElem?_append_left (List.getElem?_eq_some_iff.mp hq).1]; exact hq)⟩
  have hFc : ∀ q, va_A wc H.size q → A q := by
    intro q h
    rcases h with ⟨k, e, h⟩ | h
    · exact hDc.2 k (q, e) h
    · exact hA q (Nat.le_trans hS.1 h)
  have hbl : FrameBlind (va_Pc (.ref b :: As) (fun U => U.heap.size = H.size ∧ va_P D vwCl wc U.heap ∧ va_K D vwCl (zT y) U ∧ va_D (fun _ => True) wc)) := fun a U g mk q => by
    obtain ⟨q0, q1, qP, qK, qD⟩ := q
    exact ⟨q0, q1, qP, va_K.moved (u := U) (U := U.calling g mk a) (Vm.Alike.refl U.vm) qK, qD⟩
  have hpre : ∀ U : State, U.heap = H → s.WarmedH U.vm → va_Pc (.ref b :: As) (fun U => U.heap.size = H.size ∧ va_P D vwCl wc U.heap ∧ va_K D vwCl (zT y) U ∧ va_D (fun _ => True) wc) (.ref b :: As).toArray U := fun U hU hW => ⟨rfl, by rw [hU], by rw [hU]; exact hPc, va_K.moved hW.alike hK, hDc.weaken (fun _ _ _ _ => trivial)⟩
  have hfit' : k + rm2.cells ≤ R.cells ∧ n + rm2.slots ≤ R.slots := hfit
  refine va_callv (va_runI (As := As) (rest := rest) ⟨hx, hb, hml, hown, hts⟩ (hM l H.size) (cwI na hts hg hw rfl rfl (hts _ hini) (hts _ hlk) (hts _ him) hnm hd hR) ⟨hbl, hpre⟩ rfl hn hl.1 rfl (lv_room hcat) hdg hfit) hS (fun q _ h => hFc q h) hFc (fun u t H1 locs ht hvm hp hB hz1 hk1 hS1 => ?_)
  obtain ⟨hP1, hK1, hD1⟩ := hB
  rw [ht] at hP1
  obtain ⟨hP2, hD2⟩ := z_join hP hD hk1 hFc hP1 hD1
  exact kk u hp H1 locs ls hP2 hD2 hS1 hl
end ZV
