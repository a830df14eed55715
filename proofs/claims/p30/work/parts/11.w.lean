/-! the worlds: a room's cells read off one row of numbers f, as the reference keeps it: 0..12 settings and counts, 13+17g.. guest g: flag, seat, patience, silence, cups, sighs, words, bows made, owed (9) -/
def cut (N : Nat) (f : Nat → Int32) : Nat → Int32 := fun j => if j < N then f j else 0
theorem cut_at {N : Nat} {f : Nat → Int32} {j : Nat} (h : j < N) : cut N f j = f j := if_pos h
theorem cut_eq {N : Nat} {f g : Nat → Int32} (h : ∀ j, j < N → f j = g j) : cut N f = cut N g := by
  funext j
  by_cases hj : j < N
  · rw [cut_at hj, cut_at hj, h j hj]
  · simp [cut, hj]
theorem cut_upd {N : Nat} {f : Nat → Int32} {k : Nat} {x : Int32} (h : k < N) : upd (cut N f) k x = cut N (upd f k x) := by
  funext j
  by_cases hj : j < N
  · by_cases e : j = k
    · simp [upd, cut, e, h]
    · simp [upd, cut, e]
  · have : j ≠ k := by omega
    simp [upd, cut, hj, this]
theorem upd_ne {f : Nat → Int32} {k j : Nat} {x : Int32} (h : j ≠ k) : upd f k x j = f j := if_neg h
theorem upd_at {f : Nat → Int32} {k : Nat} {x : Int32} : upd f k x k = x := if_pos rfl
theorem upd_is {f : Nat → Int32} {k j : Nat} {x : Int32} (h : j = k) : upd f k x j = x := if_pos h
theorem nI_inc (j : Nat) : nI j + Int32.ofInt 1 = nI (j + 1) := nI_1 j
section WB
variable (y : Nat → ClassId) (a : Nat → Nat) (f : Nat → Int32) (rk : Nat → Int32)
def bwR (ow ma : Nat → Int32) (i10 i7 i8 i9 : Int32) : va_W := [(a 9, .inr (0, [.ref (a 10), .ref (a 11), .int i10, .int i7, .int i8, .int i9])), (a 10, .inl (y 0, 81, .inl ow)), (a 11, .inl (y 0, 9, .inl ma))]
def rmR (se pa si cu sg wo sea rk : Nat → Int32) (i4 i5 i6 i11 i12 : Int32) : va_W := [(a 0, .inr (3, [.ref (a 1), .ref (a 2), .ref (a 3), .ref (a 4), .ref (a 5), .ref (a 6), .ref (a 7), .ref (a 9), .int i4, .int i5, .int i6, .int i11, .int i12, .ref (a 8)])), (a 1, .inl (y 0, 4, .inl se)), (a 2, .inl (y 0, 9, .inl pa)), (a 3, .inl (y 0, 9, .inl si)), (a 4, .inl (y 0, 9, .inl cu)), (a 5, .inl (y 0, 9, .inl sg)), (a 6, .inl (y 0, 9, .inl wo)), (a 7, .inl (y 0, 9, .inl sea)), (a 8, .inl (y 0, 9, .inl rk))]
def o_at (c : Nat) : Nat := 21 + 17 * (c / 9) + c % 9
def bwW : va_W := bwR y a (cut 81 (fun c => f (o_at c))) (cut 9 (fun g => f (20 + 17 * g))) (f 10) (f 7) (f 8) (f 9)
def rmH : va_W := rmR y a (cut 4 f) (cut 9 (fun g => f (15 + 17 * g))) (cut 9 (fun g => f (16 + 17 * g))) (cut 9 (fun g => f (17 + 17 * g))) (cut 9 (fun g => f (18 + 17 * g))) (cut 9 (fun g => f (19 + 17 * g))) (cut 9 (fun g => f (14 + 17 * g))) (cut 9 rk) (f 4) (f 5) (f 6) (f 11) (f 12)
def rmW : va_W := rmH y a f rk ++ bwW y a f
end WB
theorem o_at_in {g o : Nat} (ho : o < 9) : o_at (9 * g + o) = 21 + 17 * g + o := by
  unfold o_at
  omega
/-- the row of a room's numbers without the flags -/
def nfl (i : Nat) : Prop := i < 13 ∨ (i - 13) % 17 ≠ 0
theorem bwW_eq {y : Nat → ClassId} {a : Nat → Nat} {f f' : Nat → Int32} (h : ∀ i, i < 166 → nfl i → f i = f' i) : bwW y a f = bwW y a f' := by
  have e1 : cut 81 (fun c => f (o_at c)) = cut 81 (fun c => f' (o_at c)) := cut_eq fun j hj => h _ (by unfold o_at; omega) (by unfold o_at nfl; omega)
  have e2 : cut 9 (fun g => f (20 + 17 * g)) = cut 9 (fun g => f' (20 + 17 * g)) := cut_eq fun j hj => h _ (by omega) (by unfold nfl; omega)
  unfold bwW
  rw [e1, e2, h 10 (by omega) (by unfold nfl; omega), h 7 (by omega) (by unfold nfl; omega), h 8 (by omega) (by unfold nfl; omega), h 9 (by omega) (by unfold nfl; omega)]
theorem rmH_eq {y : Nat → ClassId} {a : Nat → Nat} {f f' rk rk' : Nat → Int32} (h : ∀ i, i < 166 → nfl i → (i < 7 ∨ i = 11 ∨ i = 12 ∨ (13 ≤ i ∧ (i - 13) % 17 < 7)) → f i = f' i) (hr : ∀ i, i < 9 → rk i = rk' i) : rmH y a f rk = rmH y a f' rk' := by
  have e0 : cut 4 f = cut 4 f' := cut_eq fun j hj => h j (by omega) (by unfold nfl; omega) (by omega)
  have e1 : cut 9 (fun g => f (15 + 17 * g)) = cut 9 (fun g => f' (15 + 17 * g)) := cut_eq fun j hj => h _ (by omega) (by unfold nfl; omega) (by omega)
  have e2 : cut 9 (fun g => f (16 + 17 * g)) = cut 9 (fun g => f' (16 + 17 * g)) := cut_eq fun j hj => h _ (by omega) (by unfold nfl; omega) (by omega)
  have e3 : cut 9 (fun g => f (17 + 17 * g)) = cut 9 (fun g => f' (17 + 17 * g)) := cut_eq fun j hj => h _ (by omega) (by unfold nfl; omega) (by omega)
  have e4 : cut 9 (fun g => f (18 + 17 * g)) = cut 9 (fun g => f' (18 + 17 * g)) := cut_eq fun j hj => h _ (by omega) (by unfold nfl; omega) (by omega)
  have e5 : cut 9 (fun g => f (19 + 17 * g)) = cut 9 (fun g => f' (19 + 17 * g)) := cut_eq fun j hj => h _ (by omega) (by unfold nfl; omega) (by omega)
  have e6 : cut 9 (fun g => f (14 + 17 * g)) = cut 9 (fun g => f' (14 + 17 * g)) := cut_eq fun j hj => h _ (by omega) (by unfold nfl; omega) (by omega)
  have e7 : cut 9 rk = cut 9 rk' := cut_eq hr
  unfold rmH
  rw [e0, e1, e2, e3, e4, e5, e6, e7, h 4 (by omega) (by unfold nfl; omega) (by omega), h 5 (by omega) (by unfold nfl; omega) (by omega), h 6 (by omega) (by unfold nfl; omega) (by omega), h 11 (by omega) (by unfold nfl; omega) (by omega), h 12 (by omega) (by unfold nfl; omega) (by omega)]
theorem rmW_eq {y : Nat → ClassId} {a : Nat → Nat} {f f' rk rk' : Nat → Int32} (h : ∀ i, i < 166 → nfl i → f i = f' i) (hr : ∀ i, i < 9 → rk i = rk' i) : rmW y a f rk = rmW y a f' rk' := by
  unfold rmW
  rw [bwW_eq h, rmH_eq (fun i h1 h2 _ => h i h1 h2) hr]
theorem rm_perm (y : Nat → ClassId) (a : Nat → Nat) (f rk : Nat → Int32) : (rmW y a f rk).Perm (bwW y a f ++ rmH y a f rk) := List.perm_append_comm
theorem bw_perm {y : Nat → ClassId} {a : Nat → Nat} {f f' rk : Nat → Int32} (h : rmH y a f rk = rmH y a f' rk) : (bwW y a f' ++ rmH y a f rk).Perm (rmW y a f' rk) := by
  rw [h]
  exact List.perm_append_comm

section ZR
variable {D : va_G} {y : Nat → ClassId} {X : zX} {cc : ByteArray} {own : String} {rm : Room} {nm : Nat} {Ts : List Cond} {ws : va_W} {k n pc : Nat} {lv : List (Nat × Value)} {st : List Value} {a b : Nat → Nat} {f rk : Nat → Int32}
theorem z_get (G : zG D y X cc own rm nm Ts) {C : String} {T : u_T} {N ci index ad : Nat} (hin : ∀ w ∈ u_ws C T N, w ∈ Ts) (q0 : Nat) {fs : List Value} (he : ws[q0]? = some (ad, .inr (ci, fs))) (hc : vwCl[ci]? = some (C, T, N)) (fk : Nat) (hk : fk < N) (hlink : Cond.fieldLink own index (T fk).1 (T fk).2.1 (T fk).2.2.1 ∈ Ts) {v : Value} (hv : fs[fk]? = some v) (hdg : decode cc pc = .ok (.getfield index, 3)) (kk : zV D X ws k n (pc + 3) lv (v :: st)) : zV D X ws k n pc lv (.ref ad :: st) := by
  obtain ⟨p, l, e, R, s, m, args, below, meth, c, A, Q, nL⟩ := X
  obtain ⟨hx, hb, hml, hown, hts, hK, hA, rfl, rfl⟩ := G
  intro H locs ls hP hD hS hl
  exact va_get hx hb hts hin hown hK hP q0 he hc fk hk (hts _ hlink) (fun _ h => h) hv hdg (kk H locs ls hP hD hS hl)
theorem z_put (G : zG D y X cc own rm nm Ts) {C : String} {T : u_T} {N ci index ad : Nat} (hin : ∀ w ∈ u_ws C T N, w ∈ Ts) (ty0 : Nat → FieldType) (hty : ∀ k, k < N → parseFieldDescriptor (T k).2.2.1 = some (ty0 k)) (hnm : ∀ a, a < N → ∀ b, b < N → a ≠ b → (T a).2.1 ≠ (T b).2.1) (q0 : Nat) {fs : List Value} (he : ws[q0]? = some (ad, .inr (ci, fs))) (hc : vwCl[ci]? = some (C, T, N)) (fk : Nat) (hk : fk < N) (hlink : Cond.fieldLink own index (T fk).1 (T fk).2.1 (T fk).2.2.1 ∈ Ts) (hfin : (T fk).2.2.2 = false) {ty : FieldType} {v : Value} (hd : parseFieldDescriptor (T fk).2.2.1 = some ty) (hn : narrow ty v = v) (hfit : fits ty v = true) (hl0 : fk < fs.length) (hdg : decode cc pc = .ok (.putfield index, 3)) (ws' : va_W) (hw : ws.set q0 (ad, .inr (ci, fs.set fk v)) = ws') (kk : zV D X ws' k n (pc + 3) lv st) : zV D X ws k n pc lv (v :: .ref ad :: st) := by
  obtain ⟨p, l, e, R, s, m, args, below, meth, c, A, Q, nL⟩ := X
  obtain ⟨hx, hb, hml, hown, hts, hK, hA, rfl, rfl⟩ := G
  subst hw
  intro H locs ls hP hD hS hl
  exact va_put hx hb hts hin ty0 hty hnm hown hK hP hD hS q0 he hc fk hk (hts _ hlink) (fun _ h => h) hfin hd hn hfit hl0 hdg (fun H1 locs1 hP1 hD1 hS1 => kk H1 locs1 ls hP1 hD1 hS1 hl)
theorem z_iald (G : zG D y X cc own rm nm Ts) (q0 : Nat) {ad N j : Nat} {F : Nat → Int32} (ha : ws[q0]? = some (ad, .inl (y 0, N, .inl F))) (hj : j < N) (hN : N < 2 ^ 31) (hdg : decode cc pc = .ok (.iaload, 1)) {v : Int32} (hv : F j = v) (kk : zV D X ws k n (pc + 1) lv (.int v :: st)) : zV D X ws k n pc lv (.int (nI j) :: .ref ad :: st) := by
  obtain ⟨p, l, e, R, s, m, args, below, meth, c, A, Q, nL⟩ := X
  obtain ⟨hx, hb, hml, hown, hts, hK, hA, rfl, rfl⟩ := G
  subst hv
  intro H locs ls hP hD hS hl
  refine va_iald hx hb hK hP q0 0 ha rfl (vp_in_nI hj hN) hdg ?_
  rw [nI_clamp (by omega)]
  exact kk H locs ls hP hD hS hl
theorem z_cald (G : zG D y X cc own rm nm Ts) (q0 : Nat) {ad N j : Nat} {F : Nat → Int32} (ha : ws[q0]? = some (ad, .inl (y 1, N, .inl F))) (hj : j < N) (hN : N < 2 ^ 31) (hdg : decode cc pc = .ok (.caload, 1)) {v : Int32} (hv : F j = v) (kk : zV D X ws k n (pc + 1) lv (.int v :: st)) : zV D X ws k n pc lv (.int (nI j) :: .ref ad :: st) := by
  obtain ⟨p, l, e, R, s, m, args, below, meth, c, A, Q, nL⟩ := X
  obtain ⟨hx, hb, hml, hown, hts, hK, hA, rfl, rfl⟩ := G
  subst hv
  intro H locs ls hP hD hS hl
  refine va_cald hx hb hK hP q0 1 ha rfl (vp_in_nI hj hN) hdg ?_
  rw [nI_clamp (by omega)]
  exact kk H locs ls hP hD hS hl
theorem z_iast (G : zG D y X cc own rm nm Ts) (q0 : Nat) {ad N j : Nat} {F : Nat → Int32} (ha : ws[q0]? = some (ad, .inl (y 0, N, .inl F))) (hj : j < N) (hN : N < 2 ^ 31) (hdg : decode cc pc = .ok (.iastore, 1)) {x : Int32} (ws' : va_W) (hw : ws.set q0 (ad, .inl (y 0, N, .inl (upd F j x))) = ws') (kk : zV D X ws' k n (pc + 1) lv st) : zV D X ws k n pc lv (.int x :: .int (nI j) :: .ref ad :: st) := by
  obtain ⟨p, l, e, R, s, m, args, below, meth, c, A, Q, nL⟩ := X
  obtain ⟨hx, hb, hml, hown, hts, hK, hA, rfl, rfl⟩ := G
  subst hw
  intro H locs ls hP hD hS hl
  refine va_iast hx hb hK hP hD hS q0 0 ha rfl (vp_in_nI hj hN) hdg (fun H1 locs1 hP1 hD1 hS1 => ?_)
  rw [nI_clamp (by omega)] at hP1 hD1
  exact kk H1 locs1 ls hP1 hD1 hS1 hl
theorem z_cast (G : zG D y X cc own rm nm Ts) (q0 : Nat) {ad N j : Nat} {F : Nat → Int32} (ha : ws[q0]? = some (ad, .inl (y 1, N, .inl F))) (hj : j < N) (hN : N < 2 ^ 31) (hdg : decode cc pc = .ok (.castore, 1)) {x : Int32} (v : Int32) (hx : vp_nar .char x = v) (ws' : va_W) (hw : ws.set q0 (ad, .inl (y 1, N, .inl (upd F j v))) = ws') (kk : zV D X ws' k n (pc + 1) lv st) : zV D X ws k n pc lv (.int x :: .int (nI j) :: .ref ad :: st) := by
  obtain ⟨p, l, e, R, s, m, args, below, meth, c, A, Q, nL⟩ := X
  obtain ⟨hx0, hb, hml, hown, hts, hK, hA, rfl, rfl⟩ := G
  subst hw
  subst hx
  intro H locs ls hP hD hS hl
  refine va_cast hx0 hb hK hP hD hS q0 1 ha rfl (vp_in_nI hj hN) hdg (fun H1 locs1 hP1 hD1 hS1 => ?_)
  rw [nI_clamp (by omega)] at hP1 hD1
  exact kk H1 locs1 ls hP1 hD1 hS1 hl
theorem z_alen (G : zG D y X cc own rm nm Ts) (q0 t0 : Nat) {ad : Nat} {cA : ClassId} {x : vp_A} (ha : ws[q0]? = some (ad, .inl (cA, x))) {ty : FieldType} (ht : (zT y)[t0]? = some (cA, ty)) {v : Int32} (hv : Int32.ofNat x.1 = v) (hdg : decode cc pc = .ok (.arraylength, 1)) (kk : zV D X ws k n (pc + 1) lv (.int v :: st)) : zV D X ws k n pc lv (.ref ad :: st) := by
  obtain ⟨p, l, e, R, s, m, args, below, meth, c, A, Q, nL⟩ := X
  obtain ⟨hx, hb, hml, hown, hts, hK, hA, rfl, rfl⟩ := G
  intro H locs ls hP hD hS hl
  exact va_alen hx hb hK hP q0 t0 ha ht hv hdg (kk H locs ls hP hD hS hl)
theorem z_dup2 (G : zG D y X cc own rm nm Ts) {v w : Value} (hdg : decode cc pc = .ok (.dup2, 1)) (h1 : v.category = 1) (h2 : w.category = 1) (kk : zV D X ws k n (pc + 1) lv (v :: w :: v :: w :: st)) : zV D X ws k n pc lv (v :: w :: st) := by
  obtain ⟨p, l, e, R, s, m, args, below, meth, c, A, Q, nL⟩ := X
  obtain ⟨hx, hb, hml, hown, hts, hK, hA, rfl, rfl⟩ := G
  intro H locs ls hP hD hS hl
  exact lv_dup2_11 hx hb hdg h1 h2 (kk H locs ls hP hD hS hl)
/-- System.arraycopy of n ints from 0 to 0 -/
theorem z_copy (G : zG D y X cc own rm nm Ts) {idx : Nat} (hlink : Cond.methodLink own idx arraycopyName ∈ Ts) (hnat : Cond.native arraycopyName ∈ Ts) (hstat : Cond.static arraycopyName ∈ Ts) (hini : Cond.initialized "java/lang/System" ∈ Ts) (q0 q1 : Nat) {a0 a1 N : Nat} {F F1 : Nat → Int32} (ha0 : ws[q0]? = some (a0, .inl (y 0, N, .inl F))) (ha1 : ws[q1]? = some (a1, .inl (y 0, N, .inl F1))) (hN : N < 2 ^ 31) (hfr : 1 ≤ rm.frames) (hlo : (st.map fun v => v.category).sum + (nativeFrameWords "java/lang/System" "arraycopy" 5 + 11) ≤ rm.locals) (hdg : decode cc pc = .ok (.invokestatic idx, 3)) (ws' : va_W) (hw : ws.set q1 (a1, .inl (y 0, N, .inl (va_cpy F F1 0 0 N))) = ws') (kk : zV D X ws' k n (pc + 3) lv st) : zV D X ws k n pc lv (.int (nI N) :: .int 0 :: .ref a1 :: .int 0 :: .ref a0 :: st) := by
  obtain ⟨p, l, e, R, s, m, args, below, meth, c, A, Q, nL⟩ := X
  obtain ⟨hx, hb, hml, hown, hts, hK, hA, rfl, rfl⟩ := G
  subst hw
  intro H locs ls hP hD hS hl
  have z0 : (0 : Int32).toNatClampNeg = 0 := rfl
  refine va_copyi hx hb (hml.trans hl.1.symm) hown (hts _ hlink) (hts _ hnat) (hts _ hstat) (hts _ hini) hK hP hD hS q0 q1 0 0 ha0 ha1 rfl rfl rfl (by decide) (by decide) (nI_pos hN) (by rw [z0, nI_clamp hN]; omega) (by rw [z0, nI_clamp hN]; omega) (fun i _ => rfl) hfr hlo hdg (fun H1 locs1 hP1 hD1 hS1 => ?_)
  rw [z0, nI_clamp hN] at hP1 hD1
  exact kk H1 locs1 ls hP1 hD1 hS1 hl
/-- Math.min -/
theorem z_min (G : zG D y X cc own rm nm Ts) {idx : Nat} (hlink : Cond.methodLink own idx Lib.Math.min.name ∈ Ts) (hstat : Cond.static Lib.Math.min.name ∈ Ts) (hini : Cond.initialized "java/lang/Math" ∈ Ts) (hcode : Cond.code Lib.Math.min.name Lib.Math.min.code 2 (some .int) ∈ Ts) (hfr : 1 ≤ rm.frames) (hlo : (st.map fun v => v.category).sum + 13 ≤ rm.locals) (hc : k ≤ rm.cells) (hs : n ≤ rm.slots) {u v : Int32} (hdg : decode cc pc = .ok (.invokestatic idx, 3)) (kk : zV D X ws k n (pc + 3) lv (.int (if v < u then v else u) :: st)) : zV D X ws k n pc lv (.int v :: .int u :: st) := by
  obtain ⟨p, l, e, R, s, m, args, below, meth, c, A, Q, nL⟩ := X
  obtain ⟨hx, hb, hml, hown, hts, hK, hA, rfl, rfl⟩ := G
  intro H locs ls hP hD hS hl
  exact va_mmin hx hb (hml.trans hl.1.symm) hown (hts _ hlink) (hts _ hstat) (hts _ hini) (hts _ hcode) hfr hlo hc hs hdg (kk H locs ls hP hD hS hl)

def zDi (l : Launch) (D : va_G) (y : Nat → ClassId) (yn : MethodName) (wm : List Cond) (rm : Room) (av : List Value) (w0 : va_W) (r : Int32) (w1 : va_W) : Prop := zMi l D y yn wm rm av w0 (fun r' w' => r' = r ∧ w' = w1)
def zDv (l : Launch) (D : va_G) (y : Nat → ClassId) (yn : MethodName) (wm : List Cond) (rm : Room) (av : List Value) (w0 : va_W) (w1 : va_W) : Prop := zMv l D y yn wm rm av w0 (fun w' => w' = w1)
theorem z_nil {w : va_W} (kk : zV D X w k n pc lv st) : zV D X (w ++ []) k n pc lv st := by rw [List.append_nil]; exact kk

/-- a call over the whole world -/
theorem z_dVi (G : zG D y X cc own rm nm Ts) {rest As : List Value} {b : Addr} {idx na : Nat} {yn : MethodName} {bytes : ByteArray} {maxL : Nat} {ret : Option FieldType} {wm : List Cond} {rm2 : Room} (r : Int32) (w1 : va_W)
    (hM : ∀ l, zDi l D y yn wm rm2 (.ref b :: As) ws r w1) (hk : zCal yn wm bytes maxL ret na) (hg : GoodIn Ts (wsV own idx yn.cls yn wm)) (q0 ci : Nat) {fs : List Value} {qc : vw_C} (hr : ws[q0]? = some (b, .inr (ci, fs))) (hc : vwCl[ci]? = some qc) (hcn : qc.1 = yn.cls) (hdg : decode cc pc = .ok (.invokevirtual idx, 3)) (hR : rm2.frames + 1 ≤ rm.frames ∧ 8 + (maxL + 11) + rm2.locals ≤ rm.locals) (hz : rm2.cells = 0 ∧ rm2.slots = 0) (hfit : k ≤ rm.cells ∧ n ≤ rm.slots) (hn : As.length = na) (hcat : (rest.map fun v => v.category).sum ≤ 8) (hst : st = (As.reverse ++ .ref b :: rest))
    (kk : zV D X w1 k n (pc + 3) lv (.int r :: rest)) : zV D X ws k n pc lv st := by
  obtain ⟨h1, h2⟩ := hz
  have e := z_callVi G (wc := ws) (wr := []) hM hk hg q0 ci hr hc hcn hdg hR (by rw [h1, h2]; exact hfit) hn hcat st hst (fun r1 w2 h => by obtain ⟨rfl, rfl⟩ := h; exact by rw [h1, h2]; exact z_nil kk)
  rwa [List.append_nil] at e
/-- a call over a part of the world -/
theorem z_pVi (G : zG D y X cc own rm nm Ts) {rest As : List Value} {b : Addr} {idx na : Nat} {yn : MethodName} {bytes : ByteArray} {maxL : Nat} {ret : Option FieldType} {wm : List Cond} {rm2 : Room} {wc wr : va_W} (r : Int32) (w1 : va_W) (ws' : va_W)
    (hM : ∀ l, zDi l D y yn wm rm2 (.ref b :: As) wc r w1) (hk : zCal yn wm bytes maxL ret na) (hg : GoodIn Ts (wsV own idx yn.cls yn wm)) (q0 ci : Nat) {fs : List Value} {qc : vw_C} (hr : wc[q0]? = some (b, .inr (ci, fs))) (hc : vwCl[ci]? = some qc) (hcn : qc.1 = yn.cls) (hdg : decode cc pc = .ok (.invokevirtual idx, 3)) (hR : rm2.frames + 1 ≤ rm.frames ∧ 8 + (maxL + 11) + rm2.locals ≤ rm.locals) (hz : rm2.cells = 0 ∧ rm2.slots = 0) (hfit : k ≤ rm.cells ∧ n ≤ rm.slots) (hn : As.length = na) (hcat : (rest.map fun v => v.category).sum ≤ 8) (hst : st = (As.reverse ++ .ref b :: rest)) (hp : ws.Perm (wc ++ wr)) (hp2 : (w1 ++ wr).Perm ws')
    (kk : zV D X ws' k n (pc + 3) lv (.int r :: rest)) : zV D X ws k n pc lv st := by
  obtain ⟨h1, h2⟩ := hz
  refine z_perm hp ?_
  exact z_callVi G (wc := wc) (wr := wr) hM hk hg q0 ci hr hc hcn hdg hR (by rw [h1, h2]; exact hfit) hn hcat st hst (fun r1 w2 h => by obtain ⟨rfl, rfl⟩ := h; exact by rw [h1, h2]; exact z_perm hp2 kk)
/-- a call over the whole world -/
theorem z_dVv (G : zG D y X cc own rm nm Ts) {rest As : List Value} {b : Addr} {idx na : Nat} {yn : MethodName} {bytes : ByteArray} {maxL : Nat} {ret : Option FieldType} {wm : List Cond} {rm2 : Room} (w1 : va_W)
    (hM : ∀ l, zDv l D y yn wm rm2 (.ref b :: As) ws w1) (hk : zCal yn wm bytes maxL ret na) (hg : GoodIn Ts (wsV own idx yn.cls yn wm)) (q0 ci : Nat) {fs : List Value} {qc : vw_C} (hr : ws[q0]? = some (b, .inr (ci, fs))) (hc : vwCl[ci]? = some qc) (hcn : qc.1 = yn.cls) (hdg : decode cc pc = .ok (.invokevirtual idx, 3)) (hR : rm2.frames + 1 ≤ rm.frames ∧ 8 + (maxL + 11) + rm2.locals ≤ rm.locals) (hz : rm2.cells = 0 ∧ rm2.slots = 0) (hfit : k ≤ rm.cells ∧ n ≤ rm.slots) (hn : As.length = na) (hcat : (rest.map fun v => v.category).sum ≤ 8) (hst : st = (As.reverse ++ .ref b :: rest))
    (kk : zV D X w1 k n (pc + 3) lv rest) : zV D X ws k n pc lv st := by
  obtain ⟨h1, h2⟩ := hz
  have e := z_callVv G (wc := ws) (wr := []) hM hk hg q0 ci hr hc hcn hdg hR (by rw [h1, h2]; exact hfit) hn hcat st hst (fun w2 h => by subst h; exact by rw [h1, h2]; exact z_nil kk)
  rwa [List.append_nil] at e
/-- a call over a part of the world -/
theorem z_pVv (G : zG D y X cc own rm nm Ts) {rest As : List Value} {b : Addr} {idx na : Nat} {yn : MethodName} {bytes : ByteArray} {maxL : Nat} {ret : Option FieldType} {wm : List Cond} {rm2 : Room} {wc wr : va_W} (w1 : va_W) (ws' : va_W)
    (hM : ∀ l, zDv l D y yn wm rm2 (.ref b :: As) wc w1) (hk : zCal yn wm bytes maxL ret na) (hg : GoodIn Ts (wsV own idx yn.cls yn wm)) (q0 ci : Nat) {fs : List Value} {qc : vw_C} (hr : wc[q0]? = some (b, .inr (ci, fs))) (hc : vwCl[ci]? = some qc) (hcn : qc.1 = yn.cls) (hdg : decode cc pc = .ok (.invokevirtual idx, 3)) (hR : rm2.frames + 1 ≤ rm.frames ∧ 8 + (maxL + 11) + rm2.locals ≤ rm.locals) (hz : rm2.cells = 0 ∧ rm2.slots = 0) (hfit : k ≤ rm.cells ∧ n ≤ rm.slots) (hn : As.length = na) (hcat : (rest.map fun v => v.category).sum ≤ 8) (hst : st = (As.reverse ++ .ref b :: rest)) (hp : ws.Perm (wc ++ wr)) (hp2 : (w1 ++ wr).Perm ws')
    (kk : zV D X ws' k n (pc + 3) lv rest) : zV D X ws k n pc lv st := by
  obtain ⟨h1, h2⟩ := hz
  refine z_perm hp ?_
  exact z_callVv G (wc := wc) (wr := wr) hM hk hg q0 ci hr hc hcn hdg hR (by rw [h1, h2]; exact hfit) hn hcat st hst (fun w2 h => by subst h; exact by rw [h1, h2]; exact z_perm hp2 kk)
/-- a call over the whole world -/
theorem z_dSi (G : zG D y X cc own rm nm Ts) {rest As : List Value} {idx na : Nat} {yn : MethodName} {bytes : ByteArray} {maxL : Nat} {ret : Option FieldType} {wm : List Cond} {rm2 : Room} (r : Int32) (w1 : va_W)
    (hM : ∀ l, zDi l D y yn wm rm2 As ws r w1) (hk : zCal yn wm bytes maxL ret na) (hg : GoodIn Ts (va_wsS own idx yn wm)) (hdg : decode cc pc = .ok (.invokestatic idx, 3)) (hR : rm2.frames + 1 ≤ rm.frames ∧ 8 + (maxL + 11) + rm2.locals ≤ rm.locals) (hz : rm2.cells = 0 ∧ rm2.slots = 0) (hfit : k ≤ rm.cells ∧ n ≤ rm.slots) (hn : As.length = na) (hcat : (rest.map fun v => v.category).sum ≤ 8) (hst : st = (As.reverse ++ rest))
    (kk : zV D X w1 k n (pc + 3) lv (.int r :: rest)) : zV D X ws k n pc lv st := by
  obtain ⟨h1, h2⟩ := hz
  have e := z_callSi G (wc := ws) (wr := []) hM hk hg hdg hR (by rw [h1, h2]; exact hfit) hn hcat st hst (fun r1 w2 h => by obtain ⟨rfl, rfl⟩ := h; exact by rw [h1, h2]; exact z_nil kk)
  rwa [List.append_nil] at e
/-- a call over a part of the world -/
theorem z_pSi (G : zG D y X cc own rm nm Ts) {rest As : List Value} {idx na : Nat} {yn : MethodName} {bytes : ByteArray} {maxL : Nat} {ret : Option FieldType} {wm : List Cond} {rm2 : Room} {wc wr : va_W} (r : Int32) (w1 : va_W) (ws' : va_W)
    (hM : ∀ l, zDi l D y yn wm rm2 As wc r w1) (hk : zCal yn wm bytes maxL ret na) (hg : GoodIn Ts (va_wsS own idx yn wm)) (hdg : decode cc pc = .ok (.invokestatic idx, 3)) (hR : rm2.frames + 1 ≤ rm.frames ∧ 8 + (maxL + 11) + rm2.locals ≤ rm.locals) (hz : rm2.cells = 0 ∧ rm2.slots = 0) (hfit : k ≤ rm.cells ∧ n ≤ rm.slots) (hn : As.length = na) (hcat : (rest.map fun v => v.category).sum ≤ 8) (hst : st = (As.reverse ++ rest)) (hp : ws.Perm (wc ++ wr)) (hp2 : (w1 ++ wr).Perm ws')
    (kk : zV D X ws' k n (pc + 3) lv (.int r :: rest)) : zV D X ws k n pc lv st := by
  obtain ⟨h1, h2⟩ := hz
  refine z_perm hp ?_
  exact z_callSi G (wc := wc) (wr := wr) hM hk hg hdg hR (by rw [h1, h2]; exact hfit) hn hcat st hst (fun r1 w2 h => by obtain ⟨rfl, rfl⟩ := h; exact by rw [h1, h2]; exact z_perm hp2 kk)
/-- a call over the whole world -/
theorem z_dSv (G : zG D y X cc own rm nm Ts) {rest As : List Value} {idx na : Nat} {yn : MethodName} {bytes : ByteArray} {maxL : Nat} {ret : Option FieldType} {wm : List Cond} {rm2 : Room} (w1 : va_W)
    (hM : ∀ l, zDv l D y yn wm rm2 As ws w1) (hk : zCal yn wm bytes maxL ret na) (hg : GoodIn Ts (va_wsS own idx yn wm)) (hdg : decode cc pc = .ok (.invokestatic idx, 3)) (hR : rm2.frames + 1 ≤ rm.frames ∧ 8 + (maxL + 11) + rm2.locals ≤ rm.locals) (hz : rm2.cells = 0 ∧ rm2.slots = 0) (hfit : k ≤ rm.cells ∧ n ≤ rm.slots) (hn : As.length = na) (hcat : (rest.map fun v => v.category).sum ≤ 8) (hst : st = (As.reverse ++ rest))
    (kk : zV D X w1 k n (pc + 3) lv rest) : zV D X ws k n pc lv st := by
  obtain ⟨h1, h2⟩ := hz
  have e := z_callSv G (wc := ws) (wr := []) hM hk hg hdg hR (by rw [h1, h2]; exact hfit) hn hcat st hst (fun w2 h => by subst h; exact by rw [h1, h2]; exact z_nil kk)
  rwa [List.append_nil] at e
/-- a call over a part of the world -/
theorem z_pSv (G : zG D y X cc own rm nm Ts) {rest As : List Value} {idx na : Nat} {yn : MethodName} {bytes : ByteArray} {maxL : Nat} {ret : Option FieldType} {wm : List Cond} {rm2 : Room} {wc wr : va_W} (w1 : va_W) (ws' : va_W)
    (hM : ∀ l, zDv l D y yn wm rm2 As wc w1) (hk : zCal yn wm bytes maxL ret na) (hg : GoodIn Ts (va_wsS own idx yn wm)) (hdg : decode cc pc = .ok (.invokestatic idx, 3)) (hR : rm2.frames + 1 ≤ rm.frames ∧ 8 + (maxL + 11) + rm2.locals ≤ rm.locals) (hz : rm2.cells = 0 ∧ rm2.slots = 0) (hfit : k ≤ rm.cells ∧ n ≤ rm.slots) (hn : As.length = na) (hcat : (rest.map fun v => v.category).sum ≤ 8) (hst : st = (As.reverse ++ rest)) (hp : ws.Perm (wc ++ wr)) (hp2 : (w1 ++ wr).Perm ws')
    (kk : zV D X ws' k n (pc + 3) lv rest) : zV D X ws k n pc lv st := by
  obtain ⟨h1, h2⟩ := hz
  refine z_perm hp ?_
  exact z_callSv G (wc := wc) (wr := wr) hM hk hg hdg hR (by rw [h1, h2]; exact hfit) hn hcat st hst (fun w2 h => by subst h; exact by rw [h1, h2]; exact z_perm hp2 kk)
theorem bg_owed (G : zG D y X cc RX0 rm nm Ts) (hin : ∀ w ∈ wsX00, w ∈ Ts) (hl : Cond.fieldLink RX0 9 "TeaSeats$Bows" "owed" "[I" ∈ Ts) (hdg : decode cc pc = .ok (.getfield 9, 3)) (kk : zV D X (bwW y a f) k n (pc + 3) lv (.ref (a 10) :: st)) : zV D X (bwW y a f) k n pc lv (.ref (a 9) :: st) := z_get (own := RX0) G hin 0 rfl rfl 0 (by decide) hl rfl hdg kk
theorem bg_made (G : zG D y X cc RX0 rm nm Ts) (hin : ∀ w ∈ wsX00, w ∈ Ts) (hl : Cond.fieldLink RX0 15 "TeaSeats$Bows" "made" "[I" ∈ Ts) (hdg : decode cc pc = .ok (.getfield 15, 3)) (kk : zV D X (bwW y a f) k n (pc + 3) lv (.ref (a 11) :: st)) : zV D X (bwW y a f) k n pc lv (.ref (a 9) :: st) := z_get (own := RX0) G hin 0 rfl rfl 1 (by decide) hl rfl hdg kk
theorem bg_laidInAll (G : zG D y X cc RX0 rm nm Ts) (hin : ∀ w ∈ wsX00, w ∈ Ts) (hl : Cond.fieldLink RX0 24 "TeaSeats$Bows" "laidInAll" "I" ∈ Ts) (hdg : decode cc pc = .ok (.getfield 24, 3)) (kk : zV D X (bwW y a f) k n (pc + 3) lv (.int (f 10) :: st)) : zV D X (bwW y a f) k n pc lv (.ref (a 9) :: st) := z_get (own := RX0) G hin 0 rfl rfl 2 (by decide) hl rfl hdg kk
theorem bq_laidInAll (x : Int32) : (bwW y a f).set 0 (a 9, .inr (0, [.ref (a 10), .ref (a 11), .int x, .int (f 7), .int (f 8), .int (f 9)])) = bwW y a (upd f 10 x) := by
  have e1 : cut 81 (fun c => f (o_at c)) = cut 81 (fun c => upd f 10 x (o_at c)) := cut_eq fun j hj => (upd_ne (by unfold o_at; omega)).symm
  have e2 : cut 9 (fun g => f (20 + 17 * g)) = cut 9 (fun g => upd f 10 x (20 + 17 * g)) := cut_eq fun j hj => (upd_ne (by omega)).symm
  unfold bwW
  rw [← e1, ← e2]
  rfl
theorem bp_laidInAll (G : zG D y X cc RX0 rm nm Ts) (hin : ∀ w ∈ wsX00, w ∈ Ts) (hl : Cond.fieldLink RX0 24 "TeaSeats$Bows" "laidInAll" "I" ∈ Ts) (hdg : decode cc pc = .ok (.putfield 24, 3)) {x : Int32} (kk : zV D X (bwW y a (upd f 10 x)) k n (pc + 3) lv st) : zV D X (bwW y a f) k n pc lv (.int x :: .ref (a 9) :: st) := z_put (own := RX0) G hin tyX0 tyX0_ok nmX0 0 rfl rfl 2 (by decide) hl rfl (ty := .int) (by decide +kernel) rfl rfl (Nat.le_of_ble_eq_true rfl) hdg (bwW y a (upd f 10 x)) (bq_laidInAll x) kk
theorem bg_madeInAll (G : zG D y X cc RX0 rm nm Ts) (hin : ∀ w ∈ wsX00, w ∈ Ts) (hl : Cond.fieldLink RX0 28 "TeaSeats$Bows" "madeInAll" "I" ∈ Ts) (hdg : decode cc pc = .ok (.getfield 28, 3)) (kk : zV D X (bwW y a f) k n (pc + 3) lv (.int (f 7) :: st)) : zV D X (bwW y a f) k n pc lv (.ref (a 9) :: st) := z_get (own := RX0) G hin 0 rfl rfl 3 (by decide) hl rfl hdg kk
theorem bq_madeInAll (x : Int32) : (bwW y a f).set 0 (a 9, .inr (0, [.ref (a 10), .ref (a 11), .int (f 10), .int x, .int (f 8), .int (f 9)])) = bwW y a (upd f 7 x) := by
  have e1 : cut 81 (fun c => f (o_at c)) = cut 81 (fun c => upd f 7 x (o_at c)) := cut_eq fun j hj => (upd_ne (by unfold o_at; omega)).symm
  have e2 : cut 9 (fun g => f (20 + 17 * g)) = cut 9 (fun g => upd f 7 x (20 + 17 * g)) := cut_eq fun j hj => (upd_ne (by omega)).symm
  unfold bwW
  rw [← e1, ← e2]
  rfl
theorem bp_madeInAll (G : zG D y X cc RX0 rm nm Ts) (hin : ∀ w ∈ wsX00, w ∈ Ts) (hl : Cond.fieldLink RX0 28 "TeaSeats$Bows" "madeInAll" "I" ∈ Ts) (hdg : decode cc pc = .ok (.putfield 28, 3)) {x : Int32} (kk : zV D X (bwW y a (upd f 7 x)) k n (pc + 3) lv st) : zV D X (bwW y a f) k n pc lv (.int x :: .ref (a 9) :: st) := z_put (own := RX0) G hin tyX0 tyX0_ok nmX0 0 rfl rfl 3 (by decide) hl rfl (ty := .int) (by decide +kernel) rfl rfl (Nat.le_of_ble_eq_true rfl) hdg (bwW y a (upd f 7 x)) (bq_madeInAll x) kk
theorem bg_lostInAll (G : zG D y X cc RX0 rm nm Ts) (hin : ∀ w ∈ wsX00, w ∈ Ts) (hl : Cond.fieldLink RX0 31 "TeaSeats$Bows" "lostInAll" "I" ∈ Ts) (hdg : decode cc pc = .ok (.getfield 31, 3)) (kk : zV D X (bwW y a f) k n (pc + 3) lv (.int (f 8) :: st)) : zV D X (bwW y a f) k n pc lv (.ref (a 9) :: st) := z_get (own := RX0) G hin 0 rfl rfl 4 (by decide) hl rfl hdg kk
theorem bq_lostInAll (x : Int32) : (bwW y a f).set 0 (a 9, .inr (0, [.ref (a 10), .ref (a 11), .int (f 10), .int (f 7), .int x, .int (f 9)])) = bwW y a (upd f 8 x) := by
  have e1 : cut 81 (fun c => f (o_at c)) = cut 81 (fun c => upd f 8 x (o_at c)) := cut_eq fun j hj => (upd_ne (by unfold o_at; omega)).symm
  have e2 : cut 9 (fun g => f (20 + 17 * g)) = cut 9 (fun g => upd f 8 x (20 + 17 * g)) := cut_eq fun j hj => (upd_ne (by omega)).symm
  unfold bwW
  rw [← e1, ← e2]
  rfl
theorem bp_lostInAll (G : zG D y X cc RX0 rm nm Ts) (hin : ∀ w ∈ wsX00, w ∈ Ts) (hl : Cond.fieldLink RX0 31 "TeaSeats$Bows" "lostInAll" "I" ∈ Ts) (hdg : decode cc pc = .ok (.putfield 31, 3)) {x : Int32} (kk : zV D X (bwW y a (upd f 8 x)) k n (pc + 3) lv st) : zV D X (bwW y a f) k n pc lv (.int x :: .ref (a 9) :: st) := z_put (own := RX0) G hin tyX0 tyX0_ok nmX0 0 rfl rfl 4 (by decide) hl rfl (ty := .int) (by decide +kernel) rfl rfl (Nat.le_of_ble_eq_true rfl) hdg (bwW y a (upd f 8 x)) (bq_lostInAll x) kk
theorem bg_setOffInAll (G : zG D y X cc RX0 rm nm Ts) (hin : ∀ w ∈ wsX00, w ∈ Ts) (hl : Cond.fieldLink RX0 34 "TeaSeats$Bows" "setOffInAll" "I" ∈ Ts) (hdg : decode cc pc = .ok (.getfield 34, 3)) (kk : zV D X (bwW y a f) k n (pc + 3) lv (.int (f 9) :: st)) : zV D X (bwW y a f) k n pc lv (.ref (a 9) :: st) := z_get (own := RX0) G hin 0 rfl rfl 5 (by decide) hl rfl hdg kk
theorem bq_setOffInAll (x : Int32) : (bwW y a f).set 0 (a 9, .inr (0, [.ref (a 10), .ref (a 11), .int (f 10), .int (f 7), .int (f 8), .int x])) = bwW y a (upd f 9 x) := by
  have e1 : cut 81 (fun c => f (o_at c)) = cut 81 (fun c => upd f 9 x (o_at c)) := cut_eq fun j hj => (upd_ne (by unfold o_at; omega)).symm
  have e2 : cut 9 (fun g => f (20 + 17 * g)) = cut 9 (fun g => upd f 9 x (20 + 17 * g)) := cut_eq fun j hj => (upd_ne (by omega)).symm
  unfold bwW
  rw [← e1, ← e2]
  rfl
theorem bp_setOffInAll (G : zG D y X cc RX0 rm nm Ts) (hin : ∀ w ∈ wsX00, w ∈ Ts) (hl : Cond.fieldLink RX0 34 "TeaSeats$Bows" "setOffInAll" "I" ∈ Ts) (hdg : decode cc pc = .ok (.putfield 34, 3)) {x : Int32} (kk : zV D X (bwW y a (upd f 9 x)) k n (pc + 3) lv st) : zV D X (bwW y a f) k n pc lv (.int x :: .ref (a 9) :: st) := z_put (own := RX0) G hin tyX0 tyX0_ok nmX0 0 rfl rfl 5 (by decide) hl rfl (ty := .int) (by decide +kernel) rfl rfl (Nat.le_of_ble_eq_true rfl) hdg (bwW y a (upd f 9 x)) (bq_setOffInAll x) kk
theorem bl_owed (G : zG D y X cc own rm nm Ts) {g o : Nat} (hg : g < 9) (ho : o < 9) (hdg : decode cc pc = .ok (.iaload, 1)) (kk : zV D X (bwW y a f) k n (pc + 1) lv (.int (f (21 + 17 * g + o)) :: st)) : zV D X (bwW y a f) k n pc lv (.int (nI (9 * g + o)) :: .ref (a 10) :: st) := z_iald G 1 rfl (by omega) (by decide) hdg (v := f (21 + 17 * g + o)) (by rw [cut_at (by omega), o_at_in ho]) kk
theorem bl_owedc (G : zG D y X cc own rm nm Ts) {c : Nat} (hc : c < 81) (hdg : decode cc pc = .ok (.iaload, 1)) (kk : zV D X (bwW y a f) k n (pc + 1) lv (.int (f (o_at c)) :: st)) : zV D X (bwW y a f) k n pc lv (.int (nI c) :: .ref (a 10) :: st) := z_iald G 1 rfl hc (by decide) hdg (cut_at hc) kk
theorem bl_made (G : zG D y X cc own rm nm Ts) {g : Nat} (hg : g < 9) (hdg : decode cc pc = .ok (.iaload, 1)) (kk : zV D X (bwW y a f) k n (pc + 1) lv (.int (f (20 + 17 * g)) :: st)) : zV D X (bwW y a f) k n pc lv (.int (nI g) :: .ref (a 11) :: st) := z_iald G 2 rfl hg (by decide) hdg (cut_at hg) kk
theorem bs_owed (G : zG D y X cc own rm nm Ts) {g o : Nat} (hg : g < 9) (ho : o < 9) (hdg : decode cc pc = .ok (.iastore, 1)) {x : Int32} (kk : zV D X (bwW y a (upd f (21 + 17 * g + o) x)) k n (pc + 1) lv st) : zV D X (bwW y a f) k n pc lv (.int x :: .int (nI (9 * g + o)) :: .ref (a 10) :: st) := z_iast G 1 rfl (show 9 * g + o < 81 by omega) (by decide) hdg _ (by
  have e2 : cut 9 (fun h => f (20 + 17 * h)) = cut 9 (fun h => upd f (21 + 17 * g + o) x (20 + 17 * h)) := cut_eq fun j hj => (upd_ne (by omega)).symm
  have e1 : upd (cut 81 (fun c => f (o_at c))) (9 * g + o) x = cut 81 (fun c => upd f (21 + 17 * g + o) x (o_at c)) := by
    rw [cut_upd (by omega)]
    refine cut_eq fun j hj => ?_
    by_cases e : j = 9 * g + o
    · subst e
      rw [upd_at, o_at_in ho, upd_at]
    · rw [upd_ne e, upd_ne (by unfold o_at; omega)]
  unfold bwW
  rw [← e1, ← e2, upd_ne (show 10 ≠ 21 + 17 * g + o by omega), upd_ne (show 7 ≠ 21 + 17 * g + o by omega), upd_ne (show 8 ≠ 21 + 17 * g + o by omega), upd_ne (show 9 ≠ 21 + 17 * g + o by omega)]
  rfl) kk
theorem bs_made (G : zG D y X cc own rm nm Ts) {g : Nat} (hg : g < 9) (hdg : decode cc pc = .ok (.iastore, 1)) {x : Int32} (kk : zV D X (bwW y a (upd f (20 + 17 * g) x)) k n (pc + 1) lv st) : zV D X (bwW y a f) k n pc lv (.int x :: .int (nI g) :: .ref (a 11) :: st) := z_iast G 2 rfl hg (by decide) hdg _ (by
  have e1 : cut 81 (fun c => f (o_at c)) = cut 81 (fun c => upd f (20 + 17 * g) x (o_at c)) := cut_eq fun j hj => (upd_ne (by unfold o_at; omega)).symm
  have e2 : upd (cut 9 (fun h => f (20 + 17 * h))) g x = cut 9 (fun h => upd f (20 + 17 * g) x (20 + 17 * h)) := by
    rw [cut_upd (by omega)]
    refine cut_eq fun j hj => ?_
    by_cases e : j = g
    · subst e
      rw [upd_at, upd_at]
    · rw [upd_ne e, upd_ne (by omega)]
  unfold bwW
  rw [← e1, ← e2, upd_ne (show 10 ≠ 20 + 17 * g by omega), upd_ne (show 7 ≠ 20 + 17 * g by omega), upd_ne (show 8 ≠ 20 + 17 * g by omega), upd_ne (show 9 ≠ 20 + 17 * g by omega)]
  rfl) kk
theorem rg_settings (G : zG D y X cc RX3 rm nm Ts) (hin : ∀ w ∈ wsX30, w ∈ Ts) (hl : Cond.fieldLink RX3 9 "TeaSeats$Room" "settings" "[I" ∈ Ts) (hdg : decode cc pc = .ok (.getfield 9, 3)) (kk : zV D X (rmW y a f rk) k n (pc + 3) lv (.ref (a 1) :: st)) : zV D X (rmW y a f rk) k n pc lv (.ref (a 0) :: st) := z_get (own := RX3) G hin 0 rfl rfl 0 (by decide) hl rfl hdg kk
theorem rg_patience (G : zG D y X cc RX3 rm nm Ts) (hin : ∀ w ∈ wsX30, w ∈ Ts) (hl : Cond.fieldLink RX3 15 "TeaSeats$Room" "patience" "[I" ∈ Ts) (hdg : decode cc pc = .ok (.getfield 15, 3)) (kk : zV D X (rmW y a f rk) k n (pc + 3) lv (.ref (a 2) :: st)) : zV D X (rmW y a f rk) k n pc lv (.ref (a 0) :: st) := z_get (own := RX3) G hin 0 rfl rfl 1 (by decide) hl rfl hdg kk
theorem rg_silence (G : zG D y X cc RX3 rm nm Ts) (hin : ∀ w ∈ wsX30, w ∈ Ts) (hl : Cond.fieldLink RX3 18 "TeaSeats$Room" "silence" "[I" ∈ Ts) (hdg : decode cc pc = .ok (.getfield 18, 3)) (kk : zV D X (rmW y a f rk) k n (pc + 3) lv (.ref (a 3) :: st)) : zV D X (rmW y a f rk) k n pc lv (.ref (a 0) :: st) := z_get (own := RX3) G hin 0 rfl rfl 2 (by decide) hl rfl hdg kk
theorem rg_cups (G : zG D y X cc RX3 rm nm Ts) (hin : ∀ w ∈ wsX30, w ∈ Ts) (hl : Cond.fieldLink RX3 21 "TeaSeats$Room" "cups" "[I" ∈ Ts) (hdg : decode cc pc = .ok (.getfield 21, 3)) (kk : zV D X (rmW y a f rk) k n (pc + 3) lv (.ref (a 4) :: st)) : zV D X (rmW y a f rk) k n pc lv (.ref (a 0) :: st) := z_get (own := RX3) G hin 0 rfl rfl 3 (by decide) hl rfl hdg kk
theorem rg_sighs (G : zG D y X cc RX3 rm nm Ts) (hin : ∀ w ∈ wsX30, w ∈ Ts) (hl : Cond.fieldLink RX3 24 "TeaSeats$Room" "sighs" "[I" ∈ Ts) (hdg : decode cc pc = .ok (.getfield 24, 3)) (kk : zV D X (rmW y a f rk) k n (pc + 3) lv (.ref (a 5) :: st)) : zV D X (rmW y a f rk) k n pc lv (.ref (a 0) :: st) := z_get (own := RX3) G hin 0 rfl rfl 4 (by decide) hl rfl hdg kk
theorem rg_words (G : zG D y X cc RX3 rm nm Ts) (hin : ∀ w ∈ wsX30, w ∈ Ts) (hl : Cond.fieldLink RX3 27 "TeaSeats$Room" "words" "[I" ∈ Ts) (hdg : decode cc pc = .ok (.getfield 27, 3)) (kk : zV D X (rmW y a f rk) k n (pc + 3) lv (.ref (a 6) :: st)) : zV D X (rmW y a f rk) k n pc lv (.ref (a 0) :: st) := z_get (own := RX3) G hin 0 rfl rfl 5 (by decide) hl rfl hdg kk
theorem rg_seats (G : zG D y X cc RX3 rm nm Ts) (hin : ∀ w ∈ wsX30, w ∈ Ts) (hl : Cond.fieldLink RX3 30 "TeaSeats$Room" "seats" "[I" ∈ Ts) (hdg : decode cc pc = .ok (.getfield 30, 3)) (kk : zV D X (rmW y a f rk) k n (pc + 3) lv (.ref (a 7) :: st)) : zV D X (rmW y a f rk) k n pc lv (.ref (a 0) :: st) := z_get (own := RX3) G hin 0 rfl rfl 6 (by decide) hl rfl hdg kk
theorem rg_bows (G : zG D y X cc RX3 rm nm Ts) (hin : ∀ w ∈ wsX30, w ∈ Ts) (hl : Cond.fieldLink RX3 36 "TeaSeats$Room" "bows" "LTeaSeats$Bows;" ∈ Ts) (hdg : decode cc pc = .ok (.getfield 36, 3)) (kk : zV D X (rmW y a f rk) k n (pc + 3) lv (.ref (a 9) :: st)) : zV D X (rmW y a f rk) k n pc lv (.ref (a 0) :: st) := z_get (own := RX3) G hin 0 rfl rfl 7 (by decide) hl rfl hdg kk
theorem rg_breathsSoFar (G : zG D y X cc RX3 rm nm Ts) (hin : ∀ w ∈ wsX30, w ∈ Ts) (hl : Cond.fieldLink RX3 53 "TeaSeats$Room" "breathsSoFar" "I" ∈ Ts) (hdg : decode cc pc = .ok (.getfield 53, 3)) (kk : zV D X (rmW y a f rk) k n (pc + 3) lv (.int (f 4) :: st)) : zV D X (rmW y a f rk) k n pc lv (.ref (a 0) :: st) := z_get (own := RX3) G hin 0 rfl rfl 8 (by decide) hl rfl hdg kk
theorem rg_roundsSoFar (G : zG D y X cc RX3 rm nm Ts) (hin : ∀ w ∈ wsX30, w ∈ Ts) (hl : Cond.fieldLink RX3 57 "TeaSeats$Room" "roundsSoFar" "I" ∈ Ts) (hdg : decode cc pc = .ok (.getfield 57, 3)) (kk : zV D X (rmW y a f rk) k n (pc + 3) lv (.int (f 5) :: st)) : zV D X (rmW y a f rk) k n pc lv (.ref (a 0) :: st) := z_get (own := RX3) G hin 0 rfl rfl 9 (by decide) hl rfl hdg kk
theorem rg_cupsSoFar (G : zG D y X cc RX3 rm nm Ts) (hin : ∀ w ∈ wsX30, w ∈ Ts) (hl : Cond.fieldLink RX3 60 "TeaSeats$Room" "cupsSoFar" "I" ∈ Ts) (hdg : decode cc pc = .ok (.getfield 60, 3)) (kk : zV D X (rmW y a f rk) k n (pc + 3) lv (.int (f 6) :: st)) : zV D X (rmW y a f rk) k n pc lv (.ref (a 0) :: st) := z_get (own := RX3) G hin 0 rfl rfl 10 (by decide) hl rfl hdg kk
theorem rg_wordsSoFar (G : zG D y X cc RX3 rm nm Ts) (hin : ∀ w ∈ wsX30, w ∈ Ts) (hl : Cond.fieldLink RX3 63 "TeaSeats$Room" "wordsSoFar" "I" ∈ Ts) (hdg : decode cc pc = .ok (.getfield 63, 3)) (kk : zV D X (rmW y a f rk) k n (pc + 3) lv (.int (f 11) :: st)) : zV D X (rmW y a f rk) k n pc lv (.ref (a 0) :: st) := z_get (own := RX3) G hin 0 rfl rfl 11 (by decide) hl rfl hdg kk
theorem rg_sighsSoFar (G : zG D y X cc RX3 rm nm Ts) (hin : ∀ w ∈ wsX30, w ∈ Ts) (hl : Cond.fieldLink RX3 66 "TeaSeats$Room" "sighsSoFar" "I" ∈ Ts) (hdg : decode cc pc = .ok (.getfield 66, 3)) (kk : zV D X (rmW y a f rk) k n (pc + 3) lv (.int (f 12) :: st)) : zV D X (rmW y a f rk) k n pc lv (.ref (a 0) :: st) := z_get (own := RX3) G hin 0 rfl rfl 12 (by decide) hl rfl hdg kk
theorem rg_ranks (G : zG D y X cc RX3 rm nm Ts) (hin : ∀ w ∈ wsX30, w ∈ Ts) (hl : Cond.fieldLink RX3 40 "TeaSeats$Room" "ranks" "[I" ∈ Ts) (hdg : decode cc pc = .ok (.getfield 40, 3)) (kk : zV D X (rmW y a f rk) k n (pc + 3) lv (.ref (a 8) :: st)) : zV D X (rmW y a f rk) k n pc lv (.ref (a 0) :: st) := z_get (own := RX3) G hin 0 rfl rfl 13 (by decide) hl rfl hdg kk
theorem rq_breathsSoFar (x : Int32) : (rmW y a f rk).set 0 (a 0, .inr (3, [.ref (a 1), .ref (a 2), .ref (a 3), .ref (a 4), .ref (a 5), .ref (a 6), .ref (a 7), .ref (a 9), .int x, .int (f 5), .int (f 6), .int (f 11), .int (f 12), .ref (a 8)])) = rmW y a (upd f 4 x) rk := by
  have h : ∀ j, j ≠ 4 → f j = upd f 4 x j := fun j hj => (upd_ne hj).symm
  have e0 : cut 4 f = cut 4 (upd f 4 x) := cut_eq fun j hj => h j (by omega)
  have e1 : cut 9 (fun g => f (15 + 17 * g)) = cut 9 (fun g => upd f 4 x (15 + 17 * g)) := cut_eq fun j hj => h _ (by omega)
  have e2 : cut 9 (fun g => f (16 + 17 * g)) = cut 9 (fun g => upd f 4 x (16 + 17 * g)) := cut_eq fun j hj => h _ (by omega)
  have e3 : cut 9 (fun g => f (17 + 17 * g)) = cut 9 (fun g => upd f 4 x (17 + 17 * g)) := cut_eq fun j hj => h _ (by omega)
  have e4 : cut 9 (fun g => f (18 + 17 * g)) = cut 9 (fun g => upd f 4 x (18 + 17 * g)) := cut_eq fun j hj => h _ (by omega)
  have e5 : cut 9 (fun g => f (19 + 17 * g)) = cut 9 (fun g => upd f 4 x (19 + 17 * g)) := cut_eq fun j hj => h _ (by omega)
  have e6 : cut 9 (fun g => f (14 + 17 * g)) = cut 9 (fun g => upd f 4 x (14 + 17 * g)) := cut_eq fun j hj => h _ (by omega)
  have e7 : bwW y a f = bwW y a (upd f 4 x) := by
    have e8 : cut 81 (fun c => f (o_at c)) = cut 81 (fun c => upd f 4 x (o_at c)) := cut_eq fun j hj => h _ (by unfold o_at; omega)
    have e9 : cut 9 (fun g => f (20 + 17 * g)) = cut 9 (fun g => upd f 4 x (20 + 17 * g)) := cut_eq fun j hj => h _ (by omega)
    unfold bwW
    rw [← e8, ← e9]
    rfl
  unfold rmW rmH
  rw [← e0, ← e1, ← e2, ← e3, ← e4, ← e5, ← e6, ← e7]
  rfl
theorem rp_breathsSoFar (G : zG D y X cc RX3 rm nm Ts) (hin : ∀ w ∈ wsX30, w ∈ Ts) (hl : Cond.fieldLink RX3 53 "TeaSeats$Room" "breathsSoFar" "I" ∈ Ts) (hdg : decode cc pc = .ok (.putfield 53, 3)) {x : Int32} (kk : zV D X (rmW y a (upd f 4 x) rk) k n (pc + 3) lv st) : zV D X (rmW y a f rk) k n pc lv (.int x :: .ref (a 0) :: st) := z_put (own := RX3) G hin tyX3 tyX3_ok nmX3 0 rfl rfl 8 (by decide) hl rfl (ty := .int) (by decide +kernel) rfl rfl (Nat.le_of_ble_eq_true rfl) hdg (rmW y a (upd f 4 x) rk) (rq_breathsSoFar x) kk
theorem rq_roundsSoFar (x : Int32) : (rmW y a f rk).set 0 (a 0, .inr (3, [.ref (a 1), .ref (a 2), .ref (a 3), .ref (a 4), .ref (a 5), .ref (a 6), .ref (a 7), .ref (a 9), .int (f 4), .int x, .int (f 6), .int (f 11), .int (f 12), .ref (a 8)])) = rmW y a (upd f 5 x) rk := by
  have h : ∀ j, j ≠ 5 → f j = upd f 5 x j := fun j hj => (upd_ne hj).symm
  have e0 : cut 4 f = cut 4 (upd f 5 x) := cut_eq fun j hj => h j (by omega)
  have e1 : cut 9 (fun g => f (15 + 17 * g)) = cut 9 (fun g => upd f 5 x (15 + 17 * g)) := cut_eq fun j hj => h _ (by omega)
  have e2 : cut 9 (fun g => f (16 + 17 * g)) = cut 9 (fun g => upd f 5 x (16 + 17 * g)) := cut_eq fun j hj => h _ (by omega)
  have e3 : cut 9 (fun g => f (17 + 17 * g)) = cut 9 (fun g => upd f 5 x (17 + 17 * g)) := cut_eq fun j hj => h _ (by omega)
  have e4 : cut 9 (fun g => f (18 + 17 * g)) = cut 9 (fun g => upd f 5 x (18 + 17 * g)) := cut_eq fun j hj => h _ (by omega)
  have e5 : cut 9 (fun g => f (19 + 17 * g)) = cut 9 (fun g => upd f 5 x (19 + 17 * g)) := cut_eq fun j hj => h _ (by omega)
  have e6 : cut 9 (fun g => f (14 + 17 * g)) = cut 9 (fun g => upd f 5 x (14 + 17 * g)) := cut_eq fun j hj => h _ (by omega)
  have e7 : bwW y a f = bwW y a (upd f 5 x) := by
    have e8 : cut 81 (fun c => f (o_at c)) = cut 81 (fun c => upd f 5 x (o_at c)) := cut_eq fun j hj => h _ (by unfold o_at; omega)
    have e9 : cut 9 (fun g => f (20 + 17 * g)) = cut 9 (fun g => upd f 5 x (20 + 17 * g)) := cut_eq fun j hj => h _ (by omega)
    unfold bwW
    rw [← e8, ← e9]
    rfl
  unfold rmW rmH
  rw [← e0, ← e1, ← e2, ← e3, ← e4, ← e5, ← e6, ← e7]
  rfl
theorem rp_roundsSoFar (G : zG D y X cc RX3 rm nm Ts) (hin : ∀ w ∈ wsX30, w ∈ Ts) (hl : Cond.fieldLink RX3 57 "TeaSeats$Room" "roundsSoFar" "I" ∈ Ts) (hdg : decode cc pc = .ok (.putfield 57, 3)) {x : Int32} (kk : zV D X (rmW y a (upd f 5 x) rk) k n (pc + 3) lv st) : zV D X (rmW y a f rk) k n pc lv (.int x :: .ref (a 0) :: st) := z_put (own := RX3) G hin tyX3 tyX3_ok nmX3 0 rfl rfl 9 (by decide) hl rfl (ty := .int) (by decide +kernel) rfl rfl (Nat.le_of_ble_eq_true rfl) hdg (rmW y a (upd f 5 x) rk) (rq_roundsSoFar x) kk
theorem rq_cupsSoFar (x : Int32) : (rmW y a f rk).set 0 (a 0, .inr (3, [.ref (a 1), .ref (a 2), .ref (a 3), .ref (a 4), .ref (a 5), .ref (a 6), .ref (a 7), .ref (a 9), .int (f 4), .int (f 5), .int x, .int (f 11), .int (f 12), .ref (a 8)])) = rmW y a (upd f 6 x) rk := by
  have h : ∀ j, j ≠ 6 → f j = upd f 6 x j := fun j hj => (upd_ne hj).symm
  have e0 : cut 4 f = cut 4 (upd f 6 x) := cut_eq fun j hj => h j (by omega)
  have e1 : cut 9 (fun g => f (15 + 17 * g)) = cut 9 (fun g => upd f 6 x (15 + 17 * g)) := cut_eq fun j hj => h _ (by omega)
  have e2 : cut 9 (fun g => f (16 + 17 * g)) = cut 9 (fun g => upd f 6 x (16 + 17 * g)) := cut_eq fun j hj => h _ (by omega)
  have e3 : cut 9 (fun g => f (17 + 17 * g)) = cut 9 (fun g => upd f 6 x (17 + 17 * g)) := cut_eq fun j hj => h _ (by omega)
  have e4 : cut 9 (fun g => f (18 + 17 * g)) = cut 9 (fun g => upd f 6 x (18 + 17 * g)) := cut_eq fun j hj => h _ (by omega)
  have e5 : cut 9 (fun g => f (19 + 17 * g)) = cut 9 (fun g => upd f 6 x (19 + 17 * g)) := cut_eq fun j hj => h _ (by omega)
  have e6 : cut 9 (fun g => f (14 + 17 * g)) = cut 9 (fun g => upd f 6 x (14 + 17 * g)) := cut_eq fun j hj => h _ (by omega)
  have e7 : bwW y a f = bwW y a (upd f 6 x) := by
    have e8 : cut 81 (fun c => f (o_at c)) = cut 81 (fun c => upd f 6 x (o_at c)) := cut_eq fun j hj => h _ (by unfold o_at; omega)
    have e9 : cut 9 (fun g => f (20 + 17 * g)) = cut 9 (fun g => upd f 6 x (20 + 17 * g)) := cut_eq fun j hj => h _ (by omega)
    unfold bwW
    rw [← e8, ← e9]
    rfl
  unfold rmW rmH
  rw [← e0, ← e1, ← e2, ← e3, ← e4, ← e5, ← e6, ← e7]
  rfl
theorem rp_cupsSoFar (G : zG D y X cc RX3 rm nm Ts) (hin : ∀ w ∈ wsX30, w ∈ Ts) (hl : Cond.fieldLink RX3 60 "TeaSeats$Room" "cupsSoFar" "I" ∈ Ts) (hdg : decode cc pc = .ok (.putfield 60, 3)) {x : Int32} (kk : zV D X (rmW y a (upd f 6 x) rk) k n (pc + 3) lv st) : zV D X (rmW y a f rk) k n pc lv (.int x :: .ref (a 0) :: st) := z_put (own := RX3) G hin tyX3 tyX3_ok nmX3 0 rfl rfl 10 (by decide) hl rfl (ty := .int) (by decide +kernel) rfl rfl (Nat.le_of_ble_eq_true rfl) hdg (rmW y a (upd f 6 x) rk) (rq_cupsSoFar x) kk
theorem rq_wordsSoFar (x : Int32) : (rmW y a f rk).set 0 (a 0, .inr (3, [.ref (a 1), .ref (a 2), .ref (a 3), .ref (a 4), .ref (a 5), .ref (a 6), .ref (a 7), .ref (a 9), .int (f 4), .int (f 5), .int (f 6), .int x, .int (f 12), .ref (a 8)])) = rmW y a (upd f 11 x) rk := by
  have h : ∀ j, j ≠ 11 → f j = upd f 11 x j := fun j hj => (upd_ne hj).symm
  have e0 : cut 4 f = cut 4 (upd f 11 x) := cut_eq fun j hj => h j (by omega)
  have e1 : cut 9 (fun g => f (15 + 17 * g)) = cut 9 (fun g => upd f 11 x (15 + 17 * g)) := cut_eq fun j hj => h _ (by omega)
  have e2 : cut 9 (fun g => f (16 + 17 * g)) = cut 9 (fun g => upd f 11 x (16 + 17 * g)) := cut_eq fun j hj => h _ (by omega)
  have e3 : cut 9 (fun g => f (17 + 17 * g)) = cut 9 (fun g => upd f 11 x (17 + 17 * g)) := cut_eq fun j hj => h _ (by omega)
  have e4 : cut 9 (fun g => f (18 + 17 * g)) = cut 9 (fun g => upd f 11 x (18 + 17 * g)) := cut_eq fun j hj => h _ (by omega)
  have e5 : cut 9 (fun g => f (19 + 17 * g)) = cut 9 (fun g => upd f 11 x (19 + 17 * g)) := cut_eq fun j hj => h _ (by omega)
  have e6 : cut 9 (fun g => f (14 + 17 * g)) = cut 9 (fun g => upd f 11 x (14 + 17 * g)) := cut_eq fun j hj => h _ (by omega)
  have e7 : bwW y a f = bwW y a (upd f 11 x) := by
    have e8 : cut 81 (fun c => f (o_at c)) = cut 81 (fun c => upd f 11 x (o_at c)) := cut_eq fun j hj => h _ (by unfold o_at; omega)
    have e9 : cut 9 (fun g => f (20 + 17 * g)) = cut 9 (fun g => upd f 11 x (20 + 17 * g)) := cut_eq fun j hj => h _ (by omega)
    unfold bwW
    rw [← e8, ← e9]
    rfl
  unfold rmW rmH
  rw [← e0, ← e1, ← e2, ← e3, ← e4, ← e5, ← e6, ← e7]
  rfl
theorem rp_wordsSoFar (G : zG D y X cc RX3 rm nm Ts) (hin : ∀ w ∈ wsX30, w ∈ Ts) (hl : Cond.fieldLink RX3 63 "TeaSeats$Room" "wordsSoFar" "I" ∈ Ts) (hdg : decode cc pc = .ok (.putfield 63, 3)) {x : Int32} (kk : zV D X (rmW y a (upd f 11 x) rk) k n (pc + 3) lv st) : zV D X (rmW y a f rk) k n pc lv (.int x :: .ref (a 0) :: st) := z_put (own := RX3) G hin tyX3 tyX3_ok nmX3 0 rfl rfl 11 (by decide) hl rfl (ty := .int) (by decide +kernel) rfl rfl (Nat.le_of_ble_eq_true rfl) hdg (rmW y a (upd f 11 x) rk) (rq_wordsSoFar x) kk
theorem rq_sighsSoFar (x : Int32) : (rmW y a f rk).set 0 (a 0, .inr (3, [.ref (a 1), .ref (a 2), .ref (a 3), .ref (a 4), .ref (a 5), .ref (a 6), .ref (a 7), .ref (a 9), .int (f 4), .int (f 5), .int (f 6), .int (f 11), .int x, .ref (a 8)])) = rmW y a (upd f 12 x) rk := by
  have h : ∀ j, j ≠ 12 → f j = upd f 12 x j := fun j hj => (upd_ne hj).symm
  have e0 : cut 4 f = cut 4 (upd f 12 x) := cut_eq fun j hj => h j (by omega)
  have e1 : cut 9 (fun g => f (15 + 17 * g)) = cut 9 (fun g => upd f 12 x (15 + 17 * g)) := cut_eq fun j hj => h _ (by omega)
  have e2 : cut 9 (fun g => f (16 + 17 * g)) = cut 9 (fun g => upd f 12 x (16 + 17 * g)) := cut_eq fun j hj => h _ (by omega)
  have e3 : cut 9 (fun g => f (17 + 17 * g)) = cut 9 (fun g => upd f 12 x (17 + 17 * g)) := cut_eq fun j hj => h _ (by omega)
  have e4 : cut 9 (fun g => f (18 + 17 * g)) = cut 9 (fun g => upd f 12 x (18 + 17 * g)) := cut_eq fun j hj => h _ (by omega)
  have e5 : cut 9 (fun g => f (19 + 17 * g)) = cut 9 (fun g => upd f 12 x (19 + 17 * g)) := cut_eq fun j hj => h _ (by omega)
  have e6 : cut 9 (fun g => f (14 + 17 * g)) = cut 9 (fun g => upd f 12 x (14 + 17 * g)) := cut_eq fun j hj => h _ (by omega)
  have e7 : bwW y a f = bwW y a (upd f 12 x) := by
    have e8 : cut 81 (fun c => f (o_at c)) = cut 81 (fun c => upd f 12 x (o_at c)) := cut_eq fun j hj => h _ (by unfold o_at; omega)
    have e9 : cut 9 (fun g => f (20 + 17 * g)) = cut 9 (fun g => upd f 12 x (20 + 17 * g)) := cut_eq fun j hj => h _ (by omega)
    unfold bwW
    rw [← e8, ← e9]
    rfl
  unfold rmW rmH
  rw [← e0, ← e1, ← e2, ← e3, ← e4, ← e5, ← e6, ← e7]
  rfl
theorem rp_sighsSoFar (G : zG D y X cc RX3 rm nm Ts) (hin : ∀ w ∈ wsX30, w ∈ Ts) (hl : Cond.fieldLink RX3 66 "TeaSeats$Room" "sighsSoFar" "I" ∈ Ts) (hdg : decode cc pc = .ok (.putfield 66, 3)) {x : Int32} (kk : zV D X (rmW y a (upd f 12 x) rk) k n (pc + 3) lv st) : zV D X (rmW y a f rk) k n pc lv (.int x :: .ref (a 0) :: st) := z_put (own := RX3) G hin tyX3 tyX3_ok nmX3 0 rfl rfl 12 (by decide) hl rfl (ty := .int) (by decide +kernel) rfl rfl (Nat.le_of_ble_eq_true rfl) hdg (rmW y a (upd f 12 x) rk) (rq_sighsSoFar x) kk
theorem rl_settings (G : zG D y X cc own rm nm Ts) {g : Nat} (hg : g < 4) (hdg : decode cc pc = .ok (.iaload, 1)) (kk : zV D X (rmW y a f rk) k n (pc + 1) lv (.int (f g) :: st)) : zV D X (rmW y a f rk) k n pc lv (.int (nI g) :: .ref (a 1) :: st) := z_iald G 1 rfl hg (by decide) hdg (cut_at hg) kk
theorem rs_settings (G : zG D y X cc own rm nm Ts) {g : Nat} (hg : g < 4) (hdg : decode cc pc = .ok (.iastore, 1)) {x : Int32} (kk : zV D X (rmW y a (upd f g x) rk) k n (pc + 1) lv st) : zV D X (rmW y a f rk) k n pc lv (.int x :: .int (nI g) :: .ref (a 1) :: st) := z_iast G 1 rfl hg (by decide) hdg _ (by
  have h : ∀ j, j ≠ g → f j = upd f g x j := fun j hj => (upd_ne hj).symm
  have e0 : upd (cut 4 f) g x = cut 4 (upd f g x) := by
    refine (cut_upd hg).trans (cut_eq fun j hj => ?_)
    by_cases e : j = g
    · subst e
      first
        | rfl
        | exact upd_at.trans upd_at.symm
    · first
        | rfl
        | exact (upd_ne e).trans (upd_ne (by omega)).symm
  have e1 : cut 9 (fun h => f (15 + 17 * h)) = cut 9 (fun h => upd f g x (15 + 17 * h)) := cut_eq fun j hj => h _ (by omega)
  have e2 : cut 9 (fun h => f (16 + 17 * h)) = cut 9 (fun h => upd f g x (16 + 17 * h)) := cut_eq fun j hj => h _ (by omega)
  have e3 : cut 9 (fun h => f (17 + 17 * h)) = cut 9 (fun h => upd f g x (17 + 17 * h)) := cut_eq fun j hj => h _ (by omega)
  have e4 : cut 9 (fun h => f (18 + 17 * h)) = cut 9 (fun h => upd f g x (18 + 17 * h)) := cut_eq fun j hj => h _ (by omega)
  have e5 : cut 9 (fun h => f (19 + 17 * h)) = cut 9 (fun h => upd f g x (19 + 17 * h)) := cut_eq fun j hj => h _ (by omega)
  have e6 : cut 9 (fun h => f (14 + 17 * h)) = cut 9 (fun h => upd f g x (14 + 17 * h)) := cut_eq fun j hj => h _ (by omega)
  have e8 : cut 81 (fun c => f (o_at c)) = cut 81 (fun c => upd f g x (o_at c)) := cut_eq fun j hj => h _ (by unfold o_at; omega)
  have e9 : cut 9 (fun h => f (20 + 17 * h)) = cut 9 (fun h => upd f g x (20 + 17 * h)) := cut_eq fun j hj => h _ (by omega)
  unfold rmW rmH bwW
  rw [← e0, ← e1, ← e2, ← e3, ← e4, ← e5, ← e6, ← e8, ← e9, ← h 4 (by omega), ← h 5 (by omega), ← h 6 (by omega), ← h 7 (by omega), ← h 8 (by omega), ← h 9 (by omega), ← h 10 (by omega), ← h 11 (by omega), ← h 12 (by omega)]
  rfl) kk
theorem rl_patience (G : zG D y X cc own rm nm Ts) {g : Nat} (hg : g < 9) (hdg : decode cc pc = .ok (.iaload, 1)) (kk : zV D X (rmW y a f rk) k n (pc + 1) lv (.int (f (15 + 17 * g)) :: st)) : zV D X (rmW y a f rk) k n pc lv (.int (nI g) :: .ref (a 2) :: st) := z_iald G 2 rfl hg (by decide) hdg (cut_at hg) kk
theorem rs_patience (G : zG D y X cc own rm nm Ts) {g : Nat} (hg : g < 9) (hdg : decode cc pc = .ok (.iastore, 1)) {x : Int32} (kk : zV D X (rmW y a (upd f (15 + 17 * g) x) rk) k n (pc + 1) lv st) : zV D X (rmW y a f rk) k n pc lv (.int x :: .int (nI g) :: .ref (a 2) :: st) := z_iast G 2 rfl hg (by decide) hdg _ (by
  have h : ∀ j, j ≠ (15 + 17 * g) → f j = upd f (15 + 17 * g) x j := fun j hj => (upd_ne hj).symm
  have e0 : cut 4 f = cut 4 (upd f (15 + 17 * g) x) := cut_eq fun j hj => h _ (by omega)
  have e1 : upd (cut 9 (fun h => f (15 + 17 * h))) g x = cut 9 (fun h => upd f (15 + 17 * g) x (15 + 17 * h)) := by
    refine (cut_upd hg).trans (cut_eq fun j hj => ?_)
    by_cases e : j = g
    · subst e
      first
        | rfl
        | exact upd_at.trans upd_at.symm
    · first
        | rfl
        | exact (upd_ne e).trans (upd_ne (by omega)).symm
  have e2 : cut 9 (fun h => f (16 + 17 * h)) = cut 9 (fun h => upd f (15 + 17 * g) x (16 + 17 * h)) := cut_eq fun j hj => h _ (by omega)
  have e3 : cut 9 (fun h => f (17 + 17 * h)) = cut 9 (fun h => upd f (15 + 17 * g) x (17 + 17 * h)) := cut_eq fun j hj => h _ (by omega)
  have e4 : cut 9 (fun h => f (18 + 17 * h)) = cut 9 (fun h => upd f (15 + 17 * g) x (18 + 17 * h)) := cut_eq fun j hj => h _ (by omega)
  have e5 : cut 9 (fun h => f (19 + 17 * h)) = cut 9 (fun h => upd f (15 + 17 * g) x (19 + 17 * h)) := cut_eq fun j hj => h _ (by omega)
  have e6 : cut 9 (fun h => f (14 + 17 * h)) = cut 9 (fun h => upd f (15 + 17 * g) x (14 + 17 * h)) := cut_eq fun j hj => h _ (by omega)
  have e8 : cut 81 (fun c => f (o_at c)) = cut 81 (fun c => upd f (15 + 17 * g) x (o_at c)) := cut_eq fun j hj => h _ (by unfold o_at; omega)
  have e9 : cut 9 (fun h => f (20 + 17 * h)) = cut 9 (fun h => upd f (15 + 17 * g) x (20 + 17 * h)) := cut_eq fun j hj => h _ (by omega)
  unfold rmW rmH bwW
  rw [← e0, ← e1, ← e2, ← e3, ← e4, ← e5, ← e6, ← e8, ← e9, ← h 4 (by omega), ← h 5 (by omega), ← h 6 (by omega), ← h 7 (by omega), ← h 8 (by omega), ← h 9 (by omega), ← h 10 (by omega), ← h 11 (by omega), ← h 12 (by omega)]
  rfl) kk
theorem rl_silence (G : zG D y X cc own rm nm Ts) {g : Nat} (hg : g < 9) (hdg : decode cc pc = .ok (.iaload, 1)) (kk : zV D X (rmW y a f rk) k n (pc + 1) lv (.int (f (16 + 17 * g)) :: st)) : zV D X (rmW y a f rk) k n pc lv (.int (nI g) :: .ref (a 3) :: st) := z_iald G 3 rfl hg (by decide) hdg (cut_at hg) kk
theorem rs_silence (G : zG D y X cc own rm nm Ts) {g : Nat} (hg : g < 9) (hdg : decode cc pc = .ok (.iastore, 1)) {x : Int32} (kk : zV D X (rmW y a (upd f (16 + 17 * g) x) rk) k n (pc + 1) lv st) : zV D X (rmW y a f rk) k n pc lv (.int x :: .int (nI g) :: .ref (a 3) :: st) := z_iast G 3 rfl hg (by decide) hdg _ (by
  have h : ∀ j, j ≠ (16 + 17 * g) → f j = upd f (16 + 17 * g) x j := fun j hj => (upd_ne hj).symm
  have e0 : cut 4 f = cut 4 (upd f (16 + 17 * g) x) := cut_eq fun j hj => h _ (by omega)
  have e1 : cut 9 (fun h => f (15 + 17 * h)) = cut 9 (fun h => upd f (16 + 17 * g) x (15 + 17 * h)) := cut_eq fun j hj => h _ (by omega)
  have e2 : upd (cut 9 (fun h => f (16 + 17 * h))) g x = cut 9 (fun h => upd f (16 + 17 * g) x (16 + 17 * h)) := by
    refine (cut_upd hg).trans (cut_eq fun j hj => ?_)
    by_cases e : j = g
    · subst e
      first
        | rfl
        | exact upd_at.trans upd_at.symm
    · first
        | rfl
        | exact (upd_ne e).trans (upd_ne (by omega)).symm
  have e3 : cut 9 (fun h => f (17 + 17 * h)) = cut 9 (fun h => upd f (16 + 17 * g) x (17 + 17 * h)) := cut_eq fun j hj => h _ (by omega)
  have e4 : cut 9 (fun h => f (18 + 17 * h)) = cut 9 (fun h => upd f (16 + 17 * g) x (18 + 17 * h)) := cut_eq fun j hj => h _ (by omega)
  have e5 : cut 9 (fun h => f (19 + 17 * h)) = cut 9 (fun h => upd f (16 + 17 * g) x (19 + 17 * h)) := cut_eq fun j hj => h _ (by omega)
  have e6 : cut 9 (fun h => f (14 + 17 * h)) = cut 9 (fun h => upd f (16 + 17 * g) x (14 + 17 * h)) := cut_eq fun j hj => h _ (by omega)
  have e8 : cut 81 (fun c => f (o_at c)) = cut 81 (fun c => upd f (16 + 17 * g) x (o_at c)) := cut_eq fun j hj => h _ (by unfold o_at; omega)
  have e9 : cut 9 (fun h => f (20 + 17 * h)) = cut 9 (fun h => upd f (16 + 17 * g) x (20 + 17 * h)) := cut_eq fun j hj => h _ (by omega)
  unfold rmW rmH bwW
  rw [← e0, ← e1, ← e2, ← e3, ← e4, ← e5, ← e6, ← e8, ← e9, ← h 4 (by omega), ← h 5 (by omega), ← h 6 (by omega), ← h 7 (by omega), ← h 8 (by omega), ← h 9 (by omega), ← h 10 (by omega), ← h 11 (by omega), ← h 12 (by omega)]
  rfl) kk
theorem rl_cups (G : zG D y X cc own rm nm Ts) {g : Nat} (hg : g < 9) (hdg : decode cc pc = .ok (.iaload, 1)) (kk : zV D X (rmW y a f rk) k n (pc + 1) lv (.int (f (17 + 17 * g)) :: st)) : zV D X (rmW y a f rk) k n pc lv (.int (nI g) :: .ref (a 4) :: st) := z_iald G 4 rfl hg (by decide) hdg (cut_at hg) kk
theorem rs_cups (G : zG D y X cc own rm nm Ts) {g : Nat} (hg : g < 9) (hdg : decode cc pc = .ok (.iastore, 1)) {x : Int32} (kk : zV D X (rmW y a (upd f (17 + 17 * g) x) rk) k n (pc + 1) lv st) : zV D X (rmW y a f rk) k n pc lv (.int x :: .int (nI g) :: .ref (a 4) :: st) := z_iast G 4 rfl hg (by decide) hdg _ (by
  have h : ∀ j, j ≠ (17 + 17 * g) → f j = upd f (17 + 17 * g) x j := fun j hj => (upd_ne hj).symm
  have e0 : cut 4 f = cut 4 (upd f (17 + 17 * g) x) := cut_eq fun j hj => h _ (by omega)
  have e1 : cut 9 (fun h => f (15 + 17 * h)) = cut 9 (fun h => upd f (17 + 17 * g) x (15 + 17 * h)) := cut_eq fun j hj => h _ (by omega)
  have e2 : cut 9 (fun h => f (16 + 17 * h)) = cut 9 (fun h => upd f (17 + 17 * g) x (16 + 17 * h)) := cut_eq fun j hj => h _ (by omega)
  have e3 : upd (cut 9 (fun h => f (17 + 17 * h))) g x = cut 9 (fun h => upd f (17 + 17 * g) x (17 + 17 * h)) := by
    refine (cut_upd hg).trans (cut_eq fun j hj => ?_)
    by_cases e : j = g
    · subst e
      first
        | rfl
        | exact upd_at.trans upd_at.symm
    · first
        | rfl
        | exact (upd_ne e).trans (upd_ne (by omega)).symm
  have e4 : cut 9 (fun h => f (18 + 17 * h)) = cut 9 (fun h => upd f (17 + 17 * g) x (18 + 17 * h)) := cut_eq fun j hj => h _ (by omega)
  have e5 : cut 9 (fun h => f (19 + 17 * h)) = cut 9 (fun h => upd f (17 + 17 * g) x (19 + 17 * h)) := cut_eq fun j hj => h _ (by omega)
  have e6 : cut 9 (fun h => f (14 + 17 * h)) = cut 9 (fun h => upd f (17 + 17 * g) x (14 + 17 * h)) := cut_eq fun j hj => h _ (by omega)
  have e8 : cut 81 (fun c => f (o_at c)) = cut 81 (fun c => upd f (17 + 17 * g) x (o_at c)) := cut_eq fun j hj => h _ (by unfold o_at; omega)
  have e9 : cut 9 (fun h => f (20 + 17 * h)) = cut 9 (fun h => upd f (17 + 17 * g) x (20 + 17 * h)) := cut_eq fun j hj => h _ (by omega)
  unfold rmW rmH bwW
  rw [← e0, ← e1, ← e2, ← e3, ← e4, ← e5, ← e6, ← e8, ← e9, ← h 4 (by omega), ← h 5 (by omega), ← h 6 (by omega), ← h 7 (by omega), ← h 8 (by omega), ← h 9 (by omega), ← h 10 (by omega), ← h 11 (by omega), ← h 12 (by omega)]
  rfl) kk
theorem rl_sighs (G : zG D y X cc own rm nm Ts) {g : Nat} (hg : g < 9) (hdg : decode cc pc = .ok (.iaload, 1)) (kk : zV D X (rmW y a f rk) k n (pc + 1) lv (.int (f (18 + 17 * g)) :: st)) : zV D X (rmW y a f rk) k n pc lv (.int (nI g) :: .ref (a 5) :: st) := z_iald G 5 rfl hg (by decide) hdg (cut_at hg) kk
theorem rs_sighs (G : zG D y X cc own rm nm Ts) {g : Nat} (hg : g < 9) (hdg : decode cc pc = .ok (.iastore, 1)) {x : Int32} (kk : zV D X (rmW y a (upd f (18 + 17 * g) x) rk) k n (pc + 1) lv st) : zV D X (rmW y a f rk) k n pc lv (.int x :: .int (nI g) :: .ref (a 5) :: st) := z_iast G 5 rfl hg (by decide) hdg _ (by
  have h : ∀ j, j ≠ (18 + 17 * g) → f j = upd f (18 + 17 * g) x j := fun j hj => (upd_ne hj).symm
  have e0 : cut 4 f = cut 4 (upd f (18 + 17 * g) x) := cut_eq fun j hj => h _ (by omega)
  have e1 : cut 9 (fun h => f (15 + 17 * h)) = cut 9 (fun h => upd f (18 + 17 * g) x (15 + 17 * h)) := cut_eq fun j hj => h _ (by omega)
  have e2 : cut 9 (fun h => f (16 + 17 * h)) = cut 9 (fun h => upd f (18 + 17 * g) x (16 + 17 * h)) := cut_eq fun j hj => h _ (by omega)
  have e3 : cut 9 (fun h => f (17 + 17 * h)) = cut 9 (fun h => upd f (18 + 17 * g) x (17 + 17 * h)) := cut_eq fun j hj => h _ (by omega)
  have e4 : upd (cut 9 (fun h => f (18 + 17 * h))) g x = cut 9 (fun h => upd f (18 + 17 * g) x (18 + 17 * h)) := by
    refine (cut_upd hg).trans (cut_eq fun j hj => ?_)
    by_cases e : j = g
    · subst e
      first
        | rfl
        | exact upd_at.trans upd_at.symm
    · first
        | rfl
        | exact (upd_ne e).trans (upd_ne (by omega)).symm
  have e5 : cut 9 (fun h => f (19 + 17 * h)) = cut 9 (fun h => upd f (18 + 17 * g) x (19 + 17 * h)) := cut_eq fun j hj => h _ (by omega)
  have e6 : cut 9 (fun h => f (14 + 17 * h)) = cut 9 (fun h => upd f (18 + 17 * g) x (14 + 17 * h)) := cut_eq fun j hj => h _ (by omega)
  have e8 : cut 81 (fun c => f (o_at c)) = cut 81 (fun c => upd f (18 + 17 * g) x (o_at c)) := cut_eq fun j hj => h _ (by unfold o_at; omega)
  have e9 : cut 9 (fun h => f (20 + 17 * h)) = cut 9 (fun h => upd f (18 + 17 * g) x (20 + 17 * h)) := cut_eq fun j hj => h _ (by omega)
  unfold rmW rmH bwW
  rw [← e0, ← e1, ← e2, ← e3, ← e4, ← e5, ← e6, ← e8, ← e9, ← h 4 (by omega), ← h 5 (by omega), ← h 6 (by omega), ← h 7 (by omega), ← h 8 (by omega), ← h 9 (by omega), ← h 10 (by omega), ← h 11 (by omega), ← h 12 (by omega)]
  rfl) kk
theorem rl_words (G : zG D y X cc own rm nm Ts) {g : Nat} (hg : g < 9) (hdg : decode cc pc = .ok (.iaload, 1)) (kk : zV D X (rmW y a f rk) k n (pc + 1) lv (.int (f (19 + 17 * g)) :: st)) : zV D X (rmW y a f rk) k n pc lv (.int (nI g) :: .ref (a 6) :: st) := z_iald G 6 rfl hg (by decide) hdg (cut_at hg) kk
theorem rs_words (G : zG D y X cc own rm nm Ts) {g : Nat} (hg : g < 9) (hdg : decode cc pc = .ok (.iastore, 1)) {x : Int32} (kk : zV D X (rmW y a (upd f (19 + 17 * g) x) rk) k n (pc + 1) lv st) : zV D X (rmW y a f rk) k n pc lv (.int x :: .int (nI g) :: .ref (a 6) :: st) := z_iast G 6 rfl hg (by decide) hdg _ (by
  have h : ∀ j, j ≠ (19 + 17 * g) → f j = upd f (19 + 17 * g) x j := fun j hj => (upd_ne hj).symm
  have e0 : cut 4 f = cut 4 (upd f (19 + 17 * g) x) := cut_eq fun j hj => h _ (by omega)
  have e1 : cut 9 (fun h => f (15 + 17 * h)) = cut 9 (fun h => upd f (19 + 17 * g) x (15 + 17 * h)) := cut_eq fun j hj => h _ (by omega)
  have e2 : cut 9 (fun h => f (16 + 17 * h)) = cut 9 (fun h => upd f (19 + 17 * g) x (16 + 17 * h)) := cut_eq fun j hj => h _ (by omega)
  have e3 : cut 9 (fun h => f (17 + 17 * h)) = cut 9 (fun h => upd f (19 + 17 * g) x (17 + 17 * h)) := cut_eq fun j hj => h _ (by omega)
  have e4 : cut 9 (fun h => f (18 + 17 * h)) = cut 9 (fun h => upd f (19 + 17 * g) x (18 + 17 * h)) := cut_eq fun j hj => h _ (by omega)
  have e5 : upd (cut 9 (fun h => f (19 + 17 * h))) g x = cut 9 (fun h => upd f (19 + 17 * g) x (19 + 17 * h)) := by
    refine (cut_upd hg).trans (cut_eq fun j hj => ?_)
    by_cases e : j = g
    · subst e
      first
        | rfl
        | exact upd_at.trans upd_at.symm
    · first
        | rfl
        | exact (upd_ne e).trans (upd_ne (by omega)).symm
  have e6 : cut 9 (fun h => f (14 + 17 * h)) = cut 9 (fun h => upd f (19 + 17 * g) x (14 + 17 * h)) := cut_eq fun j hj => h _ (by omega)
  have e8 : cut 81 (fun c => f (o_at c)) = cut 81 (fun c => upd f (19 + 17 * g) x (o_at c)) := cut_eq fun j hj => h _ (by unfold o_at; omega)
  have e9 : cut 9 (fun h => f (20 + 17 * h)) = cut 9 (fun h => upd f (19 + 17 * g) x (20 + 17 * h)) := cut_eq fun j hj => h _ (by omega)
  unfold rmW rmH bwW
  rw [← e0, ← e1, ← e2, ← e3, ← e4, ← e5, ← e6, ← e8, ← e9, ← h 4 (by omega), ← h 5 (by omega), ← h 6 (by omega), ← h 7 (by omega), ← h 8 (by omega), ← h 9 (by omega), ← h 10 (by omega), ← h 11 (by omega), ← h 12 (by omega)]
  rfl) kk
theorem rl_seats (G : zG D y X cc own rm nm Ts) {g : Nat} (hg : g < 9) (hdg : decode cc pc = .ok (.iaload, 1)) (kk : zV D X (rmW y a f rk) k n (pc + 1) lv (.int (f (14 + 17 * g)) :: st)) : zV D X (rmW y a f rk) k n pc lv (.int (nI g) :: .ref (a 7) :: st) := z_iald G 7 rfl hg (by decide) hdg (cut_at hg) kk
theorem rs_seats (G : zG D y X cc own rm nm Ts) {g : Nat} (hg : g < 9) (hdg : decode cc pc = .ok (.iastore, 1)) {x : Int32} (kk : zV D X (rmW y a (upd f (14 + 17 * g) x) rk) k n (pc + 1) lv st) : zV D X (rmW y a f rk) k n pc lv (.int x :: .int (nI g) :: .ref (a 7) :: st) := z_iast G 7 rfl hg (by decide) hdg _ (by
  have h : ∀ j, j ≠ (14 + 17 * g) → f j = upd f (14 + 17 * g) x j := fun j hj => (upd_ne hj).symm
  have e0 : cut 4 f = cut 4 (upd f (14 + 17 * g) x) := cut_eq fun j hj => h _ (by omega)
  have e1 : cut 9 (fun h => f (15 + 17 * h)) = cut 9 (fun h => upd f (14 + 17 * g) x (15 + 17 * h)) := cut_eq fun j hj => h _ (by omega)
  have e2 : cut 9 (fun h => f (16 + 17 * h)) = cut 9 (fun h => upd f (14 + 17 * g) x (16 + 17 * h)) := cut_eq fun j hj => h _ (by omega)
  have e3 : cut 9 (fun h => f (17 + 17 * h)) = cut 9 (fun h => upd f (14 + 17 * g) x (17 + 17 * h)) := cut_eq fun j hj => h _ (by omega)
  have e4 : cut 9 (fun h => f (18 + 17 * h)) = cut 9 (fun h => upd f (14 + 17 * g) x (18 + 17 * h)) := cut_eq fun j hj => h _ (by omega)
  have e5 : cut 9 (fun h => f (19 + 17 * h)) = cut 9 (fun h => upd f (14 + 17 * g) x (19 + 17 * h)) := cut_eq fun j hj => h _ (by omega)
  have e6 : upd (cut 9 (fun h => f (14 + 17 * h))) g x = cut 9 (fun h => upd f (14 + 17 * g) x (14 + 17 * h)) := by
    refine (cut_upd hg).trans (cut_eq fun j hj => ?_)
    by_cases e : j = g
    · subst e
      first
        | rfl
        | exact upd_at.trans upd_at.symm
    · first
        | rfl
        | exact (upd_ne e).trans (upd_ne (by omega)).symm
  have e8 : cut 81 (fun c => f (o_at c)) = cut 81 (fun c => upd f (14 + 17 * g) x (o_at c)) := cut_eq fun j hj => h _ (by unfold o_at; omega)
  have e9 : cut 9 (fun h => f (20 + 17 * h)) = cut 9 (fun h => upd f (14 + 17 * g) x (20 + 17 * h)) := cut_eq fun j hj => h _ (by omega)
  unfold rmW rmH bwW
  rw [← e0, ← e1, ← e2, ← e3, ← e4, ← e5, ← e6, ← e8, ← e9, ← h 4 (by omega), ← h 5 (by omega), ← h 6 (by omega), ← h 7 (by omega), ← h 8 (by omega), ← h 9 (by omega), ← h 10 (by omega), ← h 11 (by omega), ← h 12 (by omega)]
  rfl) kk
theorem rl_ranks (G : zG D y X cc own rm nm Ts) {g : Nat} (hg : g < 9) (hdg : decode cc pc = .ok (.iaload, 1)) (kk : zV D X (rmW y a f rk) k n (pc + 1) lv (.int (rk g) :: st)) : zV D X (rmW y a f rk) k n pc lv (.int (nI g) :: .ref (a 8) :: st) := z_iald G 8 rfl hg (by decide) hdg (cut_at hg) kk
theorem rs_ranks (G : zG D y X cc own rm nm Ts) {g : Nat} (hg : g < 9) (hdg : decode cc pc = .ok (.iastore, 1)) {x : Int32} (kk : zV D X (rmW y a f (upd rk g x)) k n (pc + 1) lv st) : zV D X (rmW y a f rk) k n pc lv (.int x :: .int (nI g) :: .ref (a 8) :: st) := z_iast G 8 rfl hg (by decide) hdg _ (by
  unfold rmW rmH
  rw [← cut_upd hg]
  rfl) kk
end ZR
