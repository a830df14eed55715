/-! the law's own rows -/
def scX (b L : Nat) (xs : Nat → Int32) (X : zX) : Prop :=
  match X with
  | (p, l, e, R, s, m, args, below, meth, c, A, Q, nL) => va_X b L xs s s.heap ∧ b < s.heap.size ∧ ¬ A b
section ZL
variable {D : va_G} {y : Nat → ClassId} {X : zX} {cc : ByteArray} {own : String} {rm : Room} {nm : Nat} {Ts : List Cond} {ws : va_W} {k n pc : Nat} {lv : List (Nat × Value)} {st : List Value}
theorem z_sld (G : zG D y X cc own rm nm Ts) {b L : Nat} {xs : Nat → Int32} (hX : scX b L xs X) {i : Nat} (hi : i < L) (hL : L ≤ 1536) (hdg : decode cc pc = .ok (.iaload, 1)) (kk : zV D X ws k n (pc + 1) lv (.int (xs i) :: st)) : zV D X ws k n pc lv (.int (nI i) :: .ref b :: st) := by
  obtain ⟨p, l, e, R, s, m, args, below, meth, c, A, Q, nL⟩ := X
  obtain ⟨hx, hb, hml, hown, hts, hK, hA, rfl, rfl⟩ := G
  intro H locs ls hP hD hS hl
  exact va_sld hx hb hX.1 hX.2.1 hX.2.2 hS (vp_in_nI hi (by omega)) hdg (by rw [nI_clamp (by omega)]; exact kk H locs ls hP hD hS hl)
theorem z_slen (G : zG D y X cc own rm nm Ts) {b L : Nat} {xs : Nat → Int32} (hX : scX b L xs X) (hdg : decode cc pc = .ok (.arraylength, 1)) (kk : zV D X ws k n (pc + 1) lv (.int (nI L) :: st)) : zV D X ws k n pc lv (.ref b :: st) := by
  obtain ⟨p, l, e, R, s, m, args, below, meth, c, A, Q, nL⟩ := X
  obtain ⟨hx, hb, hml, hown, hts, hK, hA, rfl, rfl⟩ := G
  intro H locs ls hP hD hS hl
  exact va_slen hx hb hX.1 hX.2.1 hX.2.2 hS hdg (kk H locs ls hP hD hS hl)
theorem z_lN {v : Int64} (kk : ∀ i : Nat, i < 2 ^ 64 → v = lN i → zV D X ws k n pc lv (.long (lN i) :: st)) : zV D X ws k n pc lv (.long v :: st) := by
  obtain ⟨i, hi, rfl⟩ := wb_of v
  exact kk i hi rfl
theorem z_qVi (G : zG D y X cc own rm nm Ts) {wc wr : va_W} {rest As : List Value} {b : Addr} {idx na : Nat} {yn : MethodName} {bytes : ByteArray} {maxL : Nat} {ret : Option FieldType} {wm : List Cond} {rm2 : Room} {Post : Int32 → va_W → Prop}
    (hM : ∀ l, zMi l D y yn wm rm2 (.ref b :: As) wc Post) (hk : zCal yn wm bytes maxL ret na) (hg : GoodIn Ts (wsV own idx yn.cls yn wm)) (q0 ci : Nat) {fs : List Value} {qc : vw_C} (hr : wc[q0]? = some (b, .inr (ci, fs))) (hc : vwCl[ci]? = some qc) (hcn : qc.1 = yn.cls) (hdg : decode cc pc = .ok (.invokevirtual idx, 3)) (hR : rm2.frames + 1 ≤ rm.frames ∧ 8 + (maxL + 11) + rm2.locals ≤ rm.locals) (hz : rm2.cells = 0 ∧ rm2.slots = 0) (hfit : k ≤ rm.cells ∧ n ≤ rm.slots) (hn : As.length = na) (hcat : (rest.map fun v => v.category).sum ≤ 8) (hst : st = (As.reverse ++ .ref b :: rest))
    (kk : ∀ (r : Int32) (w1 : va_W), Post r w1 → zV D X (w1 ++ wr) k n (pc + 3) lv (.int r :: rest)) : zV D X (wc ++ wr) k n pc lv st := by
  obtain ⟨h1, h2⟩ := hz
  exact z_callVi G (wc := wc) (wr := wr) hM hk hg q0 ci hr hc hcn hdg hR (by rw [h1, h2]; exact hfit) hn hcat st hst (fun r1 w2 h => (by rw [h1, h2]; exact kk r1 w2 h))
end ZL
theorem sc_gt {L j : Nat} (hL : L ≤ 1536) (hj : 3 * j ≤ L) : (nI L - nI 3 < nI (3 * j)) ↔ ¬ 3 * j + 3 ≤ L := by
  rw [Int32.lt_iff_toInt_lt, pk_sub_toInt (by omega) (by decide), nI_toInt (by omega)]
  omega
def LI (D : va_G) (y : Nat → ClassId) (X : zX) (e A : Nat → Nat → Nat) (b : Nat → Nat) (bb j : Nat) : Prop := ∀ (R Q Gr K : Nat → Nat → Int32) (b0 b1 : Bool) (nx kp : Nat) (t : Nat → Int32) (len : Nat) (s : Nat → Int32) (q : mdQ), LK R Gr b0 b1 nx kp t len s q →
  zV D X (tsW y e A R Q b0 b1 nx kp Gr K t len ++ mdW y b s q) 150 4112 18 [(0, .ref bb), (1, .ref (e 0 0)), (2, .ref (b 0)), (3, .int (nI (3 * j)))] []
theorem lw_nx {D : va_G} {y : Nat → ClassId} {X : zX} {ws : va_W} {bb u v j : Nat} (G : zG D y X cL_law RL room_1 4 wsL_law) (kk : zV D X ws 150 4112 18 [(0, .ref bb), (1, .ref u), (2, .ref v), (3, .int (nI (3 * (j + 1))))] []) : zV D X ws 150 4112 797 [(0, .ref bb), (1, .ref u), (2, .ref v), (3, .int (nI (3 * j)))] [] := by
  refine z_iinc G dL_law_797 3 rfl (nI (3 * (j + 1))) (by rw [Nat.mul_succ]; exact nI_add _ _) (by decide) rfl ?_
  exact z_goto (tgt := 18) G dL_law_800 (by decide) kk
theorem ts_ag {y : Nat → ClassId} {e A : Nat → Nat → Nat} {R R2 Q : Nat → Nat → Int32} {b0 b1 : Bool} {nx kp : Nat} {Gr K : Nat → Nat → Int32} {t : Nat → Int32} {len : Nat} (h1 : agF (R 1) (R2 1)) (h : ∀ i, i ≠ 1 → R i = R2 i) : tsW y e A R Q b0 b1 nx kp Gr K t len = tsW y e A R2 Q b0 b1 nx kp Gr K t len := by
  unfold tsW tsB
  rw [rm_ag (y := y) (a := e 1) (k := Q 1) h1, h 2 (by decide), h 3 (by decide), h 5 (by decide), h 7 (by decide)]
theorem upG_ag {R : Nat → Nat → Int32} {g f : Nat → Int32} (h : agF g f) : agF (upG R 1 g 1) (upG R 1 f 1) := h
theorem upG_ot {R : Nat → Nat → Int32} {g f : Nat → Int32} : ∀ i, i ≠ 1 → upG R 1 g i = upG R 1 f i := fun i hi => by rw [upG_ne hi, upG_ne hi]
section LKs
variable {R Gr : Nat → Nat → Int32} {b0 b1 : Bool} {nx kp : Nat} {t : Nat → Int32} {len : Nat} {s : Nat → Int32} {q : mdQ}
theorem LK_ps (h : LK R Gr b0 b1 nx kp t len s q) : ∀ k, k < 2 → ¬ q_isSaved q k = 0 → PF (svF (q_saved q) k) := by
  obtain ⟨-, -, -, h10, h11⟩ := h
  intro k hk hs
  rcases (by omega : k = 0 ∨ k = 1) with rfl | rfl
  · cases b0 with
    | false => exact absurd h10.1 hs
    | true => exact (h10.2 rfl).2.pf
  · cases b1 with
    | false => exact absurd h11.1 hs
    | true => exact (h11.2 rfl).2.pf
theorem LK_set (h : LK R Gr b0 b1 nx kp t len (R 1) q) (x v : Int32) : LK (upG (upG R 2 (R 1)) 1 ((seR (R 1) x v).2)) (rcG Gr nx (R 1) ((seR (R 1) x v).1)) b0 b1 (rcN nx ((seR (R 1) x v).1)) (rcP kp ((seR (R 1) x v).1)) t len ((seR (R 1) x v).2) (seQ (R 1) q kp x v) := by
  have hl := h.2.1.2.1
  have h8 := h.2.1.2.2
  by_cases c : seB x v = true
  · have e : seR (R 1) x v = (R 1 x.toNatClampNeg, upd (R 1) x.toNatClampNeg v) := by rw [seR, if_pos c]
    rw [e, seQ, if_pos c]
    exact LK_rec h (q1 := qs_spare q (R 1)) rfl rfl rfl rfl rfl hl h8 rfl (IV_set h.1.2 c) _
  · have e : seR (R 1) x v = (-2, R 1) := by rw [seR, if_neg c]
    have m : ¬ (0 : Int32) ≤ -2 := by decide
    rw [e, seQ, if_neg c]
    show LK (upG (upG R 2 (R 1)) 1 (R 1)) (rcG Gr nx (R 1) (-2)) b0 b1 (rcN nx (-2)) (rcP kp (-2)) t len (R 1) q
    rw [rcG, rcN, rcP, if_neg m, if_neg m, if_neg m]
    exact LK_q h rfl rfl rfl rfl rfl rfl rfl rfl rfl
theorem LK_ch (h : LK R Gr b0 b1 nx kp t len (R 1) q) {f2 : Nat → Int32} (hf : IV f2) (r : Int32) : LK (upG (upG R 2 (R 1)) 1 f2) (rcG Gr nx (R 1) r) b0 b1 (rcN nx r) (rcP kp r) t len f2 (rcQ (qs_spare q (R 1)) kp r) :=
  LK_rec h (q1 := qs_spare q (R 1)) rfl rfl rfl rfl rfl h.2.1.2.1 h.2.1.2.2 rfl hf r
theorem LK_ro (h : LK R Gr b0 b1 nx kp t len (R 1) q) {f2 : Nat → Int32} (hf : IV f2) (r : Int32) (c : Nat) : LK (upG (upG R 2 (R 1)) 1 f2) (rcG Gr nx (R 1) r) b0 b1 (rcN nx r) (rcP kp r) t len f2 (rcQ (roQ (R 1) c (qs_spare q (R 1))) kp r) := by
  obtain ⟨a1, a2, a3, a4, a5, a6, a7, a8, a9, a10⟩ := smQ_ro (R 1) c (qs_spare q (R 1))
  exact LK_rec h a1 a3 a4 a5 a7 (a8.trans h.2.1.2.1) h.2.1.2.2 a9 hf r
theorem LK_sa (h : LK R Gr b0 b1 nx kp t len (R 1) q) {f2 : Nat → Int32} (hf : IV f2) (r : Int32) (v : Nat → Int32) : LK (upG (upG R 2 (R 1)) 1 f2) (rcG Gr nx (R 1) r) b0 b1 (rcN nx r) (rcP kp r) t len f2 (rcQ (qs_ranks (qs_spare q (R 1)) v) kp r) :=
  LK_rec h (q1 := qs_ranks (qs_spare q (R 1)) v) rfl rfl rfl rfl rfl h.2.1.2.1 h.2.1.2.2 rfl hf r
theorem LK_tr (h : LK R Gr b0 b1 nx kp t len (R 1) q) (g3 : Nat → Int32) (c : Prop) [inst : Decidable c] : LK (upG R 3 g3) Gr b0 b1 nx kp t len (R 1) (if c then qs_trial q (R 1) else q) := by
  split
  · exact LK_q h rfl rfl rfl rfl rfl rfl rfl rfl rfl
  · exact LK_q h rfl rfl rfl rfl rfl rfl rfl rfl rfl
theorem LK_iw (h : LK R Gr b0 b1 nx kp t len (R 1) q) (g3 : Nat → Int32) (x : Int32) : LK (if hx (R 1) x = true then upG R 3 g3 else R) Gr b0 b1 nx kp t len (R 1) (if hx (R 1) x = true then qs_trial q (R 1) else q) := by
  by_cases c : hx (R 1) x = true
  · rw [if_pos c, if_pos c]
    exact LK_q h rfl rfl rfl rfl rfl rfl rfl rfl rfl
  · rw [if_neg c, if_neg c]
    exact h
theorem LK_ir (h : LK R Gr b0 b1 nx kp t len (R 1) q) (g3 : Nat → Int32) (c : Nat) (x : Int32) : LK (upG R 3 g3) Gr b0 b1 nx kp t len (R 1) (irQ (R 1) c q x) := by
  unfold irQ
  split
  · exact LK_q h rfl rfl rfl rfl rfl rfl rfl rfl rfl
  · exact LK_q h rfl rfl rfl rfl rfl rfl rfl rfl rfl
theorem LK_cl (h : LK R Gr b0 b1 nx kp t len (R 1) q) (g3 : Nat → Int32) : LK (upG R 3 g3) Gr b0 b1 nx kp t len (R 1) (if ng (R 1) = 0 then q else qs_trial q (R 1)) := by
  split
  · exact LK_q h rfl rfl rfl rfl rfl rfl rfl rfl rfl
  · exact LK_q h rfl rfl rfl rfl rfl rfl rfl rfl rfl
theorem LK_fa (h : LK R Gr b0 b1 nx kp t len (R 1) q) (S : fS) : LK R Gr b0 b1 nx kp t len (R 1) (fQ q S) := LK_q h rfl rfl rfl rfl rfl rfl rfl rfl rfl
theorem ca_no {s : Nat → Int32} (h80 : len ≤ 80) (hf : ¬ ffR (q_pad q) len = -6) : caR s q len = -3 ∧ caF s q len = s ∧ caQ s q len kp = fQ q (caE q len) := by
  have n : ¬ (caE q len).1 = true := fun z => hf ((ff_T h80 (q_read q)).mpr z)
  rw [caR, caF, caQ, if_neg n, if_neg n, if_neg n]
  exact ⟨rfl, rfl, rfl⟩
theorem ca_yes {s : Nat → Int32} (h80 : len ≤ 80) (hf : ffR (q_pad q) len = -6) : caR s q len = nI (oxE (q_pad q) len s).1 ∧ caF s q len = (oxE (q_pad q) len s).2 ∧ caQ s q len kp = rcQ (qs_length (caS s q len).2.2 (nI 0)) kp (nI (oxE (q_pad q) len s).1) := by
  have n : (caE q len).1 = true := (ff_T h80 (q_read q)).mp hf
  have e := ca_ox h80 s n
  have e1 : (caS s q len).1 = (oxE (q_pad q) len s).1 := congrArg Prod.fst e
  have e2 : (caS s q len).2.1 = (oxE (q_pad q) len s).2 := congrArg Prod.snd e
  rw [caR, caF, caQ, if_pos n, if_pos n, if_pos n, ← e1, ← e2]
  exact ⟨rfl, rfl, rfl⟩
theorem oxS_iv {t : Nat → Int32} {len : Nat} : ∀ n (S : Nat × (Nat → Int32)), IV S.2 → IV (oxS t len n S).2
  | 0, S, h => h
  | n + 1, S, h => by
    rw [oxS]
    split
    · exact oxS_iv n (S.1 + 1, (obA t len S.2 S.1).2) (IV_ob h _ _ _ _)
    · exact IV_ob h _ _ _ _
theorem LK_ca (h : LK R Gr b0 b1 nx kp t len (R 1) q) (hf : ffR (q_pad q) len = -6) : LK (upG (upG R 2 (R 1)) 1 ((oxE (q_pad q) len (R 1)).2)) (upG Gr nx (R 1)) b0 b1 (nxS nx) (kpS kp) t 0 (caF (R 1) q len) (caQ (R 1) q len kp) := by
  have h80 := h.2.1.2.2
  obtain ⟨-, c2, c3⟩ := ca_yes (kp := kp) (s := R 1) h80 hf
  obtain ⟨-, ⟨a1, a2, a3, a4, a5, a6, a7, a8, a9, a10⟩, -, -⟩ := exS_ok (caE q len).2.2.1 (0, R 1, qs_spare (fQ q (caE q len)) (R 1)) h.1.2
  have r0 : 0 ≤ nI (oxE (q_pad q) len (R 1)).1 := nI_pos' (by have := oxE_le (q_pad q) len (R 1); omega)
  have k := LK_rec h (q1 := qs_length (caS (R 1) q len).2.2 (nI 0)) (len2 := 0) a1 a3 a4 a5 a7 rfl (by decide) a9 (f2 := (oxE (q_pad q) len (R 1)).2) (oxS_iv _ (0, R 1) h.1.2) (nI (oxE (q_pad q) len (R 1)).1)
  rw [c2, c3]
  rw [rcG, rcN, rcP, if_pos r0, if_pos r0, if_pos r0] at k
  exact k
theorem rs_ok {k : Nat} (hk : k < 2) (hi : q_isSaved q k = nI 1) : rsB q (nI k) = true := by
  rw [rsB, s01_n hk, nI_clamp (by omega), hi]
  decide
theorem LK_re0 (h : LK R Gr true b1 nx kp t len (R 1) q) : LK (upG (upG R 2 (R 1)) 1 (svF (q_saved q) 0)) (rcG Gr nx (R 1) (nI (ng (R 5)))) true b1 (rcN nx (nI (ng (R 5)))) (rcP kp (nI (ng (R 5)))) t len (rsS (R 1) q (nI 0)) (rsQ (R 1) q kp (nI 0)) := by
  have k := LK_ch h (h.2.2.2.1.2 rfl).2 (nI (ng (R 5)))
  have hb := rs_ok (q := q) (k := 0) (by decide) h.2.2.2.1.1
  have r0 : 0 ≤ nI (ng (R 5)) := nI_pos' (by have := ng_le (R 5); omega)
  rw [rcQ, if_pos r0] at k
  rw [rsS, rsQ, if_pos hb, if_pos hb, nI_clamp (by decide)]
  exact k
theorem LK_re1 (h : LK R Gr b0 true nx kp t len (R 1) q) : LK (upG (upG R 2 (R 1)) 1 (svF (q_saved q) 1)) (rcG Gr nx (R 1) (nI (ng (R 7)))) b0 true (rcN nx (nI (ng (R 7)))) (rcP kp (nI (ng (R 7)))) t len (rsS (R 1) q (nI 1)) (rsQ (R 1) q kp (nI 1)) := by
  have k := LK_ch h (h.2.2.2.2.2 rfl).2 (nI (ng (R 7)))
  have hb := rs_ok (q := q) (k := 1) (by decide) h.2.2.2.2.1
  have r0 : 0 ≤ nI (ng (R 7)) := nI_pos' (by have := ng_le (R 7); omega)
  rw [rcQ, if_pos r0] at k
  rw [rsS, rsQ, if_pos hb, if_pos hb, nI_clamp (by decide)]
  exact k
theorem rs_no {k : Nat} (hk : k < 2) (hi : q_isSaved q k = nI 0) : rsR q (nI k) = -5 ∧ rsS s q (nI k) = s ∧ rsQ s q kp (nI k) = q := by
  have hb : ¬ rsB q (nI k) = true := by
    rw [rsB, nI_clamp (by omega), hi, s01_n hk]
    decide
  rw [rsR, rsS, rsQ, if_neg hb, if_neg hb, if_pos (s01_n hk), nI_clamp (by omega), hi]
  exact ⟨rfl, rfl, rfl⟩
theorem rs_yes {k : Nat} (hk : k < 2) (hi : q_isSaved q k = nI 1) : rsR q (nI k) = nI (ng (svF (q_saved q) k)) := by
  rw [rsR, if_pos (s01_n hk), nI_clamp (by omega), hi]
  rfl
theorem rs_out {x : Int32} (h : s01 x = false) : rsR q x = -2 ∧ rsS s q x = s ∧ rsQ s q kp x = q := by
  have hb : ¬ rsB q x = true := by
    rw [rsB, h, Bool.false_and]
    decide
  rw [rsR, rsS, rsQ, if_neg hb, if_neg hb, h]
  exact ⟨rfl, rfl, rfl⟩
theorem sa_out {x : Int32} (h : s01 x = false) : saR s x = -2 ∧ saQ s q x = q := by
  rw [saR, saQ, h]
  exact ⟨rfl, rfl⟩
theorem sa_in {k : Nat} (hk : k < 2) : saR s (nI k) = nI (ng s) ∧ saQ s q (nI k) = qs_isSaved (qs_saved q (plF (q_saved q) s k 166)) (upd (q_isSaved q) k (nI 1)) := by
  rw [saR, saQ, if_pos (s01_n hk), if_pos (s01_n hk), nI_clamp (by omega)]
  exact ⟨rfl, rfl⟩
end LKs
