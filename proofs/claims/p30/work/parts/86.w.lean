/-! the law's world: one object whose room is f; sv: what its slot 1 keeps; k0: how many states are kept at least -/
def TW (y : Nat → ClassId) (o : Nat) (f : Nat → Int32) (sv : Option (Nat → Int32)) (k0 : Nat) (w : va_W) : Prop := ∃ (e A : Nat → Nat → Nat) (R Q : Nat → Nat → Int32) (b0 b1 : Bool) (nx kp : Nat) (Gr K : Nat → Nat → Int32) (t : Nat → Int32), e 0 0 = o ∧ w = tsW y e A R Q b0 b1 nx kp Gr K t 0 ∧ R 1 = f ∧ nx < 6 ∧ k0 ≤ kp ∧ kp ≤ 6 ∧ ∀ s, sv = some s → b1 = true ∧ R 7 = s
theorem TW.at0 {y : Nat → ClassId} {o : Nat} {f : Nat → Int32} {sv : Option (Nat → Int32)} {k0 : Nat} {w : va_W} (h : TW y o f sv k0 w) : ∃ fs, w[0]? = some (o, .inr (5, fs)) := by
  obtain ⟨e, A, R, Q, b0, b1, nx, kp, Gr, K, t, rfl, rfl, -⟩ := h
  exact ⟨_, rfl⟩
theorem zMi.imp {l : Launch} {D : va_G} {y : Nat → ClassId} {yn : MethodName} {wm : List Cond} {rm : Room} {av : List Value} {w0 : va_W} {P P' : Int32 → va_W → Prop} (h : zMi l D y yn wm rm av w0 P) (k : ∀ r w, P r w → P' r w) : zMi l D y yn wm rm av w0 P' := fun sz =>
  Jvm.Free.MetFree.mono (h sz) (fun _ _ p => p) (fun _ _ _ _ _ p => p) (fun a s o s' _ q => by
    obtain ⟨⟨⟨r, u, e, p, b⟩, F⟩, L⟩ := q
    exact ⟨⟨⟨r, u, e, k r u p, b⟩, F⟩, L⟩)
theorem zMiS.imp {l : Launch} {D : va_G} {y : Nat → ClassId} {t : Nat} {yn : MethodName} {wm : List Cond} {rm : Room} {av : List Value} {w0 : va_W} {P P' : Int32 → va_W → Prop} (h : zMiS l D y t yn wm rm av w0 P) (k : ∀ r w, P r w → P' r w) : zMiS l D y t yn wm rm av w0 P' := fun sz =>
  Jvm.Free.MetFree.mono (h sz) (fun _ _ p => p) (fun _ _ _ _ _ p => p) (fun a s o s' _ q => by
    obtain ⟨⟨⟨r, u, e, p, b⟩, F⟩, L⟩ := q
    exact ⟨⟨⟨r, u, e, k r u p, b⟩, F⟩, L⟩)
/-- a method of the law's world: from the room f it answers r0 and leaves the room f' -/
def LC (D : va_G) (y : Nat → ClassId) (yn : MethodName) (wm : List Cond) (rm : Room) (As : List Value) (f : Nat → Int32) (r0 : Int32) (f' : Nat → Int32) : Prop := ∀ (o : Nat) (sv : Option (Nat → Int32)) (k0 : Nat) (w : va_W), TW y o f sv k0 w → ∀ l, zMi l D y yn wm rm (.ref o :: As) w (fun r w' => r = r0 ∧ TW y o f' sv k0 w')
theorem rcN_lt {nx : Nat} (h : nx < 6) (r : Int32) : rcN nx r < 6 := by
  unfold rcN
  split
  · exact nxS_lt h
  · exact h
theorem kpS_le {kp : Nat} : kp ≤ 6 → kp ≤ kpS kp ∧ kpS kp ≤ 6 ∧ 1 ≤ kpS kp := by
  intro h
  unfold kpS
  split <;> omega
theorem rcP_le {kp : Nat} (h : kp ≤ 6) (r : Int32) : kp ≤ rcP kp r ∧ rcP kp r ≤ 6 := by
  unfold rcP
  split
  · exact ⟨(kpS_le h).1, (kpS_le h).2.1⟩
  · exact ⟨Nat.le_refl _, h⟩
section LCs
variable {D : va_G} {y : Nat → ClassId} {f : Nat → Int32}
theorem lc_of (h : IV f) (x z : Int32) : LC D y yX5_of wsX5_of ({ frames := 4, cells := 0, slots := 0, locals := 93 }) [.int x, .int z] f (ofR1 f x z) f := by
  intro o sv k0 w hT l
  obtain ⟨e, A, R, Q, b0, b1, nx, kp, Gr, K, t, rfl, rfl, rfl, hn, hk0, hk, hs⟩ := hT
  exact zMi.imp (c_X5_of l D y e A R Q b0 b1 nx kp Gr K t 0 h x z) (fun r w' p => ⟨p.1, e, A, R, Q, b0, b1, nx, kp, Gr, K, t, rfl, p.2, rfl, hn, hk0, hk, hs⟩)
theorem lc_owes (h : IV f) (x z : Int32) : LC D y yX5_owes wsX5_owes ({ frames := 3, cells := 0, slots := 0, locals := 66 }) [.int x, .int z] f (owR f x z) f := by
  intro o sv k0 w hT l
  obtain ⟨e, A, R, Q, b0, b1, nx, kp, Gr, K, t, rfl, rfl, rfl, hn, hk0, hk, hs⟩ := hT
  exact zMi.imp (c_X5_owes l D y e A R Q b0 b1 nx kp Gr K t 0 h x z) (fun r w' p => ⟨p.1, e, A, R, Q, b0, b1, nx, kp, Gr, K, t, rfl, p.2, rfl, hn, hk0, hk, hs⟩)
theorem lc_at (h : IV f) (x : Int32) : LC D y yX5_at wsX5_at ({ frames := 1, cells := 0, slots := 0, locals := 22 }) [.int x] f (lst (stP f x) 9) f := by
  intro o sv k0 w hT l
  obtain ⟨e, A, R, Q, b0, b1, nx, kp, Gr, K, t, rfl, rfl, rfl, hn, hk0, hk, hs⟩ := hT
  exact zMi.imp (c_X5_at l D y e A R Q b0 b1 nx kp Gr K t 0 h x) (fun r w' p => ⟨p.1, e, A, R, Q, b0, b1, nx, kp, Gr, K, t, rfl, p.2, rfl, hn, hk0, hk, hs⟩)
theorem lc_ranked (h : IV f) (x : Int32) : LC D y yX5_ranked wsX5_ranked ({ frames := 4, cells := 0, slots := 0, locals := 93 }) [.int x] f (lst (rnP f x) 9) f := by
  intro o sv k0 w hT l
  obtain ⟨e, A, R, Q, b0, b1, nx, kp, Gr, K, t, rfl, rfl, rfl, hn, hk0, hk, hs⟩ := hT
  exact zMi.imp (c_X5_ranked l D y e A R Q b0 b1 nx kp Gr K t 0 h x) (fun r w' p => ⟨p.1, e, A, R, Q, b0, b1, nx, kp, Gr, K, t, rfl, p.2, rfl, hn, hk0, hk, hs⟩)
theorem lc_silent (h : IV f) (x : Int32) : LC D y yX5_silent wsX5_silent ({ frames := 1, cells := 0, slots := 0, locals := 23 }) [.int x] f (sbR f x) f := by
  intro o sv k0 w hT l
  obtain ⟨e, A, R, Q, b0, b1, nx, kp, Gr, K, t, rfl, rfl, rfl, hn, hk0, hk, hs⟩ := hT
  exact zMi.imp (c_X5_silent l D y e A R Q b0 b1 nx kp Gr K t 0 h x) (fun r w' p => ⟨p.1, e, A, R, Q, b0, b1, nx, kp, Gr, K, t, rfl, p.2, rfl, hn, hk0, hk, hs⟩)
theorem lc_why (h : IV f) (x : Int32) : LC D y yX5_why wsX5_why ({ frames := 2, cells := 0, slots := 0, locals := 45 }) [.int x] f (whR f x) f := by
  intro o sv k0 w hT l
  obtain ⟨e, A, R, Q, b0, b1, nx, kp, Gr, K, t, rfl, rfl, rfl, hn, hk0, hk, hs⟩ := hT
  exact zMi.imp (c_X5_why l D y e A R Q b0 b1 nx kp Gr K t 0 h x) (fun r w' p => ⟨p.1, e, A, R, Q, b0, b1, nx, kp, Gr, K, t, rfl, p.2, rfl, hn, hk0, hk, hs⟩)
theorem lc_count (h : IV f) (x : Int32) (n1 : ¬ x = nI 17) (n2 : ¬ x = nI 18) : LC D y yX5_count wsX5_count ({ frames := 4, cells := 0, slots := 0, locals := 88 }) [.int x] f (coR1 f x) f := by
  intro o sv k0 w hT l
  obtain ⟨e, A, R, Q, b0, b1, nx, kp, Gr, K, t, rfl, rfl, rfl, hn, hk0, hk, hs⟩ := hT
  exact zMi.imp (c_X5_count l D y e A R Q b0 b1 nx kp Gr K t 0 h (by decide) x) (fun r w' p => ⟨p.1.trans (by rw [cnR, if_neg n1, if_neg n2]), e, A, R, Q, b0, b1, nx, kp, Gr, K, t, rfl, p.2, rfl, hn, hk0, hk, hs⟩)
theorem lc_ifWord (h : IV f) (x : Int32) : LC D y yX5_ifWord wsX5_ifWord ({ frames := 3, cells := 0, slots := 0, locals := 82 }) [.int x] f (iwR f x) f := by
  intro o sv k0 w hT l
  obtain ⟨e, A, R, Q, b0, b1, nx, kp, Gr, K, t, rfl, rfl, rfl, hn, hk0, hk, hs⟩ := hT
  refine zMi.imp (c_X5_ifWord l D y e A R Q b0 b1 nx kp Gr K t 0 h x) (fun r w' p => ⟨p.1, e, A, _, Q, b0, b1, nx, kp, Gr, K, t, rfl, p.2, ?_, hn, hk0, hk, fun s z => ⟨(hs s z).1, ?_⟩⟩)
  · split <;> rfl
  · rw [← (hs s z).2]
    split <;> rfl
theorem lc_seatedIn (h : IV f) (x z : Int32) : LC D y yX5_seatedIn wsX5_seatedIn ({ frames := 3, cells := 0, slots := 0, locals := 82 }) [.int x, .int z] f (stR f x z) f := by
  intro o sv k0 w hT l
  obtain ⟨e, A, R, Q, b0, b1, nx, kp, Gr, K, t, rfl, rfl, rfl, hn, hk0, hk, hs⟩ := hT
  refine zMi.imp (c_X5_seatedIn l D y e A R Q b0 b1 nx kp Gr K t 0 h x z) (fun r w' p => ?_)
  obtain ⟨p1, g3, p2⟩ := p
  exact ⟨p1, e, A, _, Q, b0, b1, nx, kp, Gr, K, t, rfl, p2, rfl, hn, hk0, hk, hs⟩
theorem lc_canLead (h : IV f) : LC D y yX5_canLead wsX5_canLead ({ frames := 4, cells := 0, slots := 0, locals := 93 }) [] f (clR f) f := by
  intro o sv k0 w hT l
  obtain ⟨e, A, R, Q, b0, b1, nx, kp, Gr, K, t, rfl, rfl, rfl, hn, hk0, hk, hs⟩ := hT
  refine zMi.imp (c_X5_canLead l D y e A R Q b0 b1 nx kp Gr K t 0 h) (fun r w' p => ?_)
  obtain ⟨p1, g3, p2⟩ := p
  exact ⟨p1, e, A, _, Q, b0, b1, nx, kp, Gr, K, t, rfl, p2, rfl, hn, hk0, hk, hs⟩
theorem lc_ifRound (h : IV f) (x : Int32) : LC D y yX5_ifRound wsX5_ifRound ({ frames := 4, cells := 0, slots := 0, locals := 93 }) [.int x] f (irR f (cu f) x) f := by
  intro o sv k0 w hT l
  obtain ⟨e, A, R, Q, b0, b1, nx, kp, Gr, K, t, rfl, rfl, rfl, hn, hk0, hk, hs⟩ := hT
  refine zMi.imp (c_X5_ifRound l D y e A R Q b0 b1 nx kp Gr K t 0 h x) (fun r w' p => ?_)
  obtain ⟨p1, g3, q3, p2⟩ := p
  exact ⟨p1, e, A, _, _, b0, b1, nx, kp, Gr, K, t, rfl, p2, rfl, hn, hk0, hk, hs⟩
theorem lc_guest (h : IV f) (x : Int32) : LC D y yX5_guest wsX5_guest ({ frames := 6, cells := 0, slots := 0, locals := 145 }) [.int x] f ((coR f x).1) ((coR f x).2) := by
  intro o sv k0 w hT l
  obtain ⟨e, A, R, Q, b0, b1, nx, kp, Gr, K, t, rfl, rfl, rfl, hn, hk0, hk, hs⟩ := hT
  exact zMi.imp (c_X5_guest l D y e A R Q b0 b1 nx kp Gr K t 0 h hn hk x) (fun r w' p => ⟨p.1, e, A, _, _, b0, b1, _, _, _, K, t, rfl, p.2, rfl, rcN_lt hn _, Nat.le_trans hk0 (rcP_le hk _).1, (rcP_le hk _).2, hs⟩)
theorem lc_leave (h : IV f) (x : Int32) : LC D y yX5_leave wsX5_leave ({ frames := 6, cells := 0, slots := 0, locals := 145 }) [.int x] f ((leR f x).1) ((leR f x).2) := by
  intro o sv k0 w hT l
  obtain ⟨e, A, R, Q, b0, b1, nx, kp, Gr, K, t, rfl, rfl, rfl, hn, hk0, hk, hs⟩ := hT
  exact zMi.imp (c_X5_leave l D y e A R Q b0 b1 nx kp Gr K t 0 h hn hk x) (fun r w' p => ⟨p.1, e, A, _, _, b0, b1, _, _, _, K, t, rfl, p.2, rfl, rcN_lt hn _, Nat.le_trans hk0 (rcP_le hk _).1, (rcP_le hk _).2, hs⟩)
theorem lc_word (h : IV f) (x : Int32) : LC D y yX5_word wsX5_word ({ frames := 6, cells := 0, slots := 0, locals := 145 }) [.int x] f ((woR f x).1) ((woR f x).2) := by
  intro o sv k0 w hT l
  obtain ⟨e, A, R, Q, b0, b1, nx, kp, Gr, K, t, rfl, rfl, rfl, hn, hk0, hk, hs⟩ := hT
  exact zMi.imp (c_X5_word l D y e A R Q b0 b1 nx kp Gr K t 0 h hn hk x) (fun r w' p => ⟨p.1, e, A, _, _, b0, b1, _, _, _, K, t, rfl, p.2, rfl, rcN_lt hn _, Nat.le_trans hk0 (rcP_le hk _).1, (rcP_le hk _).2, hs⟩)
theorem lc_bow (h : IV f) (x z : Int32) : LC D y yX5_bow wsX5_bow ({ frames := 6, cells := 0, slots := 0, locals := 145 }) [.int x, .int z] f ((boR f x z).1) ((boR f x z).2) := by
  intro o sv k0 w hT l
  obtain ⟨e, A, R, Q, b0, b1, nx, kp, Gr, K, t, rfl, rfl, rfl, hn, hk0, hk, hs⟩ := hT
  exact zMi.imp (c_X5_bow l D y e A R Q b0 b1 nx kp Gr K t 0 h hn hk x z) (fun r w' p => ⟨p.1, e, A, _, _, b0, b1, _, _, _, K, t, rfl, p.2, rfl, rcN_lt hn _, Nat.le_trans hk0 (rcP_le hk _).1, (rcP_le hk _).2, hs⟩)
theorem lc_offer (h : IV f) (x z : Int32) : LC D y yX5_offer wsX5_offer ({ frames := 6, cells := 0, slots := 0, locals := 145 }) [.int x, .int z] f ((ofR f x z (cu f)).1) ((ofR f x z (cu f)).2) := by
  intro o sv k0 w hT l
  obtain ⟨e, A, R, Q, b0, b1, nx, kp, Gr, K, t, rfl, rfl, rfl, hn, hk0, hk, hs⟩ := hT
  exact zMi.imp (c_X5_offer l D y e A R Q b0 b1 nx kp Gr K t 0 h hn hk x z) (fun r w' p => ⟨p.1, e, A, _, _, b0, b1, _, _, _, K, t, rfl, p.2, rfl, rcN_lt hn _, Nat.le_trans hk0 (rcP_le hk _).1, (rcP_le hk _).2, hs⟩)
theorem lc_breathe (h : IV f) (x : Int32) : LC D y yX5_breathe wsX5_breathe ({ frames := 6, cells := 0, slots := 0, locals := 145 }) [.int x] f ((beR f x).1) ((beR f x).2) := by
  intro o sv k0 w hT l
  obtain ⟨e, A, R, Q, b0, b1, nx, kp, Gr, K, t, rfl, rfl, rfl, hn, hk0, hk, hs⟩ := hT
  exact zMi.imp (c_X5_breathe l D y e A R Q b0 b1 nx kp Gr K t 0 h hn hk x) (fun r w' p => ⟨p.1, e, A, _, _, b0, b1, _, _, _, K, t, rfl, p.2, rfl, rcN_lt hn _, Nat.le_trans hk0 (rcP_le hk _).1, (rcP_le hk _).2, hs⟩)
theorem lc_round (h : IV f) : LC D y yX5_round wsX5_round ({ frames := 6, cells := 0, slots := 0, locals := 145 }) [] f ((roR f (cu f)).1) ((roR f (cu f)).2) := by
  intro o sv k0 w hT l
  obtain ⟨e, A, R, Q, b0, b1, nx, kp, Gr, K, t, rfl, rfl, rfl, hn, hk0, hk, hs⟩ := hT
  exact zMi.imp (c_X5_round l D y e A R Q b0 b1 nx kp Gr K t 0 h hn hk) (fun r w' p => ⟨p.1, e, A, _, _, b0, b1, _, _, _, K, t, rfl, p.2, rfl, rcN_lt hn _, Nat.le_trans hk0 (rcP_le hk _).1, (rcP_le hk _).2, hs⟩)
theorem lc_seatAnew (h : IV f) : LC D y yX5_seatAnew wsX5_seatAnew ({ frames := 6, cells := 0, slots := 0, locals := 145 }) [] f (nI (cnt (stCP f) 9)) (stF f 9) := by
  intro o sv k0 w hT l
  obtain ⟨e, A, R, Q, b0, b1, nx, kp, Gr, K, t, rfl, rfl, rfl, hn, hk0, hk, hs⟩ := hT
  exact zMi.imp (c_X5_seatAnew l D y e A R Q b0 b1 nx kp Gr K t 0 h hn hk) (fun r w' p => ⟨p.1, e, A, _, _, b0, b1, _, _, _, K, t, rfl, p.2, rfl, rcN_lt hn _, Nat.le_trans hk0 (rcP_le hk _).1, (rcP_le hk _).2, hs⟩)
theorem lc_set (x v : Int32) {o ms : Nat} {sv : Option (Nat → Int32)} {k0 : Nat} {w : va_W} (hT : TW y o f sv k0 w) (l : Launch) : zMiS l D y ms yX5_set wsX5_set ({ frames := 6, cells := 0, slots := 0, locals := 145 }) [.ref o, .int x, .int v] w (fun r w' => r = (seR f x v).1 ∧ TW y o (seR f x v).2 sv k0 w') := by
  obtain ⟨e, A, R, Q, b0, b1, nx, kp, Gr, K, t, rfl, rfl, rfl, hn, hk0, hk, hs⟩ := hT
  exact zMiS.imp (c_X5_set l D y ms e A R Q b0 b1 nx kp Gr K t 0 hn hk x v) (fun r w' p => ⟨p.1, e, A, _, _, b0, b1, _, _, _, K, t, rfl, p.2, rfl, rcN_lt hn _, Nat.le_trans hk0 (rcP_le hk _).1, (rcP_le hk _).2, hs⟩)
theorem lc_save (h : IV f) {o : Nat} {sv : Option (Nat → Int32)} {k0 : Nat} {w : va_W} (hT : TW y o f sv k0 w) (l : Launch) : zMi l D y yX5_save wsX5_save ({ frames := 4, cells := 0, slots := 0, locals := 103 }) [.ref o, .int (nI 1)] w (fun r w' => r = nI (ng f) ∧ TW y o f (some f) k0 w') := by
  obtain ⟨e, A, R, Q, b0, b1, nx, kp, Gr, K, t, rfl, rfl, rfl, hn, hk0, hk, hs⟩ := hT
  exact zMi.imp (c_X5_save_1 l D y e A R Q b0 b1 nx kp Gr K t 0 h) (fun r w' p => ⟨p.1, e, A, _, _, b0, true, _, _, _, K, t, rfl, p.2, rfl, hn, hk0, hk, fun s z => ⟨rfl, Option.some.inj z⟩⟩)
theorem lc_restore {s : Nat → Int32} (h : IV s) {o : Nat} {k0 : Nat} {w : va_W} (hT : TW y o f (some s) k0 w) (l : Launch) : zMi l D y yX5_restore wsX5_restore ({ frames := 6, cells := 0, slots := 0, locals := 145 }) [.ref o, .int (nI 1)] w (fun r w' => r = nI (ng s) ∧ TW y o s (some s) 1 w') := by
  obtain ⟨e, A, R, Q, b0, b1, nx, kp, Gr, K, t, rfl, rfl, rfl, hn, hk0, hk, hs⟩ := hT
  obtain ⟨rfl, rfl⟩ := hs s rfl
  have r0 : 0 ≤ nI (ng (R 7)) := nI_pos' (by have := ng_le (R 7); omega)
  have r1 : 1 ≤ rcP kp (nI (ng (R 7))) := by
    rw [rcP, if_pos r0]
    exact (kpS_le hk).2.2
  exact zMi.imp (c_X5_restore_1t l D y e A R Q b0 true nx kp Gr K t 0 h.pf hn hk) (fun r w' p => ⟨p.1, e, A, _, _, b0, true, _, _, _, K, t, rfl, p.2, rfl, rcN_lt hn _, r1, (rcP_le hk _).2, fun s z => ⟨rfl, Option.some.inj z⟩⟩)
theorem lc_undo {o : Nat} {sv : Option (Nat → Int32)} {w : va_W} (hT : TW y o f sv 1 w) (l : Launch) : zMi l D y yX5_undo wsX5_undo ({ frames := 5, cells := 0, slots := 0, locals := 124 }) [.ref o] w (fun r w' => ¬ r < 0) := by
  obtain ⟨e, A, R, Q, b0, b1, nx, kp, Gr, K, t, rfl, rfl, rfl, hn, hk0, hk, hs⟩ := hT
  obtain ⟨kq, rfl⟩ : ∃ kq, kp = kq + 1 := ⟨kp - 1, by omega⟩
  exact zMi.imp (c_X5_undo l D y e A R Q b0 b1 nx kq Gr K t 0 hn (by omega)) (fun r w' p => by rw [p.1]; exact nI_pos (by omega))
end LCs
/-! calls and rows of the law -/
section ZQ
variable {D : va_G} {y : Nat → ClassId} {X : zX} {cc : ByteArray} {own : String} {rm : Room} {nm : Nat} {Ts : List Cond} {ws : va_W} {k n pc : Nat} {lv : List (Nat × Value)} {st : List Value}
theorem z_wVi (G : zG D y X cc own rm nm Ts) {rest As : List Value} {b : Addr} {idx na : Nat} {yn : MethodName} {bytes : ByteArray} {maxL : Nat} {ret : Option FieldType} {wm : List Cond} {rm2 : Room} {Post : Int32 → va_W → Prop}
    (hM : ∀ l, zMi l D y yn wm rm2 (.ref b :: As) ws Post) (hk : zCal yn wm bytes maxL ret na) (hg : GoodIn Ts (wsV own idx yn.cls yn wm)) (q0 ci : Nat) {fs : List Value} {qc : vw_C} (hr : ws[q0]? = some (b, .inr (ci, fs))) (hc : vwCl[ci]? = some qc) (hcn : qc.1 = yn.cls) (hdg : decode cc pc = .ok (.invokevirtual idx, 3)) (hR : rm2.frames + 1 ≤ rm.frames ∧ 8 + (maxL + 11) + rm2.locals ≤ rm.locals) (hz : rm2.cells = 0 ∧ rm2.slots = 0) (hfit : k ≤ rm.cells ∧ n ≤ rm.slots) (hn : As.length = na) (hcat : (rest.map fun v => v.category).sum ≤ 8) (hst : st = (As.reverse ++ .ref b :: rest))
    (kk : ∀ (r : Int32) (w1 : va_W), Post r w1 → zV D X w1 k n (pc + 3) lv (.int r :: rest)) : zV D X ws k n pc lv st := by
  obtain ⟨h1, h2⟩ := hz
  have e := z_callVi G (wc := ws) (wr := []) hM hk hg q0 ci hr hc hcn hdg hR (by rw [h1, h2]; exact hfit) hn hcat st hst (fun r1 w2 h => (by rw [h1, h2]; exact z_nil (kk r1 w2 h)))
  rwa [List.append_nil] at e
/-- a call of the object -/
theorem z_q (G : zG D y X cc own rm nm Ts) {f f' : Nat → Int32} {r0 : Int32} {sv : Option (Nat → Int32)} {k0 o : Nat} {rest As : List Value} {idx na : Nat} {yn : MethodName} {bytes : ByteArray} {maxL : Nat} {ret : Option FieldType} {wm : List Cond} {rm2 : Room}
    (hM : LC D y yn wm rm2 As f r0 f') (hT : TW y o f sv k0 ws) (hk : zCal yn wm bytes maxL ret na) (hg : GoodIn Ts (wsV own idx yn.cls yn wm)) (hcn : RX5 = yn.cls) (hdg : decode cc pc = .ok (.invokevirtual idx, 3)) (hR : rm2.frames + 1 ≤ rm.frames ∧ 8 + (maxL + 11) + rm2.locals ≤ rm.locals) (hz : rm2.cells = 0 ∧ rm2.slots = 0) (hfit : k ≤ rm.cells ∧ n ≤ rm.slots) (hn : As.length = na) (hcat : (rest.map fun v => v.category).sum ≤ 8) (hst : st = (As.reverse ++ .ref o :: rest))
    (kk : ∀ (w1 : va_W), TW y o f' sv k0 w1 → zV D X w1 k n (pc + 3) lv (.int r0 :: rest)) : zV D X ws k n pc lv st := by
  obtain ⟨fs, hr⟩ := hT.at0
  exact z_wVi G (fun l => hM o sv k0 ws hT l) hk hg 0 5 hr rfl hcn hdg hR hz hfit hn hcat hst (fun r w1 h => by rw [h.1]; exact kk w1 h.2)
/-- a call of the law's own -/
theorem z_qS (G : zG D y X cc own rm nm Ts) {f f' : Nat → Int32} {r0 : Int32} {sv : Option (Nat → Int32)} {k0 o : Nat} {rest As : List Value} {idx na : Nat} {yn : MethodName} {bytes : ByteArray} {maxL : Nat} {ret : Option FieldType} {wm : List Cond} {rm2 : Room}
    (hM : LC D y yn wm rm2 As f r0 f') (hT : TW y o f sv k0 ws) (hk : zCal yn wm bytes maxL ret na) (hg : GoodIn Ts (va_wsS own idx yn wm)) (hdg : decode cc pc = .ok (.invokestatic idx, 3)) (hR : rm2.frames + 1 ≤ rm.frames ∧ 8 + (maxL + 11) + rm2.locals ≤ rm.locals) (hz : rm2.cells = 0 ∧ rm2.slots = 0) (hfit : k ≤ rm.cells ∧ n ≤ rm.slots) (hn : (Value.ref o :: As).length = na) (hcat : (rest.map fun v => v.category).sum ≤ 8) (hst : st = ((Value.ref o :: As).reverse ++ rest))
    (kk : ∀ (w1 : va_W), TW y o f' sv k0 w1 → zV D X w1 k n (pc + 3) lv (.int r0 :: rest)) : zV D X ws k n pc lv st := by
  obtain ⟨h1, h2⟩ := hz
  have e := z_callSi G (wc := ws) (wr := []) (As := .ref o :: As) (fun l => hM o sv k0 ws hT l) hk hg hdg hR (by rw [h1, h2]; exact hfit) hn hcat st hst (fun r w1 h => by rw [h1, h2, h.1]; exact z_nil (kk w1 h.2))
  rwa [List.append_nil] at e
theorem z_ishr (G : zG D y X cc own rm nm Ts) {a b : Int32} (hdg : decode cc pc = .ok (.ishr, 1)) (kk : zV D X ws k n (pc + 1) lv (.int (a >>> (b &&& 31)) :: st)) : zV D X ws k n pc lv (.int b :: .int a :: st) := by
  obtain ⟨p, l, e, R, s, m, args, below, meth, c, A, Q, nL⟩ := X
  obtain ⟨hx, hb, hml, hown, hts, hK, hA, rfl, rfl⟩ := G
  intro H locs ls hP hD hS hl
  exact lv_ishr hx hb hdg (kk H locs ls hP hD hS hl)
theorem z_ixor (G : zG D y X cc own rm nm Ts) {a b : Int32} (hdg : decode cc pc = .ok (.ixor, 1)) (kk : zV D X ws k n (pc + 1) lv (.int (a ^^^ b) :: st)) : zV D X ws k n pc lv (.int b :: .int a :: st) := by
  obtain ⟨p, l, e, R, s, m, args, below, meth, c, A, Q, nL⟩ := X
  obtain ⟨hx, hb, hml, hown, hts, hK, hA, rfl, rfl⟩ := G
  intro H locs ls hP hD hS hl
  exact lv_ixor hx hb hdg (kk H locs ls hP hD hS hl)
theorem z_ldc (G : zG D y X cc own rm nm Ts) {i : Nat} {v : Int32} (hc : Cond.constant own i v ∈ Ts) (hdg : decode cc pc = .ok (.ldc i, 2)) (kk : zV D X ws k n (pc + 2) lv (.int v :: st)) : zV D X ws k n pc lv st := by
  obtain ⟨p, l, e, R, s, m, args, below, meth, c, A, Q, nL⟩ := X
  obtain ⟨hx, hb, hml, hown, hts, hK, hA, rfl, rfl⟩ := G
  intro H locs ls hP hD hS hl
  exact lv_ldc hx hb hown (hts _ hc) hdg (kk H locs ls hP hD hS hl)
theorem z_ishrN (G : zG D y X cc own rm nm Ts) {a s : Nat} (r : Nat) (hdg : decode cc pc = .ok (.ishr, 1)) (ha : a < 2 ^ 31) (hs : ((nI s &&& 31).toBitVec.smod 32).toNat = s) (hr : a / 2 ^ s = r) (kk : zV D X ws k n (pc + 1) lv (.int (nI r) :: st)) : zV D X ws k n pc lv (.int (nI s) :: .int (nI a) :: st) := by
  refine z_ishr G hdg ?_
  rw [pk_shrN ha _ s hs, hr]
  exact kk
theorem z_iremN (G : zG D y X cc own rm nm Ts) {a d : Nat} (r : Nat) (hdg : decode cc pc = .ok (.irem, 1)) (ha : a < 2 ^ 31) (h0 : 0 < d) (hd : d < 2 ^ 31) (hr : a % d = r) (kk : zV D X ws k n (pc + 1) lv (.int (nI r) :: st)) : zV D X ws k n pc lv (.int (nI d) :: .int (nI a) :: st) := by
  obtain ⟨p, l, e, R, s, m, args, below, meth, c, A, Q, nL⟩ := X
  obtain ⟨hx, hb, hml, hown, hts, hK, hA, rfl, rfl⟩ := G
  intro H locs ls hP hD hS hl
  refine lv_irem hx hb hdg (nI_ne0 h0 hd) ?_
  rw [pk_rem ha h0 hd, hr]
  exact kk H locs ls hP hD hS hl
theorem z_callSiS {t : Nat} (hZ : zSX t X) (G : zG D y X cc own rm nm Ts) {wc wr : va_W} {rest As : List Value} {idx na : Nat} {yn : MethodName} {bytes : ByteArray} {maxL : Nat} {ret : Option FieldType} {wm : List Cond} {rm2 : Room} {Post : Int32 → va_W → Prop}
    (hM : ∀ l, zMiS l D y t yn wm rm2 As wc Post) (hk : zCal yn wm bytes maxL ret na) (hg : GoodIn Ts (va_wsS own idx yn wm)) (hdg : decode cc pc = .ok (.invokestatic idx, 3)) (hR : rm2.frames + 1 ≤ rm.frames ∧ 8 + (maxL + 11) + rm2.locals ≤ rm.locals) (hfit : k + rm2.cells ≤ rm.cells ∧ n + rm2.slots ≤ rm.slots) (hn : As.length = na) (hcat : (rest.map fun v => v.category).sum ≤ 8) (st : List Value) (hst : st = (As.reverse ++ rest))
    (kk : ∀ (r : Int32) (w1 : va_W), Post r w1 → zV D X (w1 ++ wr) (k + rm2.cells) (n + rm2.slots) (pc + 3) lv (.int r :: rest)) : zV D X (wc ++ wr) k n pc lv st := by
  obtain ⟨p, l, e, R, s, m, args, below, meth, c, A, Q, nL⟩ := X
  obtain ⟨hx, hb, hml, hown, hts, hK, hA, rfl, rfl⟩ := G
  obtain ⟨⟨ws', hw⟩, hd⟩ := hk
  subst hst
  intro H locs ls hP hD hS hl
  have hPc : va_P D vwCl wc H := fun k q hq => hP k q (by rw [List.getElem?_append_left (List.getElem?_eq_some_iff.mp hq).1]; exact hq)
  have hDc : va_D A wc := ⟨fun i j p q hp hq e => hD.1 i j p q (by rw [List.getElem?_append_left (List.getElem?_eq_some_iff.mp hp).1]; exact hp) (by rw [List.getElem?_append_left (List.getElem?_eq_some_iff.mp hq).1]; exact hq) e, fun k q hq => hD.2 k q (by rw [List.getElem?_append_left (List.getElem?_eq_some_iff.mp hq).1]; exact hq)⟩
  have hFc : ∀ q, va_A wc H.size q → A q := by
    intro q h
    rcases h with ⟨k, e, h⟩ | h
    · exact hDc.2 k (q, e) h
    · exact hA q (Nat.le_trans hS.1 h)
  have hbl : FrameBlind (va_Pc As (fun U => U.heap.size = H.size ∧ va_P D vwCl wc U.heap ∧ va_K D vwCl (zT y) U ∧ va_D (fun _ => True) wc ∧ zS t (va_A wc H.size) U U.heap)) := fun a U g mk q => by
    obtain ⟨q0, q1, qP, qK, qD, qZ⟩ := q
    exact ⟨q0, q1, qP, va_K.moved (u := U) (U := U.calling g mk a) (Vm.Alike.refl U.vm) qK, qD, va_Nw.same rfl rfl qZ.1, va_Z.moved (u := U) (U := U.calling g mk a) (Vm.Alike.refl U.vm) qZ.2.1, va_T.moved (u := U) (U := U.calling g mk a) (Vm.Alike.refl U.vm) qZ.2.2⟩
  have hpre : ∀ U : State, U.heap = H → s.WarmedH U.vm → va_Pc As (fun U => U.heap.size = H.size ∧ va_P D vwCl wc U.heap ∧ va_K D vwCl (zT y) U ∧ va_D (fun _ => True) wc ∧ zS t (va_A wc H.size) U U.heap) As.toArray U := fun U hU hW => ⟨rfl, by rw [hU], by rw [hU]; exact hPc, va_K.moved hW.alike hK, hDc.weaken (fun _ _ _ _ => trivial), by rw [hU]; exact zS.warm hW hZ hS.2.1 hFc⟩
  have hfit' : k + rm2.cells ≤ R.cells ∧ n + rm2.slots ≤ R.slots := hfit
  refine va_calli (va_runS (As := As) (rest := rest) ⟨hx, hb, hml, hown, hts⟩ (hM l H.size) (va_cwS na hts hg hw rfl rfl hd hR) ⟨hbl, hpre⟩ rfl hn hl.1 rfl (lv_room hcat) hdg hfit) hS (fun q _ h => hFc q h) hFc (fun r u t H1 locs ht hvm hp hB hz1 hk1 hS1 => ?_)
  obtain ⟨hP1, hK1, hD1⟩ := hB
  rw [ht] at hP1
  obtain ⟨hP2, hD2⟩ := z_join hP hD hk1 hFc hP1 hD1
  exact kk r u hp H1 locs ls hP2 hD2 hS1 hl
end ZQ
/-! a method that reads the script alone -/
def scX (b L : Nat) (xs : Nat → Int32) (X : zX) : Prop :=
  match X with
  | (p, l, e, R, s, m, args, below, meth, c, A, Q, nL) => va_X b L xs s s.heap ∧ b < s.heap.size ∧ ¬ A b
def zMiX (l : Launch) (D : va_G) (y : Nat → ClassId) (b L : Nat) (xs : Nat → Int32) (yn : MethodName) (wm : List Cond) (rm : Room) (av : List Value) (w0 : va_W) (Post : Int32 → va_W → Prop) : Prop :=
  ∀ sz : Nat, Met l yn wm rm (va_Pc av (fun U => U.heap.size = sz ∧ va_P D vwCl w0 U.heap ∧ va_K D vwCl (zT y) U ∧ va_D (fun _ => True) w0 ∧ (va_X b L xs U U.heap ∧ b < sz ∧ ¬ va_A w0 sz b))) (va_Qi (fun (r : Int32) (u : va_W) => Post r u) (fun u t => va_P D vwCl u t.heap ∧ va_K D vwCl (zT y) t ∧ va_D (va_A w0 sz) u) (va_A w0 sz)) rm.cells rm.slots (va_A w0 sz)
theorem zMiX.mk {b L : Nat} {xs : Nat → Int32} {l : Launch} {D : va_G} {y : Nat → ClassId} {yn : MethodName} {wm ws' : List Cond} {rm : Room} {av : List Value} {w0 : va_W} {cc : ByteArray} {maxL : Nat} {lv : List (Nat × Value)} {Post : Int32 → va_W → Prop} {rt : FieldType} (hy : plainName yn.cls = true) (hw : wm = Cond.code yn cc maxL (some rt) :: ws') (hlen : (lg_sl av).length ≤ maxL) (hlv : lv_args 0 av = lv)
    (body : ∀ X : zX, zG D y X cc yn.cls rm maxL wm → scX b L xs X → (∀ (ws1 : va_W) (pc : Nat) (lv1 : List (Nat × Value)) (r : Int32), decode cc pc = .ok (.ireturn, 1) → narrow rt (.int r) = .int r → Post r ws1 → zV D X ws1 rm.cells rm.slots pc lv1 [.int r]) → zV D X w0 0 0 0 lv []) : zMiX l D y b L xs yn wm rm av w0 Post := by
  intro sz
  refine Met.ofW (cc := cc) (maxL := maxL) (ret := (some rt)) hy hw ?_
  intro p e s m args below meth c s₁ B hml hv
  obtain ⟨rfl, hsz, hP, hK, hD0, hZ⟩ := hv
  have hts := atoms_spec (ws := wm) B.pre
  have hown : s.vm.findClass yn.cls = some m.cls := findClass_of_methodNamed B.named
  subst hsz
  have hD := hD0.self (sz := s.heap.size)
  have hl := lv_entry av hlen
  rw [hlv] at hl
  rw [lg_entry_eq]
  refine body (p, l, e, rm, s, m, av.toArray, below, meth, c, va_A w0 s.heap.size, _, maxL) ⟨B.exec, B.bytes, hml, hown, hts, hK, fun q h => Or.inr h, rfl, rfl⟩ hZ ?_ _ _ _ hP hD va_S.rf hl
  intro ws1 pc lv1 r hdg hn hp H locs ls hP1 hD1 hS1 hl1
  exact W.zret B.exec B.bytes B.returns hn (fun t ht hW => ⟨⟨r, ws1, rfl, hp, by rw [ht]; exact hP1, va_K.moved hW.alike hK, hD1⟩, hS1.F ht⟩) hS1.2.2 hdg B.notSynchronized
section ZX
variable {D : va_G} {y : Nat → ClassId} {X : zX} {cc : ByteArray} {own : String} {rm : Room} {nm : Nat} {Ts : List Cond} {ws : va_W} {k n pc : Nat} {lv : List (Nat × Value)} {st : List Value}
theorem z_sld (G : zG D y X cc own rm nm Ts) {b L : Nat} {xs : Nat → Int32} (hX : scX b L xs X) {i : Nat} (hi : i < L) (hL : L ≤ 260) (hdg : decode cc pc = .ok (.iaload, 1)) (kk : zV D X ws k n (pc + 1) lv (.int (xs i) :: st)) : zV D X ws k n pc lv (.int (nI i) :: .ref b :: st) := by
  obtain ⟨p, l, e, R, s, m, args, below, meth, c, A, Q, nL⟩ := X
  obtain ⟨hx, hb, hml, hown, hts, hK, hA, rfl, rfl⟩ := G
  intro H locs ls hP hD hS hl
  exact va_sld hx hb hX.1 hX.2.1 hX.2.2 hS (vp_in_nI hi (by omega)) hdg (by rw [nI_clamp (by omega)]; exact kk H locs ls hP hD hS hl)
theorem z_slen (G : zG D y X cc own rm nm Ts) {b L : Nat} {xs : Nat → Int32} (hX : scX b L xs X) (hdg : decode cc pc = .ok (.arraylength, 1)) (kk : zV D X ws k n (pc + 1) lv (.int (nI L) :: st)) : zV D X ws k n pc lv (.ref b :: st) := by
  obtain ⟨p, l, e, R, s, m, args, below, meth, c, A, Q, nL⟩ := X
  obtain ⟨hx, hb, hml, hown, hts, hK, hA, rfl, rfl⟩ := G
  intro H locs ls hP hD hS hl
  exact va_slen hx hb hX.1 hX.2.1 hX.2.2 hS hdg (kk H locs ls hP hD hS hl)
theorem z_callSiX {b L : Nat} {xs : Nat → Int32} (hX : scX b L xs X) (G : zG D y X cc own rm nm Ts) {wc wr : va_W} {rest As : List Value} {idx na : Nat} {yn : MethodName} {bytes : ByteArray} {maxL : Nat} {ret : Option FieldType} {wm : List Cond} {rm2 : Room} {Post : Int32 → va_W → Prop}
    (hM : ∀ l, zMiX l D y b L xs yn wm rm2 As wc Post) (hk : zCal yn wm bytes maxL ret na) (hg : GoodIn Ts (va_wsS own idx yn wm)) (hdg : decode cc pc = .ok (.invokestatic idx, 3)) (hR : rm2.frames + 1 ≤ rm.frames ∧ 8 + (maxL + 11) + rm2.locals ≤ rm.locals) (hfit : k + rm2.cells ≤ rm.cells ∧ n + rm2.slots ≤ rm.slots) (hn : As.length = na) (hcat : (rest.map fun v => v.category).sum ≤ 8) (st : List Value) (hst : st = (As.reverse ++ rest))
    (kk : ∀ (r : Int32) (w1 : va_W), Post r w1 → zV D X (w1 ++ wr) (k + rm2.cells) (n + rm2.slots) (pc + 3) lv (.int r :: rest)) : zV D X (wc ++ wr) k n pc lv st := by
  obtain ⟨p, l, e, R, s, m, args, below, meth, c, A, Q, nL⟩ := X
  obtain ⟨hx, hb, hml, hown, hts, hK, hA, rfl, rfl⟩ := G
  obtain ⟨⟨ws', hw⟩, hd⟩ := hk
  subst hst
  intro H locs ls hP hD hS hl
  have hPc : va_P D vwCl wc H := fun k q hq => hP k q (by rw [List.getElem?_append_left (List.getElem?_eq_some_iff.mp hq).1]; exact hq)
  have hDc : va_D A wc := ⟨fun i j p q hp hq e => hD.1 i j p q (by rw [List.getElem?_append_left (List.getElem?_eq_some_iff.mp hp).1]; exact hp) (by rw [List.getElem?_append_left (List.getElem?_eq_some_iff.mp hq).1]; exact hq) e, fun k q hq => hD.2 k q (by rw [List.getElem?_append_left (List.getElem?_eq_some_iff.mp hq).1]; exact hq)⟩
  have hFc : ∀ q, va_A wc H.size q → A q := by
    intro q h
    rcases h with ⟨k, e, h⟩ | h
    · exact hDc.2 k (q, e) h
    · exact hA q (Nat.le_trans hS.1 h)
  have hbl : FrameBlind (va_Pc As (fun U => U.heap.size = H.size ∧ va_P D vwCl wc U.heap ∧ va_K D vwCl (zT y) U ∧ va_D (fun _ => True) wc ∧ (va_X b L xs U U.heap ∧ b < H.size ∧ ¬ va_A wc H.size b))) := fun a U g mk q => by
    obtain ⟨q0, q1, qP, qK, qD, qZ⟩ := q
    exact ⟨q0, q1, qP, va_K.moved (u := U) (U := U.calling g mk a) (Vm.Alike.refl U.vm) qK, qD, va_X.moved (u := U) (U := U.calling g mk a) (Vm.Alike.refl U.vm) qZ.1, qZ.2⟩
  have hpre : ∀ U : State, U.heap = H → s.WarmedH U.vm → va_Pc As (fun U => U.heap.size = H.size ∧ va_P D vwCl wc U.heap ∧ va_K D vwCl (zT y) U ∧ va_D (fun _ => True) wc ∧ (va_X b L xs U U.heap ∧ b < H.size ∧ ¬ va_A wc H.size b)) As.toArray U := fun U hU hW => ⟨rfl, by rw [hU], by rw [hU]; exact hPc, va_K.moved hW.alike hK, hDc.weaken (fun _ _ _ _ => trivial), by rw [hU]; exact ⟨va_X.moved hW.alike (va_X.kept hX.1 (hS.2.1 b hX.2.1 hX.2.2)), Nat.lt_of_lt_of_le hX.2.1 hS.1, fun z => hX.2.2 (hFc b z)⟩⟩
  have hfit' : k + rm2.cells ≤ R.cells ∧ n + rm2.slots ≤ R.slots := hfit
  refine va_calli (va_runS (As := As) (rest := rest) ⟨hx, hb, hml, hown, hts⟩ (hM l H.size) (va_cwS na hts hg hw rfl rfl hd hR) ⟨hbl, hpre⟩ rfl hn hl.1 rfl (lv_room hcat) hdg hfit) hS (fun q _ h => hFc q h) hFc (fun r u t H1 locs ht hvm hp hB hz1 hk1 hS1 => ?_)
  obtain ⟨hP1, hK1, hD1⟩ := hB
  rw [ht] at hP1
  obtain ⟨hP2, hD2⟩ := z_join hP hD hk1 hFc hP1 hD1
  exact kk r u hp H1 locs ls hP2 hD2 hS1 hl
end ZX
