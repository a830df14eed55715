/-! the property of its own: a round, and the seats by rank -/
theorem layO_i (h : Nat → Int32) (g : Nat) (o : Option Nat) {i : Nat} (hi : i < 10) : layO h g o i = h i := by
  cases o with
  | none => rfl
  | some o => exact lay_ne (by omega) (by omega)
theorem drF_6 {f : Nat → Int32} {g c : Nat} : drF f g c 6 = f 6 + nI 1 := by rw [drF, psF_ne _ _ (by omega) (by omega) (by omega), dr2, upd_at, dr1, upd_ne (by omega)]
theorem cpH_5 (f : Nat → Int32) (c : Nat) : ∀ s, (cpH f c s).1 5 = f 5
  | 0 => rfl
  | s + 1 => by
    rw [cpH]
    split
    · show layO _ _ _ 5 = f 5
      rw [layO_i _ _ _ (by omega), drF_ne2 (by omega) (by omega) (by omega) (by omega), cpH_5 f c s]
    · exact cpH_5 f c s
theorem cpH_6 (f : Nat → Int32) (c : Nat) : ∀ s, (cpH f c s).1 6 = f 6 + nI (cpH f c s).2.2
  | 0 => (Int32.add_zero _).symm
  | s + 1 => by
    rw [cpH]
    split
    · show layO _ _ _ 6 = f 6 + nI ((cpH f c s).2.2 + 1)
      rw [layO_i _ _ _ (by omega), drF_6, cpH_6 f c s, Int32.add_assoc, nI_add]
    · exact cpH_6 f c s
/-- how many drink -/
def mR (f : Nat → Int32) : Nat := (cpH f (cu f) (ng f)).2.2
theorem rn_i {f : Nat → Int32} {c i : Nat} (h : i < 13) (h5 : i ≠ 5) : rnF f c i = (cpH f c (ng f)).1 i := by rw [rnF, upd_ne h5, cpE, stF_ne _ 9 (fun g hg => by omega)]
theorem rn_0 {f : Nat → Int32} (h : IV f) : rnF f (cu f) 0 = f 0 := by rw [rn_i (by omega) (by omega)]; exact (cpH_keep h.su h.sj (c := cu f) (ng f) (Nat.le_refl _)).1 0 (by unfold stc; omega)
theorem rn_4 {f : Nat → Int32} (h : IV f) : rnF f (cu f) 4 = f 4 + nI (mR f) * f 0 := by
  rw [rn_i (by omega) (by omega), cpH_4, Nat.mul_comm, h.hc, ← pk_mul]
  rfl
theorem rn_5 (f : Nat → Int32) (c : Nat) : rnF f c 5 = f 5 + nI 1 := by rw [rnF, upd_at, cpE, stF_ne _ 9 (fun g hg => by omega), cpH_5]
theorem rn_6 (f : Nat → Int32) : rnF f (cu f) 6 = f 6 + nI (mR f) := by rw [rn_i (by omega) (by omega), cpH_6]; rfl
theorem rn_gs {f : Nat → Int32} (h : IV f) (g : Nat) : gs (rnF f (cu f)) g = gs f g := gs_congr (by rw [rnF, upd_ne (by omega), cpE, stF_ne _ 9 (fun g hg => by omega)]; exact (cpH_keep h.su h.sj (c := cu f) (ng f) (Nat.le_refl _)).1 _ (by unfold stc; omega))
theorem rn_ng {f : Nat → Int32} (h : IV f) : ng (rnF f (cu f)) = ng f := cnt_congr 9 (fun g _ => rn_gs h g)
theorem st_ahd {f : Nat → Int32} {a b : Nat} (ha : a < 9) (hb : b < 9) (sa : gs f a = true) (sb : gs f b = true) (hab : a ≠ b) (h : ahd f a b = true) : ahd (stF f 9) a b = true := by
  have r := rk_lt ha sa hab h
  have na := rk_le f a
  have nb := rk_le f b
  rw [ahd_iff] at h ⊢
  rw [stF_owd, stF_owd, stF_ne f 9 (i := 16 + 17 * a) (fun g hg => by omega), stF_ne f 9 (i := 16 + 17 * b) (fun g hg => by omega), stF_ne f 9 (i := 17 + 17 * a) (fun g hg => by omega), stF_ne f 9 (i := 17 + 17 * b) (fun g hg => by omega), stF_at f sa 9 ha, stF_at f sb 9 hb, nI_toInt (by omega), nI_toInt (by omega)]
  omega
theorem st_ahdE {f : Nat → Int32} (hu : SU f) {a b : Nat} (ha : a < 9) (hb : b < 9) (sa : gs f a = true) (sb : gs f b = true) (hab : a ≠ b) : ahd (stF f 9) a b = ahd f a b := by
  cases e : ahd f a b
  · cases e2 : ahd (stF f 9) a b
    · rfl
    · exfalso
      rcases ahd_tot (fun z => hab (hu a b ha hb sa sb z)) with h | h
      · rw [e] at h
        cases h
      · exact ahd_as e2 (st_ahd hb ha sb sa (fun z => hab z.symm) h)
  · exact st_ahd ha hb sa sb hab e
theorem st_rk0 {f : Nat → Int32} (hu : SU f) {g : Nat} (hg : g < 9) (sg : gs f g = true) : cnt (rkP (stF f 9) g) 9 = cnt (rkP f g) 9 := cnt_congr 9 (fun o ho => by
  have eg : gs (stF f 9) o = gs f o := gs_congr (stF_ne f 9 (fun g hg => by omega))
  rw [rkP, rkP, eg]
  cases so : gs f o
  · rw [Bool.false_and, Bool.false_and]
  · by_cases c : o = g
    · simp [c]
    · rw [st_ahdE hu ho hg so sg c])
theorem st_rk {f : Nat → Int32} (hu : SU f) {g : Nat} (hg : g < 9) (sg : gs f g = true) : rk (stF f 9) g = rk f g := st_rk0 hu hg sg
/-- each one's seat is the rank -/
def SR (f : Nat → Int32) : Prop := ∀ g, g < 9 → gs f g = true → f (14 + 17 * g) = nI (rk f g)
theorem SR_rn {f : Nat → Int32} (h : IV f) (c : Nat) : SR (rnF f c) := by
  intro g hg sg
  have hi := IV_cp h c (ng f) (Nat.le_refl _)
  have sH : gs (cpH f c (ng f)).1 g = true := by
    rw [← sg]
    exact (gs_congr (by rw [rnF, upd_ne (by omega), cpE, stF_ne _ 9 (fun g hg => by omega)])).symm
  have e : rk (rnF f c) g = rk (stF (cpH f c (ng f)).1 9) g := rk_congr (fun i hi => ⟨upd_ne (by omega), upd_ne (by omega), upd_ne (by omega), upd_ne (by omega), sumI_congr 9 (fun o ho => upd_ne (by omega))⟩) hg
  rw [e, st_rk hi.su hg sH, rnF, upd_ne (by omega), cpE, stF_at _ sH 9 hg]
theorem cnt_0 {P : Nat → Bool} : ∀ n, (∀ i, i < n → P i = false) → cnt P n = 0
  | 0, _ => rfl
  | n + 1, h => by rw [cnt_f (h n (by omega)), cnt_0 n (fun i hi => h i (by omega))]
theorem SR_cnt {f : Nat → Int32} (h : SR f) : cnt (stCP f) 9 = 0 := cnt_0 9 (fun i hi => by
  unfold stCP
  cases s : gs f i
  · rfl
  · rw [decide_eq_false (fun z => z (h i hi s))]
    rfl)
theorem SR_stF {f : Nat → Int32} (h : SR f) : ∀ j, j ≤ 9 → stF f j = f
  | 0, _ => rfl
  | j + 1, hj => by
    rw [stF, SR_stF h j (by omega)]
    split
    · rename_i s
      exact upd_id (h j (by omega) s)
    · rfl
theorem SR_ls {f : Nat → Int32} (h : SR f) (x : Int32) : lst (rnP f x) 9 = lst (stP f x) 9 := lst_congr 9 (fun i hi => by
  unfold rnP stP
  cases s : gs f i
  · rfl
  · rw [h i hi s])
/-- the room behind a round that was asked for -/
def rdF (f : Nat → Int32) : Nat → Int32 := if ng f = 0 then f else rnF f (cu f)
theorem JV_rd {f : Nat → Int32} {T : Nat} (h : JV f T) : JV (rdF f) (T + 81) := by
  unfold rdF
  split
  · exact h.mono (by omega)
  · exact JV_rn h
theorem t4 {f : Nat → Int32} {T : Nat} (h : JV f T) : ∃ t, t ≤ T ∧ f 4 = nI t := h.jn.2.2.1
theorem ro_0 {f : Nat → Int32} (n : ng f = 0) : roR f (cu f) = (-5, f) := if_pos (Or.inl n)
theorem ro_n {f : Nat → Int32} {T : Nat} (h : JV f T) (hT : T ≤ 9900) (n : ¬ ng f = 0) : roR f (cu f) = (nI (mR f), rnF f (cu f)) := by
  obtain ⟨t, ht, et⟩ := t4 h
  refine if_neg (fun z => ?_)
  rcases z with z | z
  · exact n z
  · rw [et] at z
    have := (nI_ltI (by omega) (by omega)).mp z
    omega
theorem ir_in0 : inB (nI 0) (nI 0) (nI 2) = true := by decide
theorem ir_in1 : inB (nI 1) (nI 0) (nI 2) = true := by decide
theorem ir_in2 : inB (nI 2) (nI 0) (nI 2) = true := by decide
theorem ir_0 {f : Nat → Int32} (n : ¬ ng f = 0) : irR f (cu f) (nI 0) = nI (mR f) := irR_1 ir_in0 n rfl
theorem ir_1 {f : Nat → Int32} (n : ¬ ng f = 0) : irR f (cu f) (nI 1) = nI (mR f) * f 0 := irR_2 ir_in1 n (by decide) rfl
theorem ir_2 {f : Nat → Int32} (n : ¬ ng f = 0) : irR f (cu f) (nI 2) = lst (stP (rnF f (cu f)) (nI 0)) 9 := by
  rw [irR, if_pos ir_in2, if_neg n, if_neg (by decide), if_neg (by decide)]
/-! the property of its own: each guest's numbers -/
theorem bit_9 : ∀ b0 b1 b2 b3 b4 b5 b6 b7 b8 : Bool, ∀ j : Fin 9, ((orI (fun i => [b0, b1, b2, b3, b4, b5, b6, b7, b8].getD i false) 9 >>> (nI j.val &&& 31)) &&& nI 1) = bI ([b0, b1, b2, b3, b4, b5, b6, b7, b8].getD j.val false) := by decide +kernel
theorem P_9 (P : Nat → Bool) : ∀ i, i < 9 → P i = [P 0, P 1, P 2, P 3, P 4, P 5, P 6, P 7, P 8].getD i false := fun i hi => by
  match i, hi with
  | 0, _ => rfl
  | 1, _ => rfl
  | 2, _ => rfl
  | 3, _ => rfl
  | 4, _ => rfl
  | 5, _ => rfl
  | 6, _ => rfl
  | 7, _ => rfl
  | 8, _ => rfl
  | n + 9, h => omega
theorem bitI (P : Nat → Bool) {j : Nat} (hj : j < 9) : (orI P 9 >>> (nI j &&& 31)) &&& nI 1 = bI (P j) := by
  have h := bit_9 (P 0) (P 1) (P 2) (P 3) (P 4) (P 5) (P 6) (P 7) (P 8) ⟨j, hj⟩
  rw [orI_congr 9 (P_9 P), P_9 P j hj]
  exact h
theorem bit_t {P : Nat → Bool} {j : Nat} (hj : j < 9) (h : P j = true) : (orI P 9 >>> (nI j &&& 31)) &&& nI 1 = nI 1 := by rw [bitI P hj, h]; rfl
theorem bit_f {P : Nat → Bool} {j : Nat} (hj : j < 9) (h : P j = false) : (orI P 9 >>> (nI j &&& 31)) &&& nI 1 = nI 0 := by rw [bitI P hj, h]; rfl
theorem of_f {f : Nat → Int32} {g : Nat} (hg : g < 9) (sg : gs f g = false) (z : Int32) : ofR1 f (nI g) z = -1 := by rw [ofR1, hx_n hg, sg]; rfl
theorem of_t {f : Nat → Int32} {g : Nat} (hg : g < 9) (sg : gs f g = true) (z : Int32) : ofR1 f (nI g) z = faR f g z := by rw [ofR1, hx_n hg, if_pos sg, nI_clamp (by omega)]
theorem of_9 (f : Nat → Int32) (z : Int32) : ofR1 f (nI 9) z = -1 := by rw [ofR1, hx_hi (Int32.le_refl _)]; rfl
def whR (f : Nat → Int32) (x : Int32) : Int32 := if hx f x = true then rsn f x.toNatClampNeg else -1
def owR (f : Nat → Int32) (x z : Int32) : Int32 := if pairE f x z < 0 then pairE f x z else f (21 + 17 * x.toNatClampNeg + z.toNatClampNeg)
def sbR (f : Nat → Int32) (x : Int32) : Int32 := if x < 0 then -2 else nI (cnt (slP f x) 9)
theorem wh_f {f : Nat → Int32} {g : Nat} (hg : g < 9) (sg : gs f g = false) : whR f (nI g) = -1 := by rw [whR, hx_n hg, sg]; rfl
theorem wh_t {f : Nat → Int32} {g : Nat} (hg : g < 9) (sg : gs f g = true) : whR f (nI g) = rsn f g := by rw [whR, hx_n hg, if_pos sg, nI_clamp (by omega)]
theorem ow_t {f : Nat → Int32} {g o : Nat} (hg : g < 9) (ho : o < 9) (hgo : g ≠ o) (sg : gs f g = true) (so : gs f o = true) : owR f (nI g) (nI o) = f (21 + 17 * g + o) := by rw [owR, pairE_n hg ho hgo sg so, if_neg (by decide), nI_clamp (by omega), nI_clamp (by omega)]
theorem ow_s {f : Nat → Int32} {g : Nat} (hg : g < 9) (sg : gs f g = true) : owR f (nI g) (nI g) = -2 := by
  have e : pairE f (nI g) (nI g) = -2 := by rw [pairE, hx_n hg, if_pos ⟨sg, sg⟩, if_pos rfl]
  rw [owR, e, if_pos (by decide)]
theorem ag_at {f : Nat → Int32} (h : IV f) : lst (stP f (nI (ng f))) 9 = -1 := lst_none 9 (fun i hi => by
  unfold stP
  cases s : gs f i
  · rfl
  · obtain ⟨t, ht, e⟩ := h.sb i hi s
    have := ng_le f
    rw [decide_eq_false (fun z => by rw [e] at z; have := (nI_eq (by omega) (by omega)).mp z; omega)]
    rfl)
theorem ag_rk (f : Nat → Int32) : lst (rnP f (nI (ng f))) 9 = -1 := lst_none 9 (fun i hi => by
  unfold rnP
  cases s : gs f i
  · rfl
  · have := rk_ng hi s
    have := ng_le f
    rw [decide_eq_false (fun z => by have := (nI_eq (by omega) (by omega)).mp z; omega)]
    rfl)
theorem ag_m1 {f : Nat → Int32} (h : IV f) : lst (stP f (-1)) 9 = -1 := st_lo h.sn (by decide)
theorem sat {f : Nat → Int32} (h : IV f) {g : Nat} (hg : g < 9) (sg : gs f g = true) : lst (stP f (f (14 + 17 * g))) 9 = nI g := by
  have hP : stP f (f (14 + 17 * g)) g = true := by simp [stP, sg]
  exact lst_one hP 9 hg (fun i hi hp => stP_u h.su hi hg hp hP)
theorem rat {f : Nat → Int32} (h : IV f) {g : Nat} (hg : g < 9) (sg : gs f g = true) : lst (rnP f (nI (rk f g))) 9 = nI g := by
  have hP : rnP f (nI (rk f g)) g = true := by simp [rnP, sg]
  exact lst_one hP 9 hg (fun i hi hp => rnP_u h.ru hi hg hp hP)
