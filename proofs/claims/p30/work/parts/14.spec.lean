/-! words of a room -/
theorem x_is {x : Int32} {n : Nat} (hn : n < 2 ^ 31) (h0 : ¬ x < 0) (h : ¬ nI n ≤ x) : ∃ g : Nat, g < n ∧ x = nI g := by
  rcases pk_ix x hn with h1 | h1 | h1
  · exact absurd h1 h0
  · exact absurd h1 h
  · exact h1
def cnt (P : Nat → Bool) : Nat → Nat
  | 0 => 0
  | n + 1 => cnt P n + (if P n = true then 1 else 0)
theorem cnt_t {P : Nat → Bool} {n : Nat} (h : P n = true) : cnt P (n + 1) = cnt P n + 1 := by rw [cnt, if_pos h]
theorem cnt_f {P : Nat → Bool} {n : Nat} (h : P n = false) : cnt P (n + 1) = cnt P n := by rw [cnt, h]; rfl
theorem cnt_tI {P : Nat → Bool} {n : Nat} (h : P n = true) : nI (cnt P n) + Int32.ofInt 1 = nI (cnt P (n + 1)) := by rw [cnt_t h]; exact nI_1 _
def bI (b : Bool) : Int32 := if b = true then nI 1 else nI 0
theorem bI_t {b : Bool} (h : b = true) : nI 1 = bI b := by rw [bI, if_pos h]
theorem bI_f {b : Bool} (h : b = false) : nI 0 = bI b := by rw [bI, h]; rfl
theorem bI_0 {b : Bool} (h : bI b = 0) : b = false := by
  cases b
  · rfl
  · exact absurd h (by decide)
theorem bI_n {b : Bool} (h : ¬ bI b = 0) : b = true := by
  cases b
  · exact absurd rfl h
  · rfl
def gs (f : Nat → Int32) (g : Nat) : Bool := decide (f (13 + 17 * g) = 1)
def PF (f : Nat → Int32) : Prop := ∀ g, g < 9 → (f (13 + 17 * g) = 1 ∧ 0 < f (15 + 17 * g)) ∨ (f (13 + 17 * g) = 0 ∧ f (15 + 17 * g) = 0)
theorem pf_t {f : Nat → Int32} {g : Nat} (h : PF f) (hg : g < 9) (c : ¬ f (15 + 17 * g) ≤ 0) : gs f g = true := by
  rcases h g hg with ⟨h1, h2⟩ | ⟨h1, h2⟩
  · simp [gs, h1]
  · exact absurd (by rw [h2]; decide) c
theorem pf_f {f : Nat → Int32} {g : Nat} (h : PF f) (hg : g < 9) (c : f (15 + 17 * g) ≤ 0) : gs f g = false := by
  rcases h g hg with ⟨h1, h2⟩ | ⟨h1, h2⟩
  · exact absurd h2 (Int32.not_lt.mpr c)
  · rw [gs, h1]; decide
theorem pf_z {f : Nat → Int32} {g : Nat} (h : PF f) (hg : g < 9) (c : f (15 + 17 * g) = 0) : gs f g = false := pf_f h hg (by rw [c]; decide)
theorem pf_n {f : Nat → Int32} {g : Nat} (h : PF f) (hg : g < 9) (c : ¬ f (15 + 17 * g) = 0) : gs f g = true := by
  rcases h g hg with ⟨h1, h2⟩ | ⟨h1, h2⟩
  · simp [gs, h1]
  · exact absurd h2 c
def hx (f : Nat → Int32) (x : Int32) : Bool := decide (0 ≤ x) && decide (x < nI 9) && gs f x.toNatClampNeg
theorem hx_n {f : Nat → Int32} {g : Nat} (hg : g < 9) : hx f (nI g) = gs f g := by
  rw [hx, nI_clamp (by omega), decide_eq_true (nI_pos' (by omega)), decide_eq_true (nI_lt hg (by decide))]
  rfl
theorem hx_lo {f : Nat → Int32} {x : Int32} (h : x < 0) : hx f x = false := by
  rw [hx, decide_eq_false (Int32.not_le.mpr h)]
  rfl
theorem hx_hi {f : Nat → Int32} {x : Int32} (h : nI 9 ≤ x) : hx f x = false := by
  rw [hx, decide_eq_false (p := x < nI 9) (Int32.not_lt.mpr h)]
  simp
theorem hx_t {f : Nat → Int32} {x : Int32} (h : hx f x = true) : ∃ g, g < 9 ∧ x = nI g ∧ gs f g = true := by
  have h1 : ¬ x < 0 := fun z => by rw [hx_lo z] at h; cases h
  have h2 : ¬ nI 9 ≤ x := fun z => by rw [hx_hi z] at h; cases h
  obtain ⟨g, hg, rfl⟩ := x_is (by decide) h1 h2
  rw [hx_n hg] at h
  exact ⟨g, hg, rfl, h⟩
def rsn (f : Nat → Int32) (g : Nat) : Int32 := if f 2 ≤ f (17 + 17 * g) then nI 1 else if f 1 ≤ owd f g then nI 2 else nI 0
def ahd (f : Nat → Int32) (g o : Nat) : Bool := if f (16 + 17 * g) = f (16 + 17 * o) then (if f (17 + 17 * g) = f (17 + 17 * o) then (if owd f g = owd f o then decide (f (14 + 17 * g) < f (14 + 17 * o)) else decide (owd f g < owd f o)) else decide (f (17 + 17 * g) < f (17 + 17 * o))) else decide (f (16 + 17 * o) < f (16 + 17 * g))
def rkP (f : Nat → Int32) (g : Nat) : Nat → Bool := fun o => gs f o && (decide (o ≠ g) && ahd f o g)
def rk (f : Nat → Int32) (g : Nat) : Nat := cnt (rkP f g) 9
def lst (P : Nat → Bool) : Nat → Int32
  | 0 => -1
  | n + 1 => if P n = true then nI n else lst P n
theorem lst_none {P : Nat → Bool} : ∀ n : Nat, (∀ i, i < n → P i = false) → lst P n = -1
  | 0, _ => rfl
  | n + 1, h => by
    rw [lst, h n (by omega)]
    exact lst_none n (fun i hi => h i (by omega))
theorem lst_one {P : Nat → Bool} {j : Nat} (hj : P j = true) : ∀ n : Nat, j < n → (∀ i, i < n → P i = true → i = j) → lst P n = nI j
  | 0, h, _ => absurd h (by omega)
  | n + 1, h, hu => by
    rw [lst]
    by_cases e : P n = true
    · rw [if_pos e, hu n (by omega) e]
    · rw [if_neg e]
      have : j ≠ n := fun z => e (z ▸ hj)
      exact lst_one hj n (by omega) (fun i hi => hu i (by omega))
def stP (f : Nat → Int32) (x : Int32) : Nat → Bool := fun g => gs f g && decide (f (14 + 17 * g) = x)
def rnP (f : Nat → Int32) (x : Int32) : Nat → Bool := fun g => gs f g && decide (nI (rk f g) = x)
def SU (f : Nat → Int32) : Prop := ∀ i j, i < 9 → j < 9 → gs f i = true → gs f j = true → f (14 + 17 * i) = f (14 + 17 * j) → i = j
def RU (f : Nat → Int32) : Prop := ∀ i j, i < 9 → j < 9 → gs f i = true → gs f j = true → rk f i = rk f j → i = j
theorem cnt_le (P : Nat → Bool) : ∀ n, cnt P n ≤ n
  | 0 => Nat.le_refl _
  | n + 1 => by
    have := cnt_le P n
    rw [cnt]
    split <;> omega
theorem rk_le (f : Nat → Int32) (g : Nat) : rk f g ≤ 9 := cnt_le _ 9
theorem stP_u {f : Nat → Int32} {x : Int32} (h : SU f) {i j : Nat} (hi : i < 9) (hj : j < 9) (a : stP f x i = true) (b : stP f x j = true) : i = j := by
  simp only [stP, Bool.and_eq_true, decide_eq_true_eq] at a b
  exact h i j hi hj a.1 b.1 (a.2.trans b.2.symm)
theorem rnP_u {f : Nat → Int32} {x : Int32} (h : RU f) {i j : Nat} (hi : i < 9) (hj : j < 9) (a : rnP f x i = true) (b : rnP f x j = true) : i = j := by
  simp only [rnP, Bool.and_eq_true, decide_eq_true_eq] at a b
  have h1 := rk_le f i
  have h2 := rk_le f j
  exact h i j hi hj a.1 b.1 ((nI_eq (by omega) (by omega)).mp (a.2.trans b.2.symm))
def slP (f : Nat → Int32) (x : Int32) : Nat → Bool := fun g => gs f g && decide (x ≤ f (16 + 17 * g))
def orI (P : Nat → Bool) : Nat → Int32
  | 0 => nI 0
  | n + 1 => if P n = true then orI P n ||| (nI 1 <<< (nI n &&& 31)) else orI P n
theorem orI_t {P : Nat → Bool} {n : Nat} (h : P n = true) : orI P n ||| (nI 1 <<< (nI n &&& 31)) = orI P (n + 1) := by rw [orI, if_pos h]
theorem orI_f {P : Nat → Bool} {n : Nat} (h : P n = false) : orI P (n + 1) = orI P n := by rw [orI, h]; rfl
def ng (f : Nat → Int32) : Nat := cnt (gs f) 9
theorem ng_le (f : Nat → Int32) : ng f ≤ 9 := cnt_le _ 9
def psP (f : Nat → Int32) : Nat → Bool := fun g => gs f g && decide (¬ rsn f g = 0)
def pairE (f : Nat → Int32) (x z : Int32) : Int32 := if hx f x = true ∧ hx f z = true then (if x = z then -2 else nI 0) else -1
theorem pairE_ok {f : Nat → Int32} {x z : Int32} (h : 0 ≤ pairE f x z) : ∃ g o, g < 9 ∧ o < 9 ∧ g ≠ o ∧ x = nI g ∧ z = nI o ∧ gs f g = true ∧ gs f o = true := by
  unfold pairE at h
  by_cases c : hx f x = true ∧ hx f z = true
  · rw [if_pos c] at h
    obtain ⟨g, hg, rfl, sg⟩ := hx_t c.1
    obtain ⟨o, ho, rfl, so⟩ := hx_t c.2
    refine ⟨g, o, hg, ho, fun e => ?_, rfl, rfl, sg, so⟩
    subst e
    rw [if_pos rfl] at h
    exact absurd h (by decide)
  · rw [if_neg c] at h
    exact absurd h (by decide)
theorem pairE_n {f : Nat → Int32} {g o : Nat} (hg : g < 9) (ho : o < 9) (hgo : g ≠ o) (sg : gs f g = true) (so : gs f o = true) : pairE f (nI g) (nI o) = nI 0 := by
  rw [pairE, hx_n hg, hx_n ho, if_pos ⟨sg, so⟩, if_neg (fun e => hgo ((nI_eq (by omega) (by omega)).mp e))]
def setR (f : Nat → Int32) (x : Int32) : Int32 := if nI 13 ≤ x ∧ x < nI 17 then f (x.toNatClampNeg - 13) else -2
theorem set_ix {x : Int32} (h : ¬ x < nI 13) (h2 : x - nI 13 < nI 4) : ∃ j : Nat, j < 4 ∧ x = nI (13 + j) := by
  have h0 : ¬ x < 0 := fun z => h (Int32.lt_trans z (by decide))
  obtain ⟨n, hn, rfl⟩ := nI_of h0
  have h3 : 13 ≤ n := Nat.le_of_not_lt fun z => h (nI_lt z (by decide))
  rw [pk_sub h3, nI_ltI (by omega) (by decide)] at h2
  exact ⟨n - 13, h2, by rw [show 13 + (n - 13) = n by omega]⟩
theorem set_no {x : Int32} (h : ¬ x < nI 13) (h2 : ¬ x - nI 13 < nI 4) : ¬ x < nI 17 := by
  have h0 : ¬ x < 0 := fun z => h (Int32.lt_trans z (by decide))
  obtain ⟨n, hn, rfl⟩ := nI_of h0
  have h3 : 13 ≤ n := Nat.le_of_not_lt fun z => h (nI_lt z (by decide))
  rw [pk_sub h3, nI_ltI (by omega) (by decide)] at h2
  rw [nI_ltI hn (by decide)]
  omega
theorem x_sw (n : Nat) (hn : n < 2 ^ 31) (x : Int32) : (x.toInt < 0 ∨ (n : Int) < x.toInt) ∨ ∃ k : Nat, k ≤ n ∧ x = nI k := by
  by_cases h : x < 0
  · refine Or.inl (Or.inl ?_)
    have := Int32.lt_iff_toInt_lt.mp h
    simpa using this
  · obtain ⟨k, hk, rfl⟩ := nI_of h
    by_cases h2 : k ≤ n
    · exact Or.inr ⟨k, h2, rfl⟩
    · refine Or.inl (Or.inr ?_)
      rw [nI_toInt hk]
      omega
theorem x_out {n : Nat} {x : Int32} (h : x.toInt < 0 ∨ (n : Int) < x.toInt) {k : Nat} (hk : k ≤ n) (hn : n < 2 ^ 31) : ¬ x = nI k := by
  intro e
  rw [e, nI_toInt (by omega)] at h
  omega
def faR (f : Nat → Int32) (g : Nat) (x : Int32) : Int32 :=
  if x = nI 0 then f (14 + 17 * g) else if x = nI 1 then f (15 + 17 * g) else if x = nI 2 then f (16 + 17 * g) else if x = nI 3 then f (17 + 17 * g) else if x = nI 4 then f (18 + 17 * g) else if x = nI 5 then f (19 + 17 * g) else if x = nI 6 then owd f g else if x = nI 7 then owt f g else if x = nI 8 then f (20 + 17 * g) else if x = nI 9 then nI (rk f g) else -2
def ofR1 (f : Nat → Int32) (x z : Int32) : Int32 := if hx f x = true then faR f x.toNatClampNeg z else -1
def owa (f : Nat → Int32) : Int32 := sumI (fun c => f (o_at c)) 81
def coR1 (f : Nat → Int32) (x : Int32) : Int32 :=
  if x = nI 0 then f 4 else if x = nI 1 then nI (ng f) else if x = nI 2 then f 5 else if x = nI 3 then f 6 else if x = nI 4 then owa f else if x = nI 5 then f 7 else if x = nI 6 then f 8 else if x = nI 7 then f 9 else if x = nI 8 then f 10 else if x = nI 9 then f 11 else if x = nI 10 then f 12 else if x = nI 11 then orI (gs f) 9 else if x = nI 12 then orI (psP f) 9 else setR f x
theorem ite01 {p : Prop} [Decidable p] (h : (if p then (0 : Int32) else 1) = 0) : p := by
  by_cases c : p
  · exact c
  · rw [if_neg c] at h
    exact absurd h (by decide)
theorem ite01n {p : Prop} [Decidable p] (h : ¬ (if p then (0 : Int32) else 1) = 0) : ¬ p := fun c => h (if_pos c)
theorem cnt_all {P : Nat → Bool} : ∀ n, (∀ i, i < n → P i = true) → cnt P n = n
  | 0, _ => rfl
  | n + 1, h => by rw [cnt_t (h n (by omega)), cnt_all n (fun i hi => h i (by omega))]
theorem cnt_lt {P : Nat → Bool} {j : Nat} (h : P j = false) : ∀ n, j < n → cnt P n < n
  | 0, hj => absurd hj (by omega)
  | n + 1, hj => by
    have h1 := cnt_le P n
    by_cases e : j = n
    · rw [cnt_f (e ▸ h)]
      omega
    · have := cnt_lt h n (by omega)
      rw [cnt]
      split <;> omega
/-! what changes in a room -/
theorem upd_self (f : Nat → Int32) (k : Nat) : upd f k (f k) = f := by
  funext j
  by_cases h : j = k
  · rw [h, upd_at]
  · rw [upd_ne h]
def si1 (f : Nat → Int32) (g : Nat) : Nat → Int32 := upd f (16 + 17 * g) (f (16 + 17 * g) + nI 1)
def sgT (f : Nat → Int32) (g : Nat) : Bool := decide (¬ si1 f g (16 + 17 * g) < si1 f g 3 * si1 f g (15 + 17 * g))
def sg1 (f : Nat → Int32) (g : Nat) : Nat → Int32 := upd (si1 f g) (16 + 17 * g) (si1 f g (15 + 17 * g))
def sgF (f : Nat → Int32) (g : Nat) : Nat → Int32 := if sgT f g = true then upd (sg1 f g) (18 + 17 * g) (sg1 f g (18 + 17 * g) + nI 1) else si1 f g
theorem sgF_ne {f : Nat → Int32} {g i : Nat} (h1 : i ≠ 16 + 17 * g) (h2 : i ≠ 18 + 17 * g) : sgF f g i = f i := by
  unfold sgF
  split
  · rw [upd_ne h2, sg1, upd_ne h1, si1, upd_ne h1]
  · rw [si1, upd_ne h1]
def brN (f : Nat → Int32) : Nat → Nat → Int32
  | 0 => f
  | j + 1 => if gs f j = true then sgF (brN f j) j else brN f j
theorem brN_ne (f : Nat → Int32) {i : Nat} (h : i < 13 ∨ ((i - 13) % 17 ≠ 3 ∧ (i - 13) % 17 ≠ 5)) : ∀ j, brN f j i = f i
  | 0 => rfl
  | j + 1 => by
    rw [brN]
    split
    · rw [sgF_ne (by omega) (by omega), brN_ne f h j]
    · exact brN_ne f h j
def brP (f : Nat → Int32) : Nat → Bool := fun i => gs f i && sgT (brN f i) i
def brM (f : Nat → Int32) : Nat → Nat → Int32
  | 0 => f
  | m + 1 => brN (brM f m) 9
theorem brM_ne (f : Nat → Int32) {i : Nat} (h : i < 13 ∨ ((i - 13) % 17 ≠ 3 ∧ (i - 13) % 17 ≠ 5)) : ∀ m, brM f m i = f i
  | 0 => rfl
  | m + 1 => by rw [brM, brN_ne _ h, brM_ne f h m]
def brMC (f : Nat → Int32) : Nat → Nat
  | 0 => 0
  | m + 1 => brMC f m + cnt (brP (brM f m)) 9
def ps1 (f : Nat → Int32) (m : Nat) : Nat → Int32 := upd (brM f m) 4 (brM f m 4 + nI m)
def psF (f : Nat → Int32) (m : Nat) : Nat → Int32 := upd (ps1 f m) 12 (ps1 f m 12 + nI (brMC f m))
theorem psF_ne (f : Nat → Int32) {i : Nat} (m : Nat) (h : i < 13 ∨ ((i - 13) % 17 ≠ 3 ∧ (i - 13) % 17 ≠ 5)) (h4 : i ≠ 4) (h12 : i ≠ 12) : psF f m i = f i := by
  rw [psF, upd_ne h12, ps1, upd_ne h4, brM_ne f h]
theorem PF_congr {f f' : Nat → Int32} (h : PF f) (h1 : ∀ g, g < 9 → f' (13 + 17 * g) = f (13 + 17 * g)) (h2 : ∀ g, g < 9 → f' (15 + 17 * g) = f (15 + 17 * g)) : PF f' := fun g hg => by rw [h1 g hg, h2 g hg]; exact h g hg
theorem gs_congr {f f' : Nat → Int32} {g : Nat} (h : f' (13 + 17 * g) = f (13 + 17 * g)) : gs f' g = gs f g := by rw [gs, gs, h]
theorem PF_brN {f : Nat → Int32} (h : PF f) (j : Nat) : PF (brN f j) := PF_congr h (fun g _ => brN_ne f (by omega) j) (fun g _ => brN_ne f (by omega) j)
theorem PF_brM {f : Nat → Int32} (h : PF f) (j : Nat) : PF (brM f j) := PF_congr h (fun g _ => brM_ne f (by omega) j) (fun g _ => brM_ne f (by omega) j)
def dr1 (f : Nat → Int32) (g : Nat) : Nat → Int32 := upd f (17 + 17 * g) (f (17 + 17 * g) + nI 1)
def dr2 (f : Nat → Int32) (g : Nat) : Nat → Int32 := upd (dr1 f g) 6 (dr1 f g 6 + nI 1)
def drF (f : Nat → Int32) (g c : Nat) : Nat → Int32 := psF (dr2 f g) c
theorem dr2_ne {f : Nat → Int32} {g i : Nat} (h1 : i ≠ 17 + 17 * g) (h2 : i ≠ 6) : dr2 f g i = f i := by rw [dr2, upd_ne h2, dr1, upd_ne h1]
theorem PF_dr2 {f : Nat → Int32} (h : PF f) (g : Nat) : PF (dr2 f g) := PF_congr h (fun g _ => dr2_ne (by omega) (by omega)) (fun g _ => dr2_ne (by omega) (by omega))
/-- what a cup, a bow, a breath leave as it is: settings, flags, seats, patience -/
def stc (i : Nat) : Prop := i < 4 ∨ (13 ≤ i ∧ (i - 13) % 17 < 3)
theorem drF_ne {f : Nat → Int32} {g c i : Nat} (h : stc i) : drF f g c i = f i := by
  unfold stc at h
  rw [drF, psF_ne _ _ (by omega) (by omega) (by omega), dr2_ne (by omega) (by omega)]
theorem layF_ne {f : Nat → Int32} {g o i : Nat} {k : Int32} (ho : o < 9) (h : stc i) : layF f g o k i = f i := by
  unfold stc at h
  rw [layF, upd_ne (by omega), upd_ne (by omega)]
/-- seats by rank -/
def stF (f : Nat → Int32) : Nat → Nat → Int32
  | 0 => f
  | j + 1 => if gs f j = true then upd (stF f j) (14 + 17 * j) (nI (rk f j)) else stF f j
theorem stF_ne (f : Nat → Int32) {i : Nat} : ∀ j, (∀ g, g < j → i ≠ 14 + 17 * g) → stF f j i = f i
  | 0, _ => rfl
  | j + 1, h => by
    rw [stF]
    split
    · rw [upd_ne (h j (by omega)), stF_ne f j (fun g hg => h g (by omega))]
    · exact stF_ne f j (fun g hg => h g (by omega))
def stCP (f : Nat → Int32) : Nat → Bool := fun i => gs f i && decide (¬ f (14 + 17 * i) = nI (rk f i))
def rkU (r f : Nat → Int32) : Nat → Nat → Int32
  | 0 => r
  | j + 1 => upd (rkU r f j) j (nI (rk f j))
theorem rkU_at (r f : Nat → Int32) : ∀ j i, i < j → rkU r f j i = nI (rk f i)
  | 0, _, h => absurd h (by omega)
  | j + 1, i, h => by
    rw [rkU]
    by_cases e : i = j
    · rw [e, upd_at]
    · rw [upd_ne e, rkU_at r f j i (by omega)]
def rkA (f : Nat → Int32) : Nat → Int32 := fun g => nI (rk f g)
/-- the cup goes round -/
def od (f : Nat → Int32) (s : Nat) : Nat := (lst (stP f (nI s)) 9).toNatClampNeg
def layO (h : Nat → Int32) (g : Nat) : Option Nat → Nat → Int32
  | none => h
  | some o => layF h g o (nI 1)
def laI : Option Nat → Int32
  | none => -1
  | some o => nI o
def cpH (f : Nat → Int32) (c : Nat) : Nat → (Nat → Int32) × Option Nat × Nat
  | 0 => (f, none, 0)
  | s + 1 => if rsn (cpH f c s).1 (od f s) = 0 then (layO (drF (cpH f c s).1 (od f s) c) (od f s) (cpH f c s).2.1, some (od f s), (cpH f c s).2.2 + 1) else cpH f c s
/-- each seat has its guest -/
def SJ (f : Nat → Int32) : Prop := ∀ s, s < ng f → ∃ g, g < 9 ∧ gs f g = true ∧ f (14 + 17 * g) = nI s
theorem od_is {f : Nat → Int32} (h1 : SU f) (h2 : SJ f) {s : Nat} (hs : s < ng f) : od f s < 9 ∧ gs f (od f s) = true ∧ lst (stP f (nI s)) 9 = nI (od f s) := by
  obtain ⟨g, hg, sg, e⟩ := h2 s hs
  have hP : stP f (nI s) g = true := by simp [stP, sg, e]
  have hl := lst_one hP 9 hg (fun i hi hp => stP_u h1 hi hg hp hP)
  have ho : od f s = g := by rw [od, hl, nI_clamp (by omega)]
  rw [ho]
  exact ⟨hg, sg, hl⟩
theorem cpH_keep {f : Nat → Int32} (h1 : SU f) (h2 : SJ f) {c : Nat} : ∀ s, s ≤ ng f → (∀ i, stc i → (cpH f c s).1 i = f i) ∧ (∀ o, (cpH f c s).2.1 = some o → o < 9 ∧ gs f o = true ∧ ∃ t, t < s ∧ o = od f t) ∧ (cpH f c s).2.2 ≤ s
  | 0, _ => ⟨fun _ _ => rfl, (fun o h => by cases h), Nat.le_refl _⟩
  | s + 1, hs => by
    obtain ⟨k1, k2, k3⟩ := cpH_keep h1 h2 (c := c) s (by omega)
    obtain ⟨o1, o2, o3⟩ := od_is h1 h2 (show s < ng f by omega)
    rw [cpH]
    split
    · refine ⟨fun i hi => ?_, fun o e => ?_, by show (cpH f c s).2.2 + 1 ≤ s + 1; omega⟩
      · show layO _ _ _ i = f i
        cases e : (cpH f c s).2.1 with
        | none => exact (drF_ne hi).trans (k1 i hi)
        | some o => exact (layF_ne (k2 o e).1 hi).trans ((drF_ne hi).trans (k1 i hi))
      · have e2 : od f s = o := Option.some.inj e
        rw [← e2]
        exact ⟨o1, o2, s, by omega, rfl⟩
    · exact ⟨k1, fun o e => by obtain ⟨p1, p2, t, p3, p4⟩ := k2 o e; exact ⟨p1, p2, t, by omega, p4⟩, by omega⟩
theorem SU_congr {f f' : Nat → Int32} (h : SU f) (h1 : ∀ g, g < 9 → f' (13 + 17 * g) = f (13 + 17 * g)) (h2 : ∀ g, g < 9 → f' (14 + 17 * g) = f (14 + 17 * g)) : SU f' := fun i j hi hj a b e => h i j hi hj (by rwa [gs_congr (h1 i hi)] at a) (by rwa [gs_congr (h1 j hj)] at b) (by rwa [h2 i hi, h2 j hj] at e)
theorem lst_congr {P P' : Nat → Bool} : ∀ n, (∀ i, i < n → P i = P' i) → lst P n = lst P' n
  | 0, _ => rfl
  | n + 1, h => by rw [lst, lst, h n (by omega), lst_congr n (fun i hi => h i (by omega))]
theorem cnt_congr {P P' : Nat → Bool} : ∀ n, (∀ i, i < n → P i = P' i) → cnt P n = cnt P' n
  | 0, _ => rfl
  | n + 1, h => by rw [cnt, cnt, h n (by omega), cnt_congr n (fun i hi => h i (by omega))]
/-- one who comes -/
def nwF (f : Nat → Int32) (g : Nat) (x : Int32) : Nat → Int32 := upd (upd (upd f (13 + 17 * g) 1) (14 + 17 * g) (nI (ng f))) (15 + 17 * g) x
def fre (f : Nat → Int32) : Nat → Nat → Nat
  | 0, g => g
  | n + 1, g => if gs f g = true then fre f n (g + 1) else g
def coR (f : Nat → Int32) (x : Int32) : Int32 × (Nat → Int32) := if x < nI 1 ∨ nI 30 < x then (-2, f) else if ng f = 9 then (-4, f) else (nI (fre f 9 0), nwF f (fre f 9 0) x)
/-- one who leaves -/
def se0 (f : Nat → Int32) (v : Int32) : Nat → Nat → Int32
  | 0 => f
  | j + 1 => if gs f j = true ∧ v < f (14 + 17 * j) then upd (se0 f v j) (14 + 17 * j) (f (14 + 17 * j) - nI 1) else se0 f v j
theorem se0_ne (f : Nat → Int32) {i : Nat} {v : Int32} : ∀ j, (∀ g, g < j → i ≠ 14 + 17 * g) → se0 f v j i = f i
  | 0, _ => rfl
  | j + 1, h => by
    rw [se0]
    split
    · rw [upd_ne (h j (by omega)), se0_ne f j (fun g hg => h g (by omega))]
    · exact se0_ne f j (fun g hg => h g (by omega))
def lv1 (f : Nat → Int32) (g : Nat) : Nat → Int32 := fgtF (se0 f (f (14 + 17 * g)) 9) g
def lvF (f : Nat → Int32) (g : Nat) : Nat → Int32 := upd (upd (upd (upd (upd (upd (upd (lv1 f g) (13 + 17 * g) 0) (15 + 17 * g) 0) (16 + 17 * g) 0) (17 + 17 * g) 0) (18 + 17 * g) 0) (19 + 17 * g) 0) (14 + 17 * g) 0
def leR (f : Nat → Int32) (x : Int32) : Int32 × (Nat → Int32) := if hx f x = true then (f (14 + 17 * x.toNatClampNeg), lvF f x.toNatClampNeg) else (-1, f)
def wo1 (f : Nat → Int32) (g : Nat) : Nat → Int32 := upd f (16 + 17 * g) 0
def wo2 (f : Nat → Int32) (g : Nat) : Nat → Int32 := upd (wo1 f g) (19 + 17 * g) (wo1 f g (19 + 17 * g) + nI 1)
def woF (f : Nat → Int32) (g : Nat) : Nat → Int32 := upd (wo2 f g) 11 (wo2 f g 11 + nI 1)
def woR (f : Nat → Int32) (x : Int32) : Int32 × (Nat → Int32) := if hx f x = true then (f (16 + 17 * x.toNatClampNeg), woF f x.toNatClampNeg) else (-1, f)
def boR (f : Nat → Int32) (x z : Int32) : Int32 × (Nat → Int32) := if pairE f x z < 0 then (pairE f x z, f) else if f (21 + 17 * x.toNatClampNeg + z.toNatClampNeg) = 0 then (-5, f) else (f (21 + 17 * x.toNatClampNeg + z.toNatClampNeg) - 1, payF f x.toNatClampNeg z.toNatClampNeg)
def ofF (f : Nat → Int32) (g o c : Nat) : Nat → Int32 := offF (layF (drF f o c) o g (nI 2)) g o
def ofR (f : Nat → Int32) (x z : Int32) (c : Nat) : Int32 × (Nat → Int32) := if pairE f x z < 0 then (pairE f x z, f) else if ¬ rsn f z.toNatClampNeg = 0 ∨ nI 9999 < f 4 + f 0 then (-5, f) else (ofF f x.toNatClampNeg z.toNatClampNeg c (21 + 17 * z.toNatClampNeg + x.toNatClampNeg), ofF f x.toNatClampNeg z.toNatClampNeg c)
def beR (f : Nat → Int32) (x : Int32) : Int32 × (Nat → Int32) := if x < nI 1 ∨ nI 99 < x then (-2, f) else if nI 9999 < f 4 + x then (-5, f) else (nI (brMC f x.toNatClampNeg), psF f x.toNatClampNeg)
def cpE (f : Nat → Int32) (c : Nat) : Nat → Int32 := stF (cpH f c (ng f)).1 9
def rnF (f : Nat → Int32) (c : Nat) : Nat → Int32 := upd (cpE f c) 5 (cpE f c 5 + nI 1)
def roR (f : Nat → Int32) (c : Nat) : Int32 × (Nat → Int32) := if ng f = 0 ∨ nI 9900 < f 4 then (-5, f) else (nI (cpH f c (ng f)).2.2, rnF f c)
def bitC (x : Int32) : Int32 :=
  let u (a : Int32) (k : Nat) : Int32 := (a.toUInt32 >>> ((nI k).toUInt32 &&& Int32.toUInt32 31)).toInt32
  let x1 := x - (u x 1 &&& 1431655765)
  let x2 := (x1 &&& 858993459) + (u x1 2 &&& 858993459)
  let x3 := (x2 + u x2 4) &&& 252645135
  let x4 := x3 + u x3 8
  let x5 := x4 + u x4 16
  x5 &&& nI 63
theorem bitC_9 : ∀ b0 b1 b2 b3 b4 b5 b6 b7 b8 : Bool, bitC (orI (fun i => [b0, b1, b2, b3, b4, b5, b6, b7, b8].getD i false) 9) = nI (cnt (fun i => [b0, b1, b2, b3, b4, b5, b6, b7, b8].getD i false) 9) := by decide +kernel
theorem orI_congr {P P' : Nat → Bool} : ∀ n, (∀ i, i < n → P i = P' i) → orI P n = orI P' n
  | 0, _ => rfl
  | n + 1, h => by rw [orI, orI, h n (by omega), orI_congr n (fun i hi => h i (by omega))]
theorem bitC_or (P : Nat → Bool) : bitC (orI P 9) = nI (cnt P 9) := by
  have h := bitC_9 (P 0) (P 1) (P 2) (P 3) (P 4) (P 5) (P 6) (P 7) (P 8)
  have e : ∀ i, i < 9 → P i = [P 0, P 1, P 2, P 3, P 4, P 5, P 6, P 7, P 8].getD i false := fun i hi => by
    match i, hi with
    | 0, _ => rfl
    | 1, _ => rfl
    | 2, _ => rfl
    | 3, _ => rfl
    | 4, _ => rfl
    | 5, _ => rfl
    | 6, _ => rfl
    | 7, _ => rfl
    | 8, _ => rfl
    | n + 9, h => omega
  rw [orI_congr 9 e, cnt_congr 9 e]
  exact h
theorem fre_is {f : Nat → Int32} {j : Nat} (hj : gs f j = false) : ∀ n k, (∀ i, k ≤ i → i < j → gs f i = true) → k ≤ j → j < k + n → fre f n k = j
  | 0, k, _, h1, h2 => by omega
  | n + 1, k, h, h1, h2 => by
    rw [fre]
    by_cases e : k = j
    · rw [e, hj]
      rfl
    · rw [if_pos (h k (by omega) (by omega))]
      exact fre_is hj n (k + 1) (fun i a b => h i (by omega) b) (by omega) (by omega)
theorem upd_cong {f f' : Nat → Int32} {k i : Nat} {x : Int32} (h : f i = f' i) : upd f k x i = upd f' k x i := by
  by_cases e : i = k
  · rw [e, upd_at, upd_at]
  · rw [upd_ne e, upd_ne e, h]
/-- the places that a room's bows have no part in -/
def hpl (i : Nat) : Prop := i < 7 ∨ i = 11 ∨ i = 12 ∨ (13 ≤ i ∧ (i - 13) % 17 < 7)
theorem rmH_b {y : Nat → ClassId} {a : Nat → Nat} {f f' r : Nat → Int32} (h : ∀ i, hpl i → f' i = f i) : rmH y a f r = rmH y a f' r := rmH_eq (fun i _ _ c => (h i c).symm) (fun _ _ => rfl)
theorem layF_h {f : Nat → Int32} {g o : Nat} {k : Int32} (ho : o < 9) (i : Nat) (h : hpl i) : layF f g o k i = f i := by
  unfold hpl at h
  rw [layF, upd_ne (by omega), upd_ne (by omega)]
theorem payF_h {f : Nat → Int32} {g o : Nat} (ho : o < 9) (i : Nat) (h : hpl i) : payF f g o i = f i := by
  unfold hpl at h
  unfold payF
  split
  · rfl
  · rw [upd_ne (by omega), upd_ne (by omega), upd_ne (by omega)]
theorem offF_h {f : Nat → Int32} {g o : Nat} (hg : g < 9) (ho : o < 9) (i : Nat) (h : hpl i) : offF f g o i = f i := by
  unfold hpl at h
  rw [offF, upd_ne (by omega), upd_ne (by omega), upd_ne (by omega)]
theorem fg0_ne (f : Nat → Int32) {g i : Nat} (hg : g < 9) : ∀ j, j ≤ 9 → (i < 13 ∨ (i - 13) % 17 < 8) → fg0 f g j i = f i
  | 0, _, _ => rfl
  | j + 1, hj, h => by rw [fg0, upd_ne (by omega), upd_ne (by omega), fg0_ne f hg j (by omega) h]
theorem fgtF_h {f : Nat → Int32} {g : Nat} (hg : g < 9) (i : Nat) (h : hpl i) : fgtF f g i = f i := by
  unfold hpl at h
  rw [fgtF, upd_ne (by omega), fg0_ne _ hg 9 (by omega) (by omega), upd_ne (by omega)]
theorem PF_stc {f f' : Nat → Int32} (h : PF f) (h1 : ∀ i, stc i → f' i = f i) : PF f' := PF_congr h (fun g _ => h1 _ (by unfold stc; omega)) (fun g _ => h1 _ (by unfold stc; omega))
theorem SU_stc {f f' : Nat → Int32} (h : SU f) (h1 : ∀ i, stc i → f' i = f i) : SU f' := SU_congr h (fun g _ => h1 _ (by unfold stc; omega)) (fun g _ => h1 _ (by unfold stc; omega))
theorem stP_stc {f f' : Nat → Int32} {x : Int32} (h1 : ∀ i, stc i → f' i = f i) : stP f' x = stP f x := by
  funext g
  rw [stP, stP, gs_congr (h1 (13 + 17 * g) (by unfold stc; omega)), h1 (14 + 17 * g) (by unfold stc; omega)]
