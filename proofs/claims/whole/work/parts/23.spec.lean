/-! the reference's public methods -/
theorem nI_ne1 {o : Nat} (h : o < 9) : ¬ nI o = -1 := fun e => by
  have := congrArg Int32.toInt e
  rw [nI_toInt (by omega)] at this
  have h2 : (-1 : Int32).toInt = -1 := rfl
  omega
def cpF (r s : Nat → Int32) (j : Nat) : Nat → Int32 := fun i => if i < j then s i else r i
theorem cpF_0 (r s : Nat → Int32) : cpF r s 0 = r := rfl
theorem cpF_s (r s : Nat → Int32) (j : Nat) : upd (cpF r s j) j (s j) = cpF r s (j + 1) := by
  funext i
  by_cases e : i = j
  · rw [upd_is e, cpF, if_pos (by omega), e]
  · rw [upd_ne e, cpF, cpF]
    by_cases l : i < j
    · rw [if_pos l, if_pos (by omega)]
    · rw [if_neg l, if_neg (by omega)]
theorem cpF_at {r s : Nat → Int32} {n i : Nat} (h : i < n) : cpF r s n i = s i := if_pos h
theorem md_spare {y : Nat → ClassId} {b : Nat → Nat} {s : Nat → Int32} {q : mdQ} {v w : Nat → Int32} (h : ∀ i, i < 166 → v i = w i) : mdW y b s (qs_spare q v) = mdW y b s (qs_spare q w) := by
  have e := cut_eq h
  show mdW y b s (v, q.2) = mdW y b s (w, q.2)
  simp only [mdW, q_spare, q_trial, q_before, q_saved, q_isSaved, q_ranks, q_row, q_read, q_pad, q_length, q_states, q_orders, q_at, e]
theorem md_trial {y : Nat → ClassId} {b : Nat → Nat} {s : Nat → Int32} {q : mdQ} {v w : Nat → Int32} (h : ∀ i, i < 166 → v i = w i) : mdW y b s (qs_trial q v) = mdW y b s (qs_trial q w) := by
  have e := cut_eq h
  show mdW y b s (q.1, v, q.2.2) = mdW y b s (q.1, w, q.2.2)
  simp only [mdW, q_spare, q_trial, q_before, q_saved, q_isSaved, q_ranks, q_row, q_read, q_pad, q_length, q_states, q_orders, q_at, e]
/-- the oldest state goes -/
def shF (B : Nat → Int32) (j : Nat) : Nat → Int32 := fun i => if i < j then B (166 + i) else B i
theorem shF_s (B : Nat → Int32) (j : Nat) : upd (shF B j) j (shF B j (166 + j)) = shF B (j + 1) := by
  funext i
  by_cases e : i = j
  · rw [upd_is e, shF, shF, if_neg (by omega), if_pos (by omega), e]
  · rw [upd_ne e, shF, shF]
    by_cases l : i < j
    · rw [if_pos l, if_pos (by omega)]
    · rw [if_neg l, if_neg (by omega)]
/-- a state goes to the place k -/
def plF (B S : Nat → Int32) (k j : Nat) : Nat → Int32 := fun i => if 166 * k ≤ i ∧ i < 166 * k + j then S (i - 166 * k) else B i
theorem plF_0 (B S : Nat → Int32) (k : Nat) : plF B S k 0 = B := by
  funext i
  rw [plF, if_neg (by omega)]
theorem plF_s (B S : Nat → Int32) (k j : Nat) : upd (plF B S k j) (166 * k + j) (S j) = plF B S k (j + 1) := by
  funext i
  by_cases e : i = 166 * k + j
  · rw [upd_is e, plF, if_pos (by omega), e, Nat.add_sub_cancel_left]
  · rw [upd_ne e, plF, plF]
    by_cases l : 166 * k ≤ i ∧ i < 166 * k + j
    · rw [if_pos l, if_pos (by omega)]
    · rw [if_neg l, if_neg (by omega)]
def reQ (q : mdQ) (st : Nat) : mdQ := if st = 6 then qs_states (qs_before q (plF (shF (q_before q) 830) (q_spare q) 5 166)) (nI 6) else qs_states (qs_before q (plF (q_before q) (q_spare q) st 166)) (nI (st + 1))
def rcQ (q : mdQ) (st : Nat) (r : Int32) : mdQ := if 0 ≤ r then reQ q st else q
theorem roQ_st (f : Nat → Int32) (c : Nat) (q : mdQ) : q_states (roQ f c q) = q_states q := by
  unfold roQ
  split <;> rfl
def mxS (k : Nat) : Nat := if k = 1 then 20 else if k = 2 then 30 else 9
def seB (x v : Int32) : Bool := decide (0 ≤ x) && (decide (x ≤ nI 3) && inB v (nI 1) (nI (mxS x.toNatClampNeg)))
def seR (f : Nat → Int32) (x v : Int32) : Int32 × (Nat → Int32) := if seB x v = true then (f x.toNatClampNeg, upd f x.toNatClampNeg v) else (-2, f)
theorem seB_out {x v : Int32} (h : x.toInt < 0 ∨ (3 : Int) < x.toInt) : seB x v = false := by
  rcases h with h | h
  · rw [seB, decide_eq_false (p := 0 ≤ x) (fun z => by have := Int32.le_iff_toInt_le.mp z; have z2 : (0 : Int32).toInt = 0 := rfl; omega)]
    rfl
  · rw [seB, decide_eq_false (p := x ≤ nI 3) (fun z => by have := Int32.le_iff_toInt_le.mp z; rw [nI_toInt (by decide)] at this; omega)]
    simp
def seQ (s : Nat → Int32) (q : mdQ) (st : Nat) (x v : Int32) : mdQ := if seB x v = true then rcQ (qs_spare q s) st (s x.toNatClampNeg) else q
theorem sumI_add (h : Nat → Int32) (m : Nat) : ∀ n, sumI h (m + n) = sumI h m + sumI (fun i => h (m + i)) n
  | 0 => (Int32.add_zero _).symm
  | n + 1 => by
    show sumI h (m + n) + h (m + n) = _
    rw [sumI_add h m n, sumI, Int32.add_assoc]
theorem owa_n (f : Nat → Int32) : ∀ n, sumI (fun c => f (o_at c)) (9 * n) = sumI (owd f) n
  | 0 => rfl
  | n + 1 => by
    show sumI (fun c => f (o_at c)) (9 * n + 9) = sumI (owd f) n + owd f n
    rw [sumI_add, owa_n f n]
    congr 1
    exact sumI_congr 9 (fun o ho => by rw [o_at_in ho])
theorem owa_eq (f : Nat → Int32) : sumI (owd f) 9 = owa f := (owa_n f 9).symm
def ogR (f : Nat → Int32) (x : Int32) : Int32 := if x = nI 4 then owa f else if x = nI 11 then orI (gs f) 9 else orI (psP f) 9
def cnR (f : Nat → Int32) (len st x : Int32) : Int32 := if x = nI 17 then len else if x = nI 18 then st else coR1 f x
theorem or0 (x : Int32) : x ||| nI 0 = x := by
  show x ||| 0 = x
  simp
theorem coR1_set {f : Nat → Int32} {k : Nat} (h : 13 ≤ k) (hk : k < 2 ^ 31) : coR1 f (nI k) = setR f (nI k) := by
  have n : ∀ j : Nat, j < 13 → ¬ nI k = nI j := fun j hj e => by have := (nI_eq hk (by omega)).mp e; omega
  rw [coR1, if_neg (n 0 (by omega)), if_neg (n 1 (by omega)), if_neg (n 2 (by omega)), if_neg (n 3 (by omega)), if_neg (n 4 (by omega)), if_neg (n 5 (by omega)), if_neg (n 6 (by omega)), if_neg (n 7 (by omega)), if_neg (n 8 (by omega)), if_neg (n 9 (by omega)), if_neg (n 10 (by omega)), if_neg (n 11 (by omega)), if_neg (n 12 (by omega))]
theorem setR_in {f : Nat → Int32} {k : Nat} (h : k < 4) : setR f (nI (13 + k)) = f k := by
  rw [setR, if_pos ⟨nI_le (by omega) (by omega), nI_lt (by omega) (by decide)⟩, nI_clamp (by omega), Nat.add_sub_cancel_left]
theorem coR1_out {f : Nat → Int32} {x : Int32} (h : x.toInt < 0 ∨ (18 : Int) < x.toInt) : coR1 f x = -2 := by
  have n : ∀ j : Nat, j < 13 → ¬ x = nI j := fun j hj => x_out (n := 18) h (by omega) (by decide)
  rw [coR1, if_neg (n 0 (by omega)), if_neg (n 1 (by omega)), if_neg (n 2 (by omega)), if_neg (n 3 (by omega)), if_neg (n 4 (by omega)), if_neg (n 5 (by omega)), if_neg (n 6 (by omega)), if_neg (n 7 (by omega)), if_neg (n 8 (by omega)), if_neg (n 9 (by omega)), if_neg (n 10 (by omega)), if_neg (n 11 (by omega)), if_neg (n 12 (by omega)), setR, if_neg]
  rintro ⟨h1, h2⟩
  have h3 := Int32.le_iff_toInt_le.mp h1
  have h4 := Int32.lt_iff_toInt_lt.mp h2
  rw [nI_toInt (by decide)] at h3 h4
  omega
theorem st_lo {f : Nat → Int32} (h : SN f) {x : Int32} (hx0 : x < 0) : lst (stP f x) 9 = -1 := lst_none 9 (fun i hi => by
  rw [stP, decide_eq_false (fun e => by have := h i hi; rw [e] at this; exact absurd hx0 (Int32.not_lt.mpr this)), Bool.and_false])
theorem rn_lo (f : Nat → Int32) {x : Int32} (hx0 : x < 0) : lst (rnP f x) 9 = -1 := lst_none 9 (fun i hi => by
  rw [rnP, decide_eq_false (fun e => by rw [← e] at hx0; exact nI_pos (by have := rk_le f i; omega) hx0), Bool.and_false])
/-- breaths, one by one -/
def biF (f : Nat → Int32) : Nat → Nat → Int32
  | 0 => f
  | k + 1 => psF (biF f k) 1
theorem biF_ne (f : Nat → Int32) {i : Nat} (h : i < 13 ∨ ((i - 13) % 17 ≠ 3 ∧ (i - 13) % 17 ≠ 5)) (h4 : i ≠ 4) (h12 : i ≠ 12) : ∀ k, biF f k i = f i
  | 0 => rfl
  | k + 1 => by rw [biF, psF_ne _ _ h h4 h12, biF_ne f h h4 h12 k]
theorem PF_biF {f : Nat → Int32} (h : PF f) (k : Nat) : PF (biF f k) := PF_congr h (fun g _ => biF_ne f (by omega) (by omega) (by omega) k) (fun g _ => biF_ne f (by omega) (by omega) (by omega) k)
theorem OB_biF {f : Nat → Int32} (h : OB f) (k : Nat) : OB (biF f k) := OB_congr h (fun g _ => sumI_congr 9 (fun o _ => biF_ne f (by omega) (by omega) (by omega) k))
theorem ng_congr {f f' : Nat → Int32} (h : ∀ g, g < 9 → f' (13 + 17 * g) = f (13 + 17 * g)) : ng f' = ng f := cnt_congr 9 (fun g hg => gs_congr (h g hg))
def siR (f : Nat → Int32) (g : Nat) (v : Int32) : Nat → Nat → Int32
  | 0, k => if nI (rk (biF f k) g) ≤ v then nI k else -6
  | n + 1, k => if nI (rk (biF f k) g) ≤ v then nI k else siR f g v n (k + 1)
def stB (f : Nat → Int32) (x z : Int32) : Bool := hx f x && inB z (nI 0) (nI (ng f) - nI 1)
def stR (f : Nat → Int32) (x z : Int32) : Int32 := if stB f x z = true then siR f x.toNatClampNeg z 300 0 else -1
def iwR (f : Nat → Int32) (x : Int32) : Int32 := if hx f x = true then nI (rk (wo1 f x.toNatClampNeg) x.toNatClampNeg) else -1
def irR (f : Nat → Int32) (c : Nat) (x : Int32) : Int32 := if inB x (nI 0) (nI 2) = true then (if ng f = 0 then -5 else if x = nI 0 then nI (cpH f c (ng f)).2.2 else if x = nI 1 then nI (cpH f c (ng f)).2.2 * f 0 else lst (stP (rnF f c) (nI 0)) 9) else -2
def grR (f : Nat → Int32) : Int32 := lst (rnP f (nI 0)) 9
def clF (f : Nat → Int32) : Nat → Int32
  | 0 => nI 1 <<< (grR f &&& 31)
  | k + 1 => clF f k ||| (nI 1 <<< (grR (biF f (k + 1)) &&& 31))
def clR (f : Nat → Int32) : Int32 := if ng f = 0 then nI 0 else clF f 100
