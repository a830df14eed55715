/-! what if: a round, and who leads -/
theorem drF_4 {f : Nat → Int32} {g c : Nat} : drF f g c 4 = f 4 + nI c := by
  rw [drF, psF, upd_ne (by omega), ps1, upd_at, brM_ne _ (by omega), dr2_ne (by omega) (by omega)]
theorem layO_4 (h : Nat → Int32) (g : Nat) (o : Option Nat) : layO h g o 4 = h 4 := by
  cases o with
  | none => rfl
  | some o => exact lay_ne (by omega) (by omega)
theorem cpH_4 (f : Nat → Int32) (c : Nat) : ∀ s, (cpH f c s).1 4 = f 4 + nI (c * (cpH f c s).2.2)
  | 0 => by
    show f 4 = f 4 + nI (c * 0)
    rw [Nat.mul_zero]
    exact (Int32.add_zero _).symm
  | s + 1 => by
    rw [cpH]
    split
    · show layO _ _ _ 4 = f 4 + nI (c * ((cpH f c s).2.2 + 1))
      rw [layO_4, drF_4, cpH_4 f c s, Int32.add_assoc, nI_add, Nat.mul_succ]
    · exact cpH_4 f c s
theorem cp_br {f : Nat → Int32} {c m : Nat} (hm : (cpH f c (ng f)).2.2 = m) (hc : f 0 = nI c) : stF (cpH f c (ng f)).1 9 4 - f 4 = nI m * f 0 := by
  rw [stF_ne _ 9 (fun g hg => by omega), cpH_4, hm, hc, Nat.mul_comm c m, show nI (m * c) = nI m * nI c from Int32.ofNat_mul m c, Int32.sub_eq_add_neg, Int32.add_comm (f 4), Int32.add_assoc, Int32.add_right_neg, Int32.add_zero]
theorem irR_f {f : Nat → Int32} {c : Nat} {x : Int32} (h : inB x (nI 0) (nI 2) = false) : irR f c x = -2 := by
  rw [irR, h]
  rfl
theorem irR_0 {f : Nat → Int32} {c : Nat} {x : Int32} (h : inB x (nI 0) (nI 2) = true) (n : ng f = 0) : irR f c x = -5 := by rw [irR, if_pos h, if_pos n]
theorem irR_1 {f : Nat → Int32} {c : Nat} {x : Int32} (h : inB x (nI 0) (nI 2) = true) (n : ¬ ng f = 0) (e : x = nI 0) : irR f c x = nI (cpH f c (ng f)).2.2 := by rw [irR, if_pos h, if_neg n, if_pos e]
theorem irR_2 {f : Nat → Int32} {c : Nat} {x : Int32} (h : inB x (nI 0) (nI 2) = true) (n : ¬ ng f = 0) (e0 : ¬ x = nI 0) (e : x = nI 1) : irR f c x = nI (cpH f c (ng f)).2.2 * f 0 := by rw [irR, if_pos h, if_neg n, if_neg e0, if_pos e]
theorem irR_3 {f : Nat → Int32} {c : Nat} {x : Int32} (h : inB x (nI 0) (nI 2) = true) (n : ¬ ng f = 0) (e0 : ¬ x = nI 0) (e : ¬ x = nI 1) : irR f c x = lst (stP (stF (cpH f c (ng f)).1 9) (nI 0)) 9 := by
  rw [irR, if_pos h, if_neg n, if_neg e0, if_neg e, show stP (rnF f c) (nI 0) = stP (stF (cpH f c (ng f)).1 9) (nI 0) from stP_stc (fun i hi => upd_ne (by unfold stc at hi; omega))]
def clX (f : Nat → Int32) : Nat → Int32
  | 0 => nI 0
  | k + 1 => clX f k ||| (nI 1 <<< (grR (biF f k) &&& 31))
theorem clX_F (f : Nat → Int32) : ∀ k, clX f (k + 1) = clF f k
  | 0 => by
    show (0 : Int32) ||| _ = _
    rw [Int32.or_comm]
    exact Int32.or_zero
  | k + 1 => by rw [clX, clX_F f k, clF]
def clY (f : Nat → Int32) (k : Nat) : Int32 := if ng f = 0 then nI 0 else clX f k
theorem clY_0 (f : Nat → Int32) : clY f 0 = nI 0 := by
  unfold clY
  split <;> rfl
theorem clY_R (f : Nat → Int32) : clY f 101 = clR f := by rw [clY, clR, clX_F]
theorem ng_bi (f : Nat → Int32) (k : Nat) : ng (biF f k) = ng f := ng_congr (fun g hg => biF_ne f (by omega) (by omega) (by omega) k)
theorem grR_0 {f : Nat → Int32} (h : ng f = 0) : grR f = -1 := lst_none 9 (fun i hi => by
  cases e : gs f i
  · rw [rnP, e]
    rfl
  · have := rk_ng (f := f) hi e
    omega)
theorem grR_1 {f : Nat → Int32} (h : IV f) (n : ¬ ng f = 0) : ∃ g, g < 9 ∧ grR f = nI g := by
  obtain ⟨g, hg, sg, e⟩ := rk_is h.su (show 0 < ng f by omega)
  have hP : rnP f (nI 0) g = true := by rw [rnP, sg, e]; rfl
  exact ⟨g, hg, lst_one hP 9 hg (fun i hi hp => rnP_u h.ru hi hg hp hP)⟩
theorem clY_lo {f : Nat → Int32} (h : IV f) {k : Nat} (c : grR (biF f k) < 0) : clY f (k + 1) = clY f k := by
  by_cases n : ng f = 0
  · rw [clY, clY, if_pos n, if_pos n]
  · obtain ⟨g, hg, e⟩ := grR_1 (IV_bi h k) (by rw [ng_bi]; exact n)
    rw [e] at c
    exact absurd c (nI_pos (by omega))
theorem clY_hi {f : Nat → Int32} {k : Nat} (c : ¬ grR (biF f k) < 0) : clY f k ||| (nI 1 <<< (grR (biF f k) &&& 31)) = clY f (k + 1) := by
  by_cases n : ng f = 0
  · rw [grR_0 (by rw [ng_bi]; exact n)] at c
    exact absurd (show (-1 : Int32) < 0 by decide) c
  · rw [clY, clY, if_neg n, if_neg n]
    rfl
