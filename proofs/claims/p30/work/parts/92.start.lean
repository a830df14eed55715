theorem aw_i {s : State} {args : Array Value} (h : (Cond.arrayClass .int).before args s = true) : ∃ cA : ClassId, ArrOfT s cA .int ∧ va_RA s cA .int := by
  obtain ⟨cA, kA, comp, h1, h2, h3⟩ := Cond.arrayClass_spec h
  exact ⟨cA, fun n z => ⟨fun k h => (by cases h), kA, h2, comp, h3⟩, h1⟩
theorem aw_c {s : State} {args : Array Value} (h : (Cond.arrayClass .char).before args s = true) : ∃ cA : ClassId, ArrOfT s cA .char ∧ va_RA s cA .char := by
  obtain ⟨cA, kA, comp, h1, h2, h3⟩ := Cond.arrayClass_spec h
  exact ⟨cA, fun n z => ⟨fun k h => (by cases h), kA, h2, comp, h3⟩, h1⟩
theorem aw_q {s : State} {args : Array Value} (h : (Cond.arrayOver (.object RX3)).before args s = true) : ∃ cA : ClassId, ArrOfT s cA (.object RX3) ∧ va_RA s cA (.object RX3) := by
  obtain ⟨comp, cA, kA, h1, h2, h3, h4, h5⟩ := Cond.arrayOver_spec h
  exact ⟨cA, fun n z => ⟨fun k h => (by cases h), kA, h3, comp, h4⟩, kA, comp, h3, h4, h1, h5⟩
set_option maxHeartbeats 4000000 in
set_option maxRecDepth 100000 in
/-- the classes of the tables -/
theorem aw_K {s : State} {args : Array Value} (hts : ∀ w ∈ lw_tbl, w.before args s = true) : ∃ (D : va_G) (y : Nat → ClassId), va_K D vwCl (zT y) s := by
  have tb : ∀ w, w ∈ tables_1 → w.before args s = true := fun w h => hts w (List.mem_append_right _ h)
  obtain ⟨c0, i0, K0⟩ := u_known (C := RX0) (T := TX0) (N := 6) (n := 6) hts inX0 (tb _ (List.mem_of_getElem? (i := 25) (by decide +kernel)))
  obtain ⟨c1, i1, K1⟩ := u_known (C := RX1) (T := TX1) (N := 3) (n := 3) hts inX1 (tb _ (List.mem_of_getElem? (i := 109) (by decide +kernel)))
  obtain ⟨c2, i2, K2⟩ := u_known (C := RX2) (T := TX2) (N := 2) (n := 2) hts inX2 (tb _ (List.mem_of_getElem? (i := 128) (by decide +kernel)))
  obtain ⟨c3, i3, K3⟩ := u_known (C := RX3) (T := TX3) (N := 14) (n := 14) hts inX3 (tb _ (List.mem_of_getElem? (i := 19) (by decide +kernel)))
  obtain ⟨c4, i4, K4⟩ := u_known (C := RX4) (T := TX4) (N := 2) (n := 2) hts inX4 (tb _ (List.mem_of_getElem? (i := 94) (by decide +kernel)))
  obtain ⟨c5, i5, K5⟩ := u_known (C := RX5) (T := TX5) (N := 7) (n := 7) hts inX5 (tb _ (List.mem_of_getElem? (i := 11) (by decide +kernel)))
  obtain ⟨d0, Y0⟩ := aw_i (tb _ (List.mem_of_getElem? (i := 49) (by decide +kernel)))
  obtain ⟨d1, Y1⟩ := aw_c (tb _ (List.mem_of_getElem? (i := 140) (by decide +kernel)))
  obtain ⟨d3, Y3⟩ := aw_q (tb _ (List.mem_of_getElem? (i := 115) (by decide +kernel)))
  refine ⟨(fun k => match k with | 0 => c0 | 1 => c1 | 2 => c2 | 3 => c3 | 4 => c4 | _ => c5, fun k => match k with | 0 => i0 | 1 => i1 | 2 => i2 | 3 => i3 | 4 => i4 | _ => i5), fun k => match k with | 0 => d0 | 1 => d1 | 2 => d0 | _ => d3, ?_, ?_⟩
  · intro k q hq
    match k, hq with
    | 0, hq => cases hq; exact K0
    | 1, hq => cases hq; exact K1
    | 2, hq => cases hq; exact K2
    | 3, hq => cases hq; exact K3
    | 4, hq => cases hq; exact K4
    | 5, hq => cases hq; exact K5
    | k + 6, hq => simp at hq
  · intro k q hq
    match k, hq with
    | 0, hq => cases hq; exact Y0
    | 1, hq => cases hq; exact Y1
    | 2, hq => cases hq; exact Y0
    | 3, hq => cases hq; exact Y3
    | k + 4, hq => simp [zT] at hq
theorem aw_I {s : State} {args : Array Value} (hts : ∀ w ∈ lw_tbl, w.before args s = true) : zI s := by
  have tb : ∀ w, w ∈ tables_1 → w.before args s = true := fun w h => hts w (List.mem_append_right _ h)
  exact ⟨va_AO.moved (Vm.Alike.refl s.vm) (va_AO.of (tb _ (List.mem_of_getElem? (i := 115) (by decide +kernel)))), va_Nw.of rfl (tb _ (List.mem_of_getElem? (i := 20) (by decide +kernel))), va_Nw.of rfl (tb _ (List.mem_of_getElem? (i := 26) (by decide +kernel))), va_Nw.of rfl (tb _ (List.mem_of_getElem? (i := 95) (by decide +kernel))), va_Nw.of rfl (tb _ (List.mem_of_getElem? (i := 100) (by decide +kernel))), va_Nw.of rfl (tb _ (List.mem_of_getElem? (i := 116) (by decide +kernel))), va_Nw.of rfl (tb _ (List.mem_of_getElem? (i := 129) (by decide +kernel)))⟩
theorem aw_Z {s : State} {args : Array Value} {A : Nat → Prop} (hts : ∀ w ∈ lw_tbl, w.before args s = true) (hgv : (Jvm.Cond.and given_1 narrow_1).before args s = true) (hA : ∀ a : Nat, a < s.heap.size → ¬ A a) : ∃ ms, zS ms A s s.heap := by
  have tb : ∀ w, w ∈ tables_1 → w.before args s = true := fun w h => hts w (List.mem_append_right _ h)
  have hs := flat_of_before _ hgv
  obtain ⟨ms, hms, hT⟩ := va_Tof (tm := .static "TeaSeats" "MOST_OF_SETTING" "[I") (ty := .int) (N := 4) (f := fun j => .int (nI (mxS j))) (A := A) (by decide) (hs (Cond.arrayOf (.static "TeaSeats" "MOST_OF_SETTING" "[I") .int) (by decide +kernel)) (va_eqt (hs (Cond.eq (.length (.static "TeaSeats" "MOST_OF_SETTING" "[I")) (.int 4)) (by decide +kernel))) (fun j hj => by
    rcases (by omega : j = 0 ∨ j = 1 ∨ j = 2 ∨ j = 3) with rfl | rfl | rfl | rfl
    · exact va_eqt (hs (Cond.eq (.elem (.static "TeaSeats" "MOST_OF_SETTING" "[I") (.int 0)) (.int 9)) (by decide +kernel))
    · exact va_eqt (hs (Cond.eq (.elem (.static "TeaSeats" "MOST_OF_SETTING" "[I") (.int 1)) (.int 20)) (by decide +kernel))
    · exact va_eqt (hs (Cond.eq (.elem (.static "TeaSeats" "MOST_OF_SETTING" "[I") (.int 2)) (.int 30)) (by decide +kernel))
    · exact va_eqt (hs (Cond.eq (.elem (.static "TeaSeats" "MOST_OF_SETTING" "[I") (.int 3)) (.int 9)) (by decide +kernel))) hA
  exact ⟨ms, va_Nw.of rfl (tb _ (List.mem_of_getElem? (i := 509) (by decide +kernel))), va_Zof (tb _ (List.mem_of_getElem? (i := 510) (by decide +kernel))) (tb _ (List.mem_of_getElem? (i := 1) (by decide +kernel))) hms hA, hT⟩
