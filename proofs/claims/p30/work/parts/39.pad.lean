theorem k_X2_length : zCal yX2_length wsX2_length cX2_length 1 (some .int) 0 := ⟨⟨_, rfl⟩, by decide +kernel⟩
theorem in_X2_length_X2 : ∀ w ∈ wsX20, w ∈ wsX2_length := fun _ h => List.mem_cons_of_mem _ (List.mem_append_right _ h)
set_option maxHeartbeats 4000000 in
set_option maxRecDepth 100000 in
theorem c_X2_length (l : Launch) (D : va_G) (y : Nat → ClassId) (p : Nat → Nat) (t : Nat → Int32) {len : Nat} (h80 : len ≤ 80) : zDi l D y yX2_length wsX2_length ({ frames := 0, cells := 0, slots := 0, locals := 0 }) [.ref (p 0)] (pdW y p t (nI len)) (nI len) (pdW y p t (nI len)) := by
  refine zMi.mk (cc := cX2_length) (maxL := 1) (lv := [(0, .ref (p 0))]) (by decide) rfl (Nat.le_of_ble_eq_true rfl) rfl (fun X G hE => ?_)
  have hin := in_X2_length_X2
  refine z_aload_n G dX2_length_0 0 rfl ?_
  refine dg_length G hin (List.mem_of_getElem? (i := 1) rfl) dX2_length_1 ?_
  exact hE _ _ _ _ dX2_length_4 rfl ⟨rfl, rfl⟩
