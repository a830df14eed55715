/-! a room is copied into another -/
theorem cpy_cut (N : Nat) (F G : Nat → Int32) : va_cpy (cut N F) (cut N G) 0 0 N = cut N F := by
  funext j
  show (if 0 ≤ j ∧ j < 0 + N then cut N F (0 + (j - 0)) else cut N G j) = cut N F j
  by_cases h : j < N
  · rw [if_pos (by omega), show 0 + (j - 0) = j by omega]
  · rw [if_neg (by omega)]
    simp [cut, h]
section ZC
variable {D : va_G} {y : Nat → ClassId} {X : zX} {cc : ByteArray} {own : String} {rm : Room} {nm : Nat} {Ts : List Cond} {ws : va_W} {k n pc : Nat} {lv : List (Nat × Value)} {st : List Value}
theorem z_copyC (G : zG D y X cc own rm nm Ts) {idx : Nat} (hlink : Cond.methodLink own idx arraycopyName ∈ Ts) (hnat : Cond.native arraycopyName ∈ Ts) (hstat : Cond.static arraycopyName ∈ Ts) (hini : Cond.initialized "java/lang/System" ∈ Ts) (q0 q1 : Nat) {a0 a1 N : Nat} {F F1 : Nat → Int32} (ha0 : ws[q0]? = some (a0, .inl (y 0, N, .inl (cut N F)))) (ha1 : ws[q1]? = some (a1, .inl (y 0, N, .inl (cut N F1)))) (hN : N < 2 ^ 31) (hfr : 1 ≤ rm.frames) (hlo : (st.map fun v => v.category).sum + (nativeFrameWords "java/lang/System" "arraycopy" 5 + 11) ≤ rm.locals) (hdg : decode cc pc = .ok (.invokestatic idx, 3)) (ws' : va_W) (hw : ws.set q1 (a1, .inl (y 0, N, .inl (cut N F))) = ws') (kk : zV D X ws' k n (pc + 3) lv st) : zV D X ws k n pc lv (.int (nI N) :: .int (nI 0) :: .ref a1 :: .int (nI 0) :: .ref a0 :: st) :=
  z_copy G hlink hnat hstat hini q0 q1 ha0 ha1 hN hfr hlo hdg ws' (by rw [cpy_cut]; exact hw) kk
end ZC
theorem bw_two (y : Nat → ClassId) (a c : Nat → Nat) (f r g r2 : Nat → Int32) : (rmW y a f r ++ rmW y c g r2).Perm ((bwW y a f ++ bwW y c g) ++ (rmH y a f r ++ rmH y c g r2)) := by
  unfold rmW
  refine List.Perm.trans (List.Perm.append List.perm_append_comm List.perm_append_comm) ?_
  rw [List.append_assoc, List.append_assoc]
  refine List.Perm.append_left _ ?_
  rw [← List.append_assoc, ← List.append_assoc]
  exact List.Perm.append_right _ List.perm_append_comm

theorem k_X0_copyFrom : zCal yX0_copyFrom wsX0_copyFrom cX0_copyFrom 2 none 1 := ⟨⟨_, rfl⟩, by decide +kernel⟩
theorem in_X0_copyFrom_X0 : ∀ w ∈ wsX00, w ∈ wsX0_copyFrom := fun _ h => List.mem_cons_of_mem _ (List.mem_append_right _ h)
set_option maxHeartbeats 4000000 in
set_option maxRecDepth 100000 in
theorem c_X0_copyFrom (l : Launch) (D : va_G) (y : Nat → ClassId) (a c : Nat → Nat) (f g : Nat → Int32) : zDv l D y yX0_copyFrom wsX0_copyFrom ({ frames := 1, cells := 0, slots := 0, locals := 40 }) [.ref (a 9), .ref (c 9)] (bwW y a f ++ bwW y c g) (bwW y a g ++ bwW y c g) := by
  refine zMv.mk (cc := cX0_copyFrom) (maxL := 2) (lv := [(0, .ref (a 9)), (1, .ref (c 9))]) (by decide) rfl (Nat.le_of_ble_eq_true rfl) rfl (fun X G hE => ?_)
  have hin := in_X0_copyFrom_X0
  refine z_aload_n G dX0_copyFrom_0 1 rfl ?_
  refine z_get G (hin) 3 rfl rfl 0 (by decide) (List.mem_of_getElem? (i := 1) rfl) rfl dX0_copyFrom_1 ?_
  refine z_iconst (v := nI 0) G dX0_copyFrom_4 rfl ?_
  refine z_aload_n G dX0_copyFrom_5 0 rfl ?_
  refine z_get G (hin) 0 rfl rfl 0 (by decide) (List.mem_of_getElem? (i := 1) rfl) rfl dX0_copyFrom_6 ?_
  refine z_iconst (v := nI 0) G dX0_copyFrom_9 rfl ?_
  refine z_bipush (v := nI 81) G dX0_copyFrom_10 rfl ?_
  refine z_copyC (N := 81) G (List.mem_of_getElem? (i := 2) rfl) (List.mem_of_getElem? (i := 3) rfl) (List.mem_of_getElem? (i := 4) rfl) (List.mem_of_getElem? (i := 5) rfl) 4 1 rfl rfl (by decide) (by decide) (Nat.le_of_ble_eq_true rfl) dX0_copyFrom_12 (bwR y a (cut 81 (fun c => g (o_at c))) (cut 9 (fun h => f (20 + 17 * h))) (f 10) (f 7) (f 8) (f 9) ++ bwW y c g) rfl ?_
  refine z_aload_n G dX0_copyFrom_15 1 rfl ?_
  refine z_get G (hin) 3 rfl rfl 1 (by decide) (List.mem_of_getElem? (i := 6) rfl) rfl dX0_copyFrom_16 ?_
  refine z_iconst (v := nI 0) G dX0_copyFrom_19 rfl ?_
  refine z_aload_n G dX0_copyFrom_20 0 rfl ?_
  refine z_get G (hin) 0 rfl rfl 1 (by decide) (List.mem_of_getElem? (i := 6) rfl) rfl dX0_copyFrom_21 ?_
  refine z_iconst (v := nI 0) G dX0_copyFrom_24 rfl ?_
  refine z_bipush (v := nI 9) G dX0_copyFrom_25 rfl ?_
  refine z_copyC (N := 9) G (List.mem_of_getElem? (i := 2) rfl) (List.mem_of_getElem? (i := 3) rfl) (List.mem_of_getElem? (i := 4) rfl) (List.mem_of_getElem? (i := 5) rfl) 5 2 rfl rfl (by decide) (by decide) (Nat.le_of_ble_eq_true rfl) dX0_copyFrom_27 (bwR y a (cut 81 (fun c => g (o_at c))) (cut 9 (fun h => g (20 + 17 * h))) (f 10) (f 7) (f 8) (f 9) ++ bwW y c g) rfl ?_
  refine z_aload_n G dX0_copyFrom_30 0 rfl ?_
  refine z_aload_n G dX0_copyFrom_31 1 rfl ?_
  refine z_get G (hin) 3 rfl rfl 2 (by decide) (List.mem_of_getElem? (i := 7) rfl) rfl dX0_copyFrom_32 ?_
  refine z_put (own := RX0) G hin tyX0 tyX0_ok nmX0 0 rfl rfl 2 (by decide) (List.mem_of_getElem? (i := 7) rfl) rfl (ty := .int) (by decide +kernel) rfl rfl (Nat.le_of_ble_eq_true rfl) dX0_copyFrom_35 (bwR y a (cut 81 (fun c => g (o_at c))) (cut 9 (fun h => g (20 + 17 * h))) (g 10) (f 7) (f 8) (f 9) ++ bwW y c g) rfl ?_
  refine z_aload_n G dX0_copyFrom_38 0 rfl ?_
  refine z_aload_n G dX0_copyFrom_39 1 rfl ?_
  refine z_get G (hin) 3 rfl rfl 3 (by decide) (List.mem_of_getElem? (i := 8) rfl) rfl dX0_copyFrom_40 ?_
  refine z_put (own := RX0) G hin tyX0 tyX0_ok nmX0 0 rfl rfl 3 (by decide) (List.mem_of_getElem? (i := 8) rfl) rfl (ty := .int) (by decide +kernel) rfl rfl (Nat.le_of_ble_eq_true rfl) dX0_copyFrom_43 (bwR y a (cut 81 (fun c => g (o_at c))) (cut 9 (fun h => g (20 + 17 * h))) (g 10) (g 7) (f 8) (f 9) ++ bwW y c g) rfl ?_
  refine z_aload_n G dX0_copyFrom_46 0 rfl ?_
  refine z_aload_n G dX0_copyFrom_47 1 rfl ?_
  refine z_get G (hin) 3 rfl rfl 4 (by decide) (List.mem_of_getElem? (i := 9) rfl) rfl dX0_copyFrom_48 ?_
  refine z_put (own := RX0) G hin tyX0 tyX0_ok nmX0 0 rfl rfl 4 (by decide) (List.mem_of_getElem? (i := 9) rfl) rfl (ty := .int) (by decide +kernel) rfl rfl (Nat.le_of_ble_eq_true rfl) dX0_copyFrom_51 (bwR y a (cut 81 (fun c => g (o_at c))) (cut 9 (fun h => g (20 + 17 * h))) (g 10) (g 7) (g 8) (f 9) ++ bwW y c g) rfl ?_
  refine z_aload_n G dX0_copyFrom_54 0 rfl ?_
  refine z_aload_n G dX0_copyFrom_55 1 rfl ?_
  refine z_get G (hin) 3 rfl rfl 5 (by decide) (List.mem_of_getElem? (i := 10) rfl) rfl dX0_copyFrom_56 ?_
  refine z_put (own := RX0) G hin tyX0 tyX0_ok nmX0 0 rfl rfl 5 (by decide) (List.mem_of_getElem? (i := 10) rfl) rfl (ty := .int) (by decide +kernel) rfl rfl (Nat.le_of_ble_eq_true rfl) dX0_copyFrom_59 (bwR y a (cut 81 (fun c => g (o_at c))) (cut 9 (fun h => g (20 + 17 * h))) (g 10) (g 7) (g 8) (g 9) ++ bwW y c g) rfl ?_
  exact hE _ _ _ dX0_copyFrom_62 rfl

theorem rp_two {y : Nat → ClassId} {a c : Nat → Nat} {f g r2 : Nat → Int32} (H : va_W) : ((H ++ bwW y a f) ++ rmW y c g r2).Perm ((bwW y a f ++ bwW y c g) ++ (H ++ rmH y c g r2)) := by
  unfold rmW
  refine List.Perm.trans (List.Perm.append List.perm_append_comm List.perm_append_comm) ?_
  rw [List.append_assoc, List.append_assoc]
  refine List.Perm.append_left _ ?_
  rw [← List.append_assoc, ← List.append_assoc]
  exact List.Perm.append_right _ List.perm_append_comm
theorem rp_two2 {y : Nat → ClassId} {a c : Nat → Nat} {f g r2 : Nat → Int32} (H : va_W) : ((bwW y a f ++ bwW y c g) ++ (H ++ rmH y c g r2)).Perm ((H ++ bwW y a f) ++ rmW y c g r2) := (rp_two H).symm
theorem k_X3_copyFrom : zCal yX3_copyFrom wsX3_copyFrom cX3_copyFrom 2 none 1 := ⟨⟨_, rfl⟩, by decide +kernel⟩
theorem in_X3_copyFrom_X3 : ∀ w ∈ wsX30, w ∈ wsX3_copyFrom := fun _ h => List.mem_cons_of_mem _ (List.mem_append_left _ (List.mem_append_right _ h))
set_option maxHeartbeats 4000000 in
set_option maxRecDepth 100000 in
theorem c_X3_copyFrom (l : Launch) (D : va_G) (y : Nat → ClassId) (a c : Nat → Nat) (f rk g rk2 : Nat → Int32) : zDv l D y yX3_copyFrom wsX3_copyFrom ({ frames := 2, cells := 0, slots := 0, locals := 61 }) [.ref (a 0), .ref (c 0)] (rmW y a f rk ++ rmW y c g rk2) (rmW y a g rk ++ rmW y c g rk2) := by
  refine zMv.mk (cc := cX3_copyFrom) (maxL := 2) (lv := [(0, .ref (a 0)), (1, .ref (c 0))]) (by decide) rfl (Nat.le_of_ble_eq_true rfl) rfl (fun X G hE => ?_)
  have hin := in_X3_copyFrom_X3
  refine z_aload_n G dX3_copyFrom_0 1 rfl ?_
  refine z_get G (hin) 12 rfl rfl 0 (by decide) (List.mem_of_getElem? (i := 1) rfl) rfl dX3_copyFrom_1 ?_
  refine z_iconst (v := nI 0) G dX3_copyFrom_4 rfl ?_
  refine z_aload_n G dX3_copyFrom_5 0 rfl ?_
  refine z_get G (hin) 0 rfl rfl 0 (by decide) (List.mem_of_getElem? (i := 1) rfl) rfl dX3_copyFrom_6 ?_
  refine z_iconst (v := nI 0) G dX3_copyFrom_9 rfl ?_
  refine z_aload_n G dX3_copyFrom_10 0 rfl ?_
  refine z_get G (hin) 0 rfl rfl 0 (by decide) (List.mem_of_getElem? (i := 1) rfl) rfl dX3_copyFrom_11 ?_
  refine z_alen (v := nI 4) G 1 0 rfl rfl rfl dX3_copyFrom_14 ?_
  refine z_copyC (N := 4) G (List.mem_of_getElem? (i := 2) rfl) (List.mem_of_getElem? (i := 3) rfl) (List.mem_of_getElem? (i := 4) rfl) (List.mem_of_getElem? (i := 5) rfl) 13 1 rfl rfl (by decide) (by decide) (Nat.le_of_ble_eq_true rfl) dX3_copyFrom_15 ((rmR y a (cut 4 g) ((cut 9 (fun h => f (15 + 17 * h)))) ((cut 9 (fun h => f (16 + 17 * h)))) ((cut 9 (fun h => f (17 + 17 * h)))) ((cut 9 (fun h => f (18 + 17 * h)))) ((cut 9 (fun h => f (19 + 17 * h)))) ((cut 9 (fun h => f (14 + 17 * h)))) (cut 9 rk) (f 4) (f 5) (f 6) (f 11) (f 12) ++ bwW y a f) ++ rmW y c g rk2) rfl ?_
  refine z_aload_n G dX3_copyFrom_18 1 rfl ?_
  refine z_get G (hin) 12 rfl rfl 1 (by decide) (List.mem_of_getElem? (i := 6) rfl) rfl dX3_copyFrom_19 ?_
  refine z_iconst (v := nI 0) G dX3_copyFrom_22 rfl ?_
  refine z_aload_n G dX3_copyFrom_23 0 rfl ?_
  refine z_get G (hin) 0 rfl rfl 1 (by decide) (List.mem_of_getElem? (i := 6) rfl) rfl dX3_copyFrom_24 ?_
  refine z_iconst (v := nI 0) G dX3_copyFrom_27 rfl ?_
  refine z_bipush (v := nI 9) G dX3_copyFrom_28 rfl ?_
  refine z_copyC (N := 9) G (List.mem_of_getElem? (i := 2) rfl) (List.mem_of_getElem? (i := 3) rfl) (List.mem_of_getElem? (i := 4) rfl) (List.mem_of_getElem? (i := 5) rfl) 14 2 rfl rfl (by decide) (by decide) (Nat.le_of_ble_eq_true rfl) dX3_copyFrom_30 ((rmR y a (cut 4 g) ((cut 9 (fun h => g (15 + 17 * h)))) ((cut 9 (fun h => f (16 + 17 * h)))) ((cut 9 (fun h => f (17 + 17 * h)))) ((cut 9 (fun h => f (18 + 17 * h)))) ((cut 9 (fun h => f (19 + 17 * h)))) ((cut 9 (fun h => f (14 + 17 * h)))) (cut 9 rk) (f 4) (f 5) (f 6) (f 11) (f 12) ++ bwW y a f) ++ rmW y c g rk2) rfl ?_
  refine z_aload_n G dX3_copyFrom_33 1 rfl ?_
  refine z_get G (hin) 12 rfl rfl 2 (by decide) (List.mem_of_getElem? (i := 7) rfl) rfl dX3_copyFrom_34 ?_
  refine z_iconst (v := nI 0) G dX3_copyFrom_37 rfl ?_
  refine z_aload_n G dX3_copyFrom_38 0 rfl ?_
  refine z_get G (hin) 0 rfl rfl 2 (by decide) (List.mem_of_getElem? (i := 7) rfl) rfl dX3_copyFrom_39 ?_
  refine z_iconst (v := nI 0) G dX3_copyFrom_42 rfl ?_
  refine z_bipush (v := nI 9) G dX3_copyFrom_43 rfl ?_
  refine z_copyC (N := 9) G (List.mem_of_getElem? (i := 2) rfl) (List.mem_of_getElem? (i := 3) rfl) (List.mem_of_getElem? (i := 4) rfl) (List.mem_of_getElem? (i := 5) rfl) 15 3 rfl rfl (by decide) (by decide) (Nat.le_of_ble_eq_true rfl) dX3_copyFrom_45 ((rmR y a (cut 4 g) ((cut 9 (fun h => g (15 + 17 * h)))) ((cut 9 (fun h => g (16 + 17 * h)))) ((cut 9 (fun h => f (17 + 17 * h)))) ((cut 9 (fun h => f (18 + 17 * h)))) ((cut 9 (fun h => f (19 + 17 * h)))) ((cut 9 (fun h => f (14 + 17 * h)))) (cut 9 rk) (f 4) (f 5) (f 6) (f 11) (f 12) ++ bwW y a f) ++ rmW y c g rk2) rfl ?_
  refine z_aload_n G dX3_copyFrom_48 1 rfl ?_
  refine z_get G (hin) 12 rfl rfl 3 (by decide) (List.mem_of_getElem? (i := 8) rfl) rfl dX3_copyFrom_49 ?_
  refine z_iconst (v := nI 0) G dX3_copyFrom_52 rfl ?_
  refine z_aload_n G dX3_copyFrom_53 0 rfl ?_
  refine z_get G (hin) 0 rfl rfl 3 (by decide) (List.mem_of_getElem? (i := 8) rfl) rfl dX3_copyFrom_54 ?_
  refine z_iconst (v := nI 0) G dX3_copyFrom_57 rfl ?_
  refine z_bipush (v := nI 9) G dX3_copyFrom_58 rfl ?_
  refine z_copyC (N := 9) G (List.mem_of_getElem? (i := 2) rfl) (List.mem_of_getElem? (i := 3) rfl) (List.mem_of_getElem? (i := 4) rfl) (List.mem_of_getElem? (i := 5) rfl) 16 4 rfl rfl (by decide) (by decide) (Nat.le_of_ble_eq_true rfl) dX3_copyFrom_60 ((rmR y a (cut 4 g) ((cut 9 (fun h => g (15 + 17 * h)))) ((cut 9 (fun h => g (16 + 17 * h)))) ((cut 9 (fun h => g (17 + 17 * h)))) ((cut 9 (fun h => f (18 + 17 * h)))) ((cut 9 (fun h => f (19 + 17 * h)))) ((cut 9 (fun h => f (14 + 17 * h)))) (cut 9 rk) (f 4) (f 5) (f 6) (f 11) (f 12) ++ bwW y a f) ++ rmW y c g rk2) rfl ?_
  refine z_aload_n G dX3_copyFrom_63 1 rfl ?_
  refine z_get G (hin) 12 rfl rfl 4 (by decide) (List.mem_of_getElem? (i := 9) rfl) rfl dX3_copyFrom_64 ?_
  refine z_iconst (v := nI 0) G dX3_copyFrom_67 rfl ?_
  refine z_aload_n G dX3_copyFrom_68 0 rfl ?_
  refine z_get G (hin) 0 rfl rfl 4 (by decide) (List.mem_of_getElem? (i := 9) rfl) rfl dX3_copyFrom_69 ?_
  refine z_iconst (v := nI 0) G dX3_copyFrom_72 rfl ?_
  refine z_bipush (v := nI 9) G dX3_copyFrom_73 rfl ?_
  refine z_copyC (N := 9) G (List.mem_of_getElem? (i := 2) rfl) (List.mem_of_getElem? (i := 3) rfl) (List.mem_of_getElem? (i := 4) rfl) (List.mem_of_getElem? (i := 5) rfl) 17 5 rfl rfl (by decide) (by decide) (Nat.le_of_ble_eq_true rfl) dX3_copyFrom_75 ((rmR y a (cut 4 g) ((cut 9 (fun h => g (15 + 17 * h)))) ((cut 9 (fun h => g (16 + 17 * h)))) ((cut 9 (fun h => g (17 + 17 * h)))) ((cut 9 (fun h => g (18 + 17 * h)))) ((cut 9 (fun h => f (19 + 17 * h)))) ((cut 9 (fun h => f (14 + 17 * h)))) (cut 9 rk) (f 4) (f 5) (f 6) (f 11) (f 12) ++ bwW y a f) ++ rmW y c g rk2) rfl ?_
  refine z_aload_n G dX3_copyFrom_78 1 rfl ?_
  refine z_get G (hin) 12 rfl rfl 5 (by decide) (List.mem_of_getElem? (i := 10) rfl) rfl dX3_copyFrom_79 ?_
  refine z_iconst (v := nI 0) G dX3_copyFrom_82 rfl ?_
  refine z_aload_n G dX3_copyFrom_83 0 rfl ?_
  refine z_get G (hin) 0 rfl rfl 5 (by decide) (List.mem_of_getElem? (i := 10) rfl) rfl dX3_copyFrom_84 ?_
  refine z_iconst (v := nI 0) G dX3_copyFrom_87 rfl ?_
  refine z_bipush (v := nI 9) G dX3_copyFrom_88 rfl ?_
  refine z_copyC (N := 9) G (List.mem_of_getElem? (i := 2) rfl) (List.mem_of_getElem? (i := 3) rfl) (List.mem_of_getElem? (i := 4) rfl) (List.mem_of_getElem? (i := 5) rfl) 18 6 rfl rfl (by decide) (by decide) (Nat.le_of_ble_eq_true rfl) dX3_copyFrom_90 ((rmR y a (cut 4 g) ((cut 9 (fun h => g (15 + 17 * h)))) ((cut 9 (fun h => g (16 + 17 * h)))) ((cut 9 (fun h => g (17 + 17 * h)))) ((cut 9 (fun h => g (18 + 17 * h)))) ((cut 9 (fun h => g (19 + 17 * h)))) ((cut 9 (fun h => f (14 + 17 * h)))) (cut 9 rk) (f 4) (f 5) (f 6) (f 11) (f 12) ++ bwW y a f) ++ rmW y c g rk2) rfl ?_
  refine z_aload_n G dX3_copyFrom_93 1 rfl ?_
  refine z_get G (hin) 12 rfl rfl 6 (by decide) (List.mem_of_getElem? (i := 11) rfl) rfl dX3_copyFrom_94 ?_
  refine z_iconst (v := nI 0) G dX3_copyFrom_97 rfl ?_
  refine z_aload_n G dX3_copyFrom_98 0 rfl ?_
  refine z_get G (hin) 0 rfl rfl 6 (by decide) (List.mem_of_getElem? (i := 11) rfl) rfl dX3_copyFrom_99 ?_
  refine z_iconst (v := nI 0) G dX3_copyFrom_102 rfl ?_
  refine z_bipush (v := nI 9) G dX3_copyFrom_103 rfl ?_
  refine z_copyC (N := 9) G (List.mem_of_getElem? (i := 2) rfl) (List.mem_of_getElem? (i := 3) rfl) (List.mem_of_getElem? (i := 4) rfl) (List.mem_of_getElem? (i := 5) rfl) 19 7 rfl rfl (by decide) (by decide) (Nat.le_of_ble_eq_true rfl) dX3_copyFrom_105 ((rmR y a (cut 4 g) ((cut 9 (fun h => g (15 + 17 * h)))) ((cut 9 (fun h => g (16 + 17 * h)))) ((cut 9 (fun h => g (17 + 17 * h)))) ((cut 9 (fun h => g (18 + 17 * h)))) ((cut 9 (fun h => g (19 + 17 * h)))) ((cut 9 (fun h => g (14 + 17 * h)))) (cut 9 rk) (f 4) (f 5) (f 6) (f 11) (f 12) ++ bwW y a f) ++ rmW y c g rk2) rfl ?_
  refine z_aload_n G dX3_copyFrom_108 0 rfl ?_
  refine z_get G (hin) 0 rfl rfl 7 (by decide) (List.mem_of_getElem? (i := 12) rfl) rfl dX3_copyFrom_109 ?_
  refine z_aload_n G dX3_copyFrom_112 1 rfl ?_
  refine z_get G (hin) 12 rfl rfl 7 (by decide) (List.mem_of_getElem? (i := 12) rfl) rfl dX3_copyFrom_113 ?_
  refine z_pVv (As := [_]) G _ _ (fun l => c_X0_copyFrom l D y a c f g) k_X0_copyFrom gX3_copyFrom_X0_copyFrom 0 0 rfl rfl rfl dX3_copyFrom_116 ⟨by decide, by decide⟩ ⟨rfl, rfl⟩ ⟨Nat.zero_le _, Nat.zero_le _⟩ rfl (Nat.le_of_ble_eq_true rfl) rfl (rp_two (rmR y a (cut 4 g) ((cut 9 (fun h => g (15 + 17 * h)))) ((cut 9 (fun h => g (16 + 17 * h)))) ((cut 9 (fun h => g (17 + 17 * h)))) ((cut 9 (fun h => g (18 + 17 * h)))) ((cut 9 (fun h => g (19 + 17 * h)))) ((cut 9 (fun h => g (14 + 17 * h)))) (cut 9 rk) (f 4) (f 5) (f 6) (f 11) (f 12))) (rp_two2 (rmR y a (cut 4 g) ((cut 9 (fun h => g (15 + 17 * h)))) ((cut 9 (fun h => g (16 + 17 * h)))) ((cut 9 (fun h => g (17 + 17 * h)))) ((cut 9 (fun h => g (18 + 17 * h)))) ((cut 9 (fun h => g (19 + 17 * h)))) ((cut 9 (fun h => g (14 + 17 * h)))) (cut 9 rk) (f 4) (f 5) (f 6) (f 11) (f 12))) ?_
  refine z_aload_n G dX3_copyFrom_119 0 rfl ?_
  refine z_aload_n G dX3_copyFrom_120 1 rfl ?_
  refine z_get G (hin) 12 rfl rfl 8 (by decide) (List.mem_of_getElem? (i := 13) rfl) rfl dX3_copyFrom_121 ?_
  refine z_put (own := RX3) G hin tyX3 tyX3_ok nmX3 0 rfl rfl 8 (by decide) (List.mem_of_getElem? (i := 13) rfl) rfl (ty := .int) (by decide +kernel) rfl rfl (Nat.le_of_ble_eq_true rfl) dX3_copyFrom_124 ((rmR y a (cut 4 g) ((cut 9 (fun h => g (15 + 17 * h)))) ((cut 9 (fun h => g (16 + 17 * h)))) ((cut 9 (fun h => g (17 + 17 * h)))) ((cut 9 (fun h => g (18 + 17 * h)))) ((cut 9 (fun h => g (19 + 17 * h)))) ((cut 9 (fun h => g (14 + 17 * h)))) (cut 9 rk) (g 4) (f 5) (f 6) (f 11) (f 12) ++ bwW y a g) ++ rmW y c g rk2) rfl ?_
  refine z_aload_n G dX3_copyFrom_127 0 rfl ?_
  refine z_aload_n G dX3_copyFrom_128 1 rfl ?_
  refine z_get G (hin) 12 rfl rfl 9 (by decide) (List.mem_of_getElem? (i := 14) rfl) rfl dX3_copyFrom_129 ?_
  refine z_put (own := RX3) G hin tyX3 tyX3_ok nmX3 0 rfl rfl 9 (by decide) (List.mem_of_getElem? (i := 14) rfl) rfl (ty := .int) (by decide +kernel) rfl rfl (Nat.le_of_ble_eq_true rfl) dX3_copyFrom_132 ((rmR y a (cut 4 g) ((cut 9 (fun h => g (15 + 17 * h)))) ((cut 9 (fun h => g (16 + 17 * h)))) ((cut 9 (fun h => g (17 + 17 * h)))) ((cut 9 (fun h => g (18 + 17 * h)))) ((cut 9 (fun h => g (19 + 17 * h)))) ((cut 9 (fun h => g (14 + 17 * h)))) (cut 9 rk) (g 4) (g 5) (f 6) (f 11) (f 12) ++ bwW y a g) ++ rmW y c g rk2) rfl ?_
  refine z_aload_n G dX3_copyFrom_135 0 rfl ?_
  refine z_aload_n G dX3_copyFrom_136 1 rfl ?_
  refine z_get G (hin) 12 rfl rfl 10 (by decide) (List.mem_of_getElem? (i := 15) rfl) rfl dX3_copyFrom_137 ?_
  refine z_put (own := RX3) G hin tyX3 tyX3_ok nmX3 0 rfl rfl 10 (by decide) (List.mem_of_getElem? (i := 15) rfl) rfl (ty := .int) (by decide +kernel) rfl rfl (Nat.le_of_ble_eq_true rfl) dX3_copyFrom_140 ((rmR y a (cut 4 g) ((cut 9 (fun h => g (15 + 17 * h)))) ((cut 9 (fun h => g (16 + 17 * h)))) ((cut 9 (fun h => g (17 + 17 * h)))) ((cut 9 (fun h => g (18 + 17 * h)))) ((cut 9 (fun h => g (19 + 17 * h)))) ((cut 9 (fun h => g (14 + 17 * h)))) (cut 9 rk) (g 4) (g 5) (g 6) (f 11) (f 12) ++ bwW y a g) ++ rmW y c g rk2) rfl ?_
  refine z_aload_n G dX3_copyFrom_143 0 rfl ?_
  refine z_aload_n G dX3_copyFrom_144 1 rfl ?_
  refine z_get G (hin) 12 rfl rfl 11 (by decide) (List.mem_of_getElem? (i := 16) rfl) rfl dX3_copyFrom_145 ?_
  refine z_put (own := RX3) G hin tyX3 tyX3_ok nmX3 0 rfl rfl 11 (by decide) (List.mem_of_getElem? (i := 16) rfl) rfl (ty := .int) (by decide +kernel) rfl rfl (Nat.le_of_ble_eq_true rfl) dX3_copyFrom_148 ((rmR y a (cut 4 g) ((cut 9 (fun h => g (15 + 17 * h)))) ((cut 9 (fun h => g (16 + 17 * h)))) ((cut 9 (fun h => g (17 + 17 * h)))) ((cut 9 (fun h => g (18 + 17 * h)))) ((cut 9 (fun h => g (19 + 17 * h)))) ((cut 9 (fun h => g (14 + 17 * h)))) (cut 9 rk) (g 4) (g 5) (g 6) (g 11) (f 12) ++ bwW y a g) ++ rmW y c g rk2) rfl ?_
  refine z_aload_n G dX3_copyFrom_151 0 rfl ?_
  refine z_aload_n G dX3_copyFrom_152 1 rfl ?_
  refine z_get G (hin) 12 rfl rfl 12 (by decide) (List.mem_of_getElem? (i := 17) rfl) rfl dX3_copyFrom_153 ?_
  refine z_put (own := RX3) G hin tyX3 tyX3_ok nmX3 0 rfl rfl 12 (by decide) (List.mem_of_getElem? (i := 17) rfl) rfl (ty := .int) (by decide +kernel) rfl rfl (Nat.le_of_ble_eq_true rfl) dX3_copyFrom_156 ((rmR y a (cut 4 g) ((cut 9 (fun h => g (15 + 17 * h)))) ((cut 9 (fun h => g (16 + 17 * h)))) ((cut 9 (fun h => g (17 + 17 * h)))) ((cut 9 (fun h => g (18 + 17 * h)))) ((cut 9 (fun h => g (19 + 17 * h)))) ((cut 9 (fun h => g (14 + 17 * h)))) (cut 9 rk) (g 4) (g 5) (g 6) (g 11) (g 12) ++ bwW y a g) ++ rmW y c g rk2) rfl ?_
  exact hE _ _ _ dX3_copyFrom_159 rfl
