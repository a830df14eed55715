/-! a call over the whole world whose end is only said to be so -/
section ZW
variable {D : va_G} {y : Nat → ClassId} {X : zX} {cc : ByteArray} {own : String} {rm : Room} {nm : Nat} {Ts : List Cond} {ws : va_W} {k n pc : Nat} {lv : List (Nat × Value)} {st : List Value}
theorem z_wVi (G : zG D y X cc own rm nm Ts) {rest As : List Value} {b : Addr} {idx na : Nat} {yn : MethodName} {bytes : ByteArray} {maxL : Nat} {ret : Option FieldType} {wm : List Cond} {rm2 : Room} {Post : Int32 → va_W → Prop}
    (hM : ∀ l, zMi l D y yn wm rm2 (.ref b :: As) ws Post) (hk : zCal yn wm bytes maxL ret na) (hg : GoodIn Ts (wsV own idx yn.cls yn wm)) (q0 ci : Nat) {fs : List Value} {qc : vw_C} (hr : ws[q0]? = some (b, .inr (ci, fs))) (hc : vwCl[ci]? = some qc) (hcn : qc.1 = yn.cls) (hdg : decode cc pc = .ok (.invokevirtual idx, 3)) (hR : rm2.frames + 1 ≤ rm.frames ∧ 8 + (maxL + 11) + rm2.locals ≤ rm.locals) (hz : rm2.cells = 0 ∧ rm2.slots = 0) (hfit : k ≤ rm.cells ∧ n ≤ rm.slots) (hn : As.length = na) (hcat : (rest.map fun v => v.category).sum ≤ 8) (hst : st = (As.reverse ++ .ref b :: rest))
    (kk : ∀ (r : Int32) (w1 : va_W), Post r w1 → zV D X w1 k n (pc + 3) lv (.int r :: rest)) : zV D X ws k n pc lv st := by
  obtain ⟨h1, h2⟩ := hz
  have e := z_callVi G (wc := ws) (wr := []) hM hk hg q0 ci hr hc hcn hdg hR (by rw [h1, h2]; exact hfit) hn hcat st hst (fun r1 w2 h => (by rw [h1, h2]; exact z_nil (kk r1 w2 h)))
  rwa [List.append_nil] at e
end ZW
/-! the class carries out its text -/
def obA (t : Nat → Int32) (len : Nat) (f : Nat → Int32) (d : Nat) : Int32 × (Nat → Int32) := obR f (sgA t len (soN t len 0 d)) (nuM t len (soN t len 0 d + 1)) (dgA t len (soN t len 0 d + 1)) (dgA t len (soN t len 0 d + 2))
def oxS (t : Nat → Int32) (len : Nat) : Nat → Nat × (Nat → Int32) → Nat × (Nat → Int32)
  | 0, S => S
  | n + 1, S => if 0 ≤ (obA t len S.2 S.1).1 then oxS t len n (S.1 + 1, (obA t len S.2 S.1).2) else (S.1, (obA t len S.2 S.1).2)
theorem IV_ob {f : Nat → Int32} (h : IV f) (op nu d1 d2 : Int32) : IV (obR f op nu d1 d2).2 := by
  unfold obR
  split
  · exact IV_co h nu
  split
  · exact IV_le h d1
  split
  · exact IV_woR h d1
  split
  · exact IV_bo h d1 d2
  split
  · exact IV_be h nu
  split
  · exact IV_ofR h d1 d2 _
  split
  · exact IV_ro h _
  · exact h
theorem soN_le {t : Nat → Int32} : ∀ n i k, soN t n i k ≤ n + i
  | 0, i, k => by rw [soN]; omega
  | n + 1, i, k => by
    rw [soN]
    split
    · omega
    · have := soN_le (t := t) n (i + 1) (if t i = nI 59 then k - 1 else k)
      omega
