/-! the text's world -/
def pdW (y : Nat → ClassId) (p : Nat → Nat) (t : Nat → Int32) (len : Int32) : va_W := [(p 0, .inr (2, [.ref (p 1), .int len])), (p 1, .inl (y 1, 80, .inl (cut 80 t)))]
theorem pdW_eq {y : Nat → ClassId} {p : Nat → Nat} {t t' : Nat → Int32} {len : Int32} (h : ∀ i, i < 80 → t i = t' i) : pdW y p t len = pdW y p t' len := by
  unfold pdW
  rw [cut_eq h]
section ZP
variable {D : va_G} {y : Nat → ClassId} {X : zX} {cc : ByteArray} {own : String} {rm : Room} {nm : Nat} {Ts : List Cond} {ws : va_W} {k n pc : Nat} {lv : List (Nat × Value)} {st : List Value} {p : Nat → Nat} {t : Nat → Int32} {len : Int32}
theorem dg_text (G : zG D y X cc RX2 rm nm Ts) (hin : ∀ w ∈ wsX20, w ∈ Ts) (hl : Cond.fieldLink RX2 9 "TeaSeats$Pad" "text" "[C" ∈ Ts) (hdg : decode cc pc = .ok (.getfield 9, 3)) (kk : zV D X (pdW y p t len) k n (pc + 3) lv (.ref (p 1) :: st)) : zV D X (pdW y p t len) k n pc lv (.ref (p 0) :: st) := z_get (own := RX2) G hin 0 rfl rfl 0 (by decide) hl rfl hdg kk
theorem dg_length (G : zG D y X cc RX2 rm nm Ts) (hin : ∀ w ∈ wsX20, w ∈ Ts) (hl : Cond.fieldLink RX2 15 "TeaSeats$Pad" "length" "I" ∈ Ts) (hdg : decode cc pc = .ok (.getfield 15, 3)) (kk : zV D X (pdW y p t len) k n (pc + 3) lv (.int len :: st)) : zV D X (pdW y p t len) k n pc lv (.ref (p 0) :: st) := z_get (own := RX2) G hin 0 rfl rfl 1 (by decide) hl rfl hdg kk
theorem dp_length (G : zG D y X cc RX2 rm nm Ts) (hin : ∀ w ∈ wsX20, w ∈ Ts) (hl : Cond.fieldLink RX2 15 "TeaSeats$Pad" "length" "I" ∈ Ts) (hdg : decode cc pc = .ok (.putfield 15, 3)) {x : Int32} (kk : zV D X (pdW y p t x) k n (pc + 3) lv st) : zV D X (pdW y p t len) k n pc lv (.int x :: .ref (p 0) :: st) := z_put (own := RX2) G hin tyX2 tyX2_ok nmX2 0 rfl rfl 1 (by decide) hl rfl (ty := .int) (by decide +kernel) rfl rfl (Nat.le_of_ble_eq_true rfl) hdg (pdW y p t x) (rfl) kk
theorem dl_text (G : zG D y X cc own rm nm Ts) {j : Nat} (hj : j < 80) (hdg : decode cc pc = .ok (.caload, 1)) (kk : zV D X (pdW y p t len) k n (pc + 1) lv (.int (t j) :: st)) : zV D X (pdW y p t len) k n pc lv (.int (nI j) :: .ref (p 1) :: st) := z_cald G 1 rfl hj (by decide) hdg (cut_at hj) kk
theorem ds_text (G : zG D y X cc own rm nm Ts) {j : Nat} (hj : j < 80) (hdg : decode cc pc = .ok (.castore, 1)) {x : Int32} (v : Int32) (hx : vp_nar .char x = v) (kk : zV D X (pdW y p (upd t j v) len) k n (pc + 1) lv st) : zV D X (pdW y p t len) k n pc lv (.int x :: .int (nI j) :: .ref (p 1) :: st) := z_cast G 1 rfl hj (by decide) hdg v hx _ (by rw [cut_upd hj]; rfl) kk
end ZP
