/-! the numbers' own words -/
def sumI (h : Nat → Int32) : Nat → Int32
  | 0 => 0
  | n + 1 => sumI h n + h n
def owd (f : Nat → Int32) (g : Nat) : Int32 := sumI (fun o => f (21 + 17 * g + o)) 9
def owt (f : Nat → Int32) (g : Nat) : Int32 := sumI (fun o => f (21 + 17 * o + g)) 9
def layF (f : Nat → Int32) (g o : Nat) (k : Int32) : Nat → Int32 := upd (upd f (21 + 17 * g + o) (f (21 + 17 * g + o) + k)) 10 (f 10 + k)
def payF (f : Nat → Int32) (g o : Nat) : Nat → Int32 := if f (21 + 17 * g + o) = 0 then f else upd (upd (upd f (21 + 17 * g + o) (f (21 + 17 * g + o) - 1)) (20 + 17 * g) (f (20 + 17 * g) + 1)) 7 (f 7 + 1)
def minF (f : Nat → Int32) (g o : Nat) : Int32 := if f (21 + 17 * o + g) < f (21 + 17 * g + o) then f (21 + 17 * o + g) else f (21 + 17 * g + o)
def offF (f : Nat → Int32) (g o : Nat) : Nat → Int32 := upd (upd (upd f (21 + 17 * g + o) (f (21 + 17 * g + o) - minF f g o)) (21 + 17 * o + g) (f (21 + 17 * o + g) - minF f g o)) 9 (f 9 + 2 * minF f g o)
/-- the bows of g are forgotten, up to the guest j -/
def fg0 (f : Nat → Int32) (g : Nat) : Nat → Nat → Int32
  | 0 => f
  | j + 1 => upd (upd (fg0 f g j) (21 + 17 * g + j) 0) (21 + 17 * j + g) 0
def fgtF (f : Nat → Int32) (g : Nat) : Nat → Int32 := upd (fg0 (upd f 8 (f 8 + (owd f g + owt f g))) g 9) (20 + 17 * g) 0
