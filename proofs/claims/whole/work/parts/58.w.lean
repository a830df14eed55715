/-! an order is obeyed -/
def obR (f : Nat → Int32) (op nu d1 d2 : Int32) : Int32 × (Nat → Int32) := if op = nI 103 then coR f nu else if op = nI 120 then leR f d1 else if op = nI 119 then woR f d1 else if op = nI 98 then boR f d1 d2 else if op = nI 116 then beR f nu else if op = nI 111 then ofR f d1 d2 (cu f) else if op = nI 114 then roR f (cu f) else (-3, f)
theorem obR_out {f : Nat → Int32} {op nu d1 d2 : Int32} (h : op.toInt < (98 : Int) ∨ (120 : Int) < op.toInt) : obR f op nu d1 d2 = (-3, f) := by
  have g : ∀ k : Nat, 98 ≤ k → k ≤ 120 → ¬ op = nI k := fun k a b => x_out2 (m := 98) (n := 120) h a b (by decide)
  rw [obR, if_neg (g 103 (by decide) (by decide)), if_neg (g 120 (by decide) (by decide)), if_neg (g 119 (by decide) (by decide)), if_neg (g 98 (by decide) (by decide)), if_neg (g 116 (by decide) (by decide)), if_neg (g 111 (by decide) (by decide)), if_neg (g 114 (by decide) (by decide))]
