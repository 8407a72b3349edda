abbrev tp_St : Type := Nat → Nat → Int32
def tp_up (σ : tp_St) (f k : Nat) (x : Int32) : tp_St := fun g => if g = f then upd (σ f) k x else σ g
abbrev tp_oob (i : Int32) (n : Nat) : Prop := i < 0 ∨ n ≤ i.toNatClampNeg
