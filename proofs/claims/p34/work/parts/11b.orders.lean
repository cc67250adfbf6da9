def ix (x : Int32) : Nat := x.toNatClampNeg
/-- why a write, a failure, a mending cannot be: the number of its exception, 0 if it can -/
def cWr (σ : Nat → Int32) (x v : Int32) : Nat := if inR x 42 = true then (if inR v 65536 = true then (if canW σ (ix x) = true then 0 else 3) else 2) else 1
def cFl (σ : Nat → Int32) (x : Int32) : Nat := if inR x 7 = true then (if σ (63 + ix x) = -1 then 2 else 0) else 1
def cBg (σ : Nat → Int32) (x : Int32) : Nat := if inR x 7 = true then (if ¬ σ (63 + ix x) = -1 ∨ σ 84 = 0 then 2 else 0) else 1
