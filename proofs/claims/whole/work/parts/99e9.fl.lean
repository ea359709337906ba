def fL : Nat → Nat → Gv := fX7 (fX6 (V0))
