/-! WANTED (by program, wip/gen) -/
def f227_30 (q : Int → Int) (x1 x3 : Int) (x5 x4 : Int) : Int := (if (q (16 + ((6 * x1) + x5))) ≠ x3 then x4 else (x4 + 1))
def f227 (s q : Int → Int) (x1 : Int) (x2 a9 : Int) : Int ⊕ Int := (if (itv (f227_30 q x1 (q (16 + ((6 * x1) + x2)))) 0 0 ((q (10 + x1)).toNat)) ≤ (r207 s (q (16 + ((6 * x1) + x2)))) then (.inl a9) else (.inr 0))
def k227 (a9 : Int) : Int := 1
def r227 (s q : Int → Int) (x1 : Int) : Int := itr (itx (f227 s q x1) 0 0 ((q (10 + x1)).toNat)) (k227)
