theorem inD_nI {d n : Int32} (h : inD d n) : d = nI (cl d) := (clN (a := 0) (z := n.toInt) ⟨h.1, Int.le_of_lt h.2⟩ (by decide)).1
