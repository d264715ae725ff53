/-! what is best -/
theorem bst_no {f lab : Nat → Int32} {ini : Int32 × Int32} {n : Nat} (h : ¬ f n ≤ (bst f lab ini n).2) : bst f lab ini (n + 1) = (lab n, f n) := if_neg h
theorem bst_yes {f lab : Nat → Int32} {ini : Int32 × Int32} {n : Nat} (h : f n ≤ (bst f lab ini n).2) : bst f lab ini (n + 1) = bst f lab ini n := if_pos h
theorem bsm_no {f lab : Nat → Int32} {ini : Int32 × Int32} {n : Nat} (h : ¬ (bsm f lab ini n).2 ≤ f n) : bsm f lab ini (n + 1) = (lab n, f n) := if_neg h
theorem bsm_yes {f lab : Nat → Int32} {ini : Int32 × Int32} {n : Nat} (h : (bsm f lab ini n).2 ≤ f n) : bsm f lab ini (n + 1) = bsm f lab ini n := if_pos h
theorem qtb_no {f : Nat → Int32} {n : Nat} (h : ¬ f (n + 1) ≤ f (qtb f n)) : qtb f (n + 1) = n + 1 := if_neg h
theorem qtb_yes {f : Nat → Int32} {n : Nat} (h : f (n + 1) ≤ f (qtb f n)) : qtb f (n + 1) = qtb f n := if_pos h
