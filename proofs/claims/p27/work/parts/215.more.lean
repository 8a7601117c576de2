theorem upZ_s (f : Nat → Bool) (k : Nat) (x : Bool) : upZ f k x k = x := if_pos rfl
theorem upZ_n {f : Nat → Bool} {k j : Nat} {x : Bool} (h : j ≠ k) : upZ f k x j = f j := if_neg h
