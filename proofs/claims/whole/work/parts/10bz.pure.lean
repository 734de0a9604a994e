theorem zTl_t {ok : Nat → Bool} {d : Nat → Nat → Int32} {k : Nat} (h : ok k = true) : zTl ok d (k + 1) = zTt (d k) (zTl ok d k) 9 := if_pos h
theorem zTl_f {ok : Nat → Bool} {d : Nat → Nat → Int32} {k : Nat} (h : ok k = false) : zTl ok d (k + 1) = zTl ok d k := if_neg (by rw [h]; decide)
