/-- the reference's world: the object and its three arrays -/
def mW (hm qs qt qm : Nat) (cI cJ cZ : ClassId) (th : Int32) (cn nw : Nat) (v w z : Int32) (hd : Nat) (sz tm mk : Nat → Int32) : va_W :=
  [(hm, .inr (2, [.int th, .int (nI cn), .ref qs, .ref qt, .ref qm, .int (nI nw), .int v, .int w, .int z, .int (nI hd)])), (qs, .inl (cI, 16386, .inl sz)), (qt, .inl (cJ, 16386, .inl tm)), (qm, .inl (cZ, 16386, .inl mk))]
def goT (one two : Bool) : Int32 := if one then (if two then 0 else 2) else 1
theorem upd_s (f : Nat → Int32) (k : Nat) (x : Int32) : upd f k x k = x := if_pos rfl
theorem upd_n (f : Nat → Int32) {k j : Nat} (x : Int32) (h : j ≠ k) : upd f k x j = f j := if_neg h
