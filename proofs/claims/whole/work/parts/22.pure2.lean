theorem pAt_mem {a : Int32} {L : List AP} {x : AP} (h : pAt a L = some x) : x ∈ L ∧ nI x.2.1 = a := by
  induction L with
  | nil => cases h
  | cons y L ih =>
    rw [pAt] at h
    split at h
    · split at h
      · next h2 => cases h; exact ⟨List.mem_cons_self, h2⟩
      · exact ⟨List.mem_cons_of_mem _ (ih h).1, (ih h).2⟩
    · cases h
/-- the pieces tile the cells from d on up to e -/
def Til : Nat → List AP → Nat → Prop
  | d, [], e => d = e
  | d, x :: L, e => x.2.1 = d ∧ 1 ≤ x.2.2.1 ∧ Til (d + x.2.2.1) L e
def hdB : List AP → Nat
  | [] => 0
  | x :: _ => x.2.1
/-- only used pieces are marked -/
def MkU (L : List AP) : Prop := ∀ x ∈ L, x.2.2.2.2.1 = true → x.2.2.2.1 = true
/-- the times of the free pieces -/
def TmO (f : Nat) (L : List AP) : Prop := ∀ x ∈ L, x.2.2.2.1 = false → 1 ≤ x.2.2.2.2.2 ∧ x.2.2.2.2.2 ≤ f
/-- with a sweep no mark before the hand -/
def NoM (p0 s0 : List AP) : Prop := s0 ≠ [] → ∀ x ∈ p0, x.2.2.2.2.1 = false
