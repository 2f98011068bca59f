/-- what the reference's arrays hold, all that its methods need -/
def Inv (cn f nw : Nat) (L : List AP) (za ta ka : Nat → Int32) : Prop := Rep cn f nw L za ta ka ∧ Til 1 L (cn + 1) ∧ cn ≤ 16384 ∧ nw < 2 ^ 30 ∧ MkU L
theorem Inv.x {cn f nw : Nat} {L : List AP} {za ta ka : Nat → Int32} (h : Inv cn f nw L za ta ka) {x : AP} (hx : x ∈ L) : za x.2.1 = szV x ∧ ka x.2.1 = bI x.2.2.2.2.1 ∧ (x.2.2.2.1 = false → ∃ T : Nat, ta x.2.1 = nI T ∧ nw + x.2.2.2.2.2 = T + f ∧ T ≤ nw) ∧ x.2.1 < 16386 ∧ 1 ≤ x.2.1 ∧ x.2.1 ≤ cn ∧ 1 ≤ x.2.2.1 ∧ x.2.2.1 < 2 ^ 31 ∧ x.2.2.1 ≤ 16384 := by
  obtain ⟨h1, h2, h3, h4, -⟩ := h
  obtain ⟨a, b, c⟩ := h1.1 x hx
  have := Til_Bd (f := f) h2 h3 x hx
  exact ⟨a, b, c, by omega, by omega, by omega, by omega, by omega, by omega⟩
def accB (acc : Option AP) : Nat := match acc with
  | none => 0
  | some y => y.2.1
