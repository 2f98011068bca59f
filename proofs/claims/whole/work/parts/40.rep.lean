/-! the reference's arrays and the list of pieces that they stand for -/
theorem Til_app {l1 l2 : List AP} : ∀ {d e : Nat}, Til d (l1 ++ l2) e ↔ ∃ m, Til d l1 m ∧ Til m l2 e := by
  induction l1 with
  | nil =>
    intro d e
    exact ⟨fun h => ⟨d, rfl, h⟩, fun ⟨m, h1, h2⟩ => by cases h1; exact h2⟩
  | cons x l1 ih =>
    intro d e
    constructor
    · intro h
      obtain ⟨h1, h2, h3⟩ := h
      obtain ⟨m, h4, h5⟩ := ih.mp h3
      exact ⟨m, ⟨h1, h2, h4⟩, h5⟩
    · intro h
      obtain ⟨m, ⟨h1, h2, h4⟩, h5⟩ := h
      exact ⟨h1, h2, ih.mpr ⟨m, h4, h5⟩⟩
theorem Til_lo {L : List AP} : ∀ {d e : Nat}, Til d L e → d ≤ e ∧ ∀ x ∈ L, d ≤ x.2.1 ∧ x.2.1 + x.2.2.1 ≤ e ∧ 1 ≤ x.2.2.1 := by
  induction L with
  | nil => intro d e h; exact ⟨Nat.le_of_eq h, fun x hx => by cases hx⟩
  | cons y L ih =>
    intro d e h
    obtain ⟨h1, h2, h3⟩ := h
    obtain ⟨h4, h5⟩ := ih h3
    refine ⟨by omega, fun x hx => ?_⟩
    rcases List.mem_cons.mp hx with rfl | hx
    · omega
    · have := h5 x hx
      omega
theorem Til_mid {l1 l2 : List AP} {x : AP} {d e : Nat} (h : Til d (l1 ++ x :: l2) e) : Til d l1 x.2.1 ∧ 1 ≤ x.2.2.1 ∧ Til (x.2.1 + x.2.2.1) l2 e := by
  obtain ⟨m, h1, h2, h3, h4⟩ := Til_app.mp h
  subst h2
  exact ⟨h1, h3, h4⟩
theorem Til_midI {l1 l2 : List AP} {x : AP} {d e : Nat} (h1 : Til d l1 x.2.1) (h2 : 1 ≤ x.2.2.1) (h3 : Til (x.2.1 + x.2.2.1) l2 e) : Til d (l1 ++ x :: l2) e := Til_app.mpr ⟨x.2.1, h1, rfl, h2, h3⟩
def szV (x : AP) : Int32 := if x.2.2.2.1 then nI x.2.2.1 else -nI x.2.2.1
def RepX (f nw : Nat) (sz tm mk : Nat → Int32) (x : AP) : Prop := sz x.2.1 = szV x ∧ mk x.2.1 = bI x.2.2.2.2.1 ∧ (x.2.2.2.1 = false → ∃ T : Nat, tm x.2.1 = nI T ∧ nw + x.2.2.2.2.2 = T + f ∧ T ≤ nw)
def Rep (cn f nw : Nat) (L : List AP) (sz tm mk : Nat → Int32) : Prop := (∀ x ∈ L, RepX f nw sz tm mk x) ∧ ∀ a, 1 ≤ a → a ≤ cn → (∀ x ∈ L, x.2.1 ≠ a) → sz a = 0 ∧ mk a = 0
theorem RepX.keep {f nw δ : Nat} {sz tm mk sz' tm' mk' : Nat → Int32} {x : AP} (h : RepX f nw sz tm mk x) (h1 : sz' x.2.1 = sz x.2.1) (h2 : tm' x.2.1 = tm x.2.1) (h3 : mk' x.2.1 = mk x.2.1) : RepX (f + δ) (nw + δ) sz' tm' mk' x := by
  obtain ⟨a, b, c⟩ := h
  refine ⟨by rw [h1]; exact a, by rw [h3]; exact b, fun hu => ?_⟩
  obtain ⟨T, t1, t2, t3⟩ := c hu
  exact ⟨T, by rw [h2]; exact t1, by omega, by omega⟩
theorem Rep_seg {cn f nw δ lo hi : Nat} {l1 M M' l2 : List AP} {sz tm mk sz' tm' mk' : Nat → Int32} (h : Rep cn f nw (l1 ++ (M ++ l2)) sz tm mk) (h1 : Til 1 l1 lo) (hM : Til lo M hi) (hM' : Til lo M' hi) (h2 : Til hi l2 (cn + 1))
    (ho : ∀ a, (a < lo ∨ hi ≤ a) → sz' a = sz a ∧ tm' a = tm a ∧ mk' a = mk a) (hx : ∀ x ∈ M', RepX (f + δ) (nw + δ) sz' tm' mk' x) (hz : ∀ a, lo ≤ a → a < hi → (∀ x ∈ M', x.2.1 ≠ a) → sz' a = 0 ∧ mk' a = 0) :
    Rep cn (f + δ) (nw + δ) (l1 ++ (M' ++ l2)) sz' tm' mk' := by
  obtain ⟨a1, a2⟩ := Til_lo h1
  obtain ⟨b1, b2⟩ := Til_lo hM
  obtain ⟨c1, c2⟩ := Til_lo h2
  refine ⟨fun x hx' => ?_, fun a ha1 ha2 hn => ?_⟩
  · rcases List.mem_append.mp hx' with q | q
    · have := a2 x q
      obtain ⟨e1, e2, e3⟩ := ho x.2.1 (Or.inl (by omega))
      exact (h.1 x (List.mem_append_left _ q)).keep e1 e2 e3
    · rcases List.mem_append.mp q with q | q
      · exact hx x q
      · have := c2 x q
        obtain ⟨e1, e2, e3⟩ := ho x.2.1 (Or.inr (by omega))
        exact (h.1 x (List.mem_append_right _ (List.mem_append_right _ q))).keep e1 e2 e3
  · by_cases hl : a < lo
    · obtain ⟨e1, e2, e3⟩ := ho a (Or.inl hl)
      rw [e1, e3]
      refine h.2 a ha1 ha2 (fun x hx' => ?_)
      rcases List.mem_append.mp hx' with q | q
      · exact hn x (List.mem_append_left _ q)
      · rcases List.mem_append.mp q with q | q
        · have := b2 x q; omega
        · have := c2 x q; omega
    · by_cases hh : a < hi
      · exact hz a (by omega) hh (fun x hx' => hn x (List.mem_append_right _ (List.mem_append_left _ hx')))
      · obtain ⟨e1, e2, e3⟩ := ho a (Or.inr (by omega))
        rw [e1, e3]
        refine h.2 a ha1 ha2 (fun x hx' => ?_)
        rcases List.mem_append.mp hx' with q | q
        · have := a2 x q; omega
        · rcases List.mem_append.mp q with q | q
          · have := b2 x q; omega
          · exact hn x (List.mem_append_right _ (List.mem_append_right _ q))
theorem szV_I {x : AP} (h2 : x.2.2.1 < 2 ^ 31) : (szV x).toInt = if x.2.2.2.1 then (x.2.2.1 : Int) else -(x.2.2.1 : Int) := by
  unfold szV
  split
  · rw [nI_toInt h2]
  · rw [sb_negT h2]
def lenF (v : Int32) : Int32 := if v < 0 then 0 - v else v
theorem lenF_x {x : AP} (h1 : 1 ≤ x.2.2.1) (h2 : x.2.2.1 < 2 ^ 31) : lenF (szV x) = nI x.2.2.1 := by
  have h := szV_I h2
  unfold lenF
  cases hu : x.2.2.2.1
  · rw [hu] at h
    have hn : szV x < 0 := Int32.lt_iff_toInt_lt.mpr (by rw [h, Int32.toInt_zero]; simp; omega)
    rw [if_pos hn]
    unfold szV
    rw [hu]
    show 0 - -nI x.2.2.1 = nI x.2.2.1
    rw [Int32.sub_eq_add_neg, Int32.neg_neg, Int32.zero_add]
  · rw [hu] at h
    have hn : ¬ szV x < 0 := fun q => by
      have := Int32.lt_iff_toInt_lt.mp q
      rw [h, Int32.toInt_zero] at this
      simp at this
      omega
    rw [if_neg hn]
    unfold szV
    rw [hu]
    rfl
theorem szV_neg {x : AP} (h1 : 1 ≤ x.2.2.1) (h2 : x.2.2.1 < 2 ^ 31) : szV x < 0 ↔ x.2.2.2.1 = false := by
  rw [Int32.lt_iff_toInt_lt, szV_I h2, Int32.toInt_zero]
  cases x.2.2.2.1 <;> simp <;> omega
theorem szV_pos {x : AP} (h1 : 1 ≤ x.2.2.1) (h2 : x.2.2.1 < 2 ^ 31) : szV x ≤ 0 ↔ x.2.2.2.1 = false := by
  rw [Int32.le_iff_toInt_le, szV_I h2, Int32.toInt_zero]
  cases x.2.2.2.1 <;> simp <;> omega
theorem szV_m3 {x : AP} (h1 : 1 ≤ x.2.2.1) (h2 : x.2.2.1 < 2 ^ 31) : szV x ≤ -3 ↔ isFT x = true := by
  rw [Int32.le_iff_toInt_le, szV_I h2, show (-3 : Int32).toInt = -3 by decide]
  unfold isFT
  cases x.2.2.2.1 <;> simp <;> omega
/-- the pieces of a tiling lie within the cells -/
theorem Til_Bd {L : List AP} {cn f : Nat} (h : Til 1 L (cn + 1)) (hc : cn ≤ 16384) (x : AP) (hx : x ∈ L) : 1 ≤ x.2.1 ∧ x.2.1 ≤ cn ∧ 1 ≤ x.2.2.1 ∧ x.2.2.1 ≤ 16384 := by
  have := (Til_lo h).2 x hx
  omega
