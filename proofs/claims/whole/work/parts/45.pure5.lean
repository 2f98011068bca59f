theorem pAt_til {L : List AP} : ∀ {d e : Nat}, Til d L e → e < 2 ^ 31 → ∀ x ∈ L, pAt (nI x.2.1) L = some x := by
  induction L with
  | nil => intro d e _ _ x hx; cases hx
  | cons y L ih =>
    intro d e h he x hx
    obtain ⟨h1, h2, h3⟩ := h
    have hb := Til_lo h3
    rcases List.mem_cons.mp hx with rfl | hx
    · have h5 : nI x.2.1 ≤ nI x.2.1 := nI_le (Nat.le_refl _) (by omega)
      rw [pAt, if_pos h5, if_pos rfl]
    · have h4 := hb.2 x hx
      rw [pAt, if_pos (nI_le (by omega) (by omega)), if_neg (fun q => by
        have := (nI_eq (by omega) (by omega)).mp q
        omega)]
      exact ih h3 he x hx
theorem inv_at {cn f nw : Nat} {L : List AP} {za ta ka : Nat → Int32} (h : Inv cn f nw L za ta ka) {x : AP} (hx : x ∈ L) : pAt (nI x.2.1) L = some x := by
  obtain ⟨-, h2, h3, -⟩ := h
  exact pAt_til h2 (by omega) x hx
/-- what stands at an address: a piece, or nothing -/
theorem inv_cases {cn f nw : Nat} {L : List AP} {za ta ka : Nat → Int32} (h : Inv cn f nw L za ta ka) (a : Int32) : (∃ x ∈ L, a = nI x.2.1 ∧ pAt a L = some x) ∨ (pAt a L = none ∧ ((a < 1 ∨ ¬ a ≤ nI cn) ∨ ∃ k : Nat, 1 ≤ k ∧ k ≤ cn ∧ a = nI k ∧ za k = 0 ∧ ka k = 0)) := by
  cases hp : pAt a L with
  | some x => exact Or.inl ⟨x, (pAt_mem hp).1, (pAt_mem hp).2.symm, rfl⟩
  | none =>
    refine Or.inr ⟨rfl, ?_⟩
    by_cases h1 : a < 1
    · exact Or.inl (Or.inl h1)
    · by_cases h2 : a ≤ nI cn
      · have hc := h.2.2.1
        obtain ⟨k, hk1, hk2, rfl⟩ := rng (lo := 1) (hi := cn) h1 h2 (by decide) (by omega)
        refine Or.inr ⟨k, hk1, hk2, rfl, ?_⟩
        refine h.1.2 k hk1 hk2 (fun x hx q => ?_)
        have h5 := inv_at h hx
        rw [q, hp] at h5
        cases h5
      · exact Or.inl (Or.inr h2)
theorem inv_usd {cn f nw : Nat} {L : List AP} {za ta ka : Nat → Int32} (h : Inv cn f nw L za ta ka) (a : Int32) : usd cn za a = (uAt a L).isSome := by
  have hc := h.2.2.1
  rcases inv_cases h a with ⟨x, hx, rfl, hp⟩ | ⟨hp, (h1 | h1) | ⟨k, hk1, hk2, rfl, h1, h2⟩⟩
  · obtain ⟨e1, e2, e3, e4, e5, e6, e7, e8, e9⟩ := h.x hx
    have g1 : ¬ nI x.2.1 < 1 := nI_nlt (a := x.2.1) (b := 1) e5 (by omega)
    have g2 : nI x.2.1 ≤ nI cn := nI_le e6 (by omega)
    unfold usd
    rw [if_neg g1, if_pos g2, nI_clamp (by omega), e1]
    unfold uAt
    rw [hp]
    have := szV_pos e7 e8
    cases hu : x.2.2.2.1
    · rw [if_pos (this.mpr hu)]; simp [hu]
    · rw [if_neg (fun q => by rw [this.mp q] at hu; cases hu)]; simp [hu]
  · unfold usd uAt
    rw [hp, if_pos h1]; rfl
  · unfold usd uAt
    rw [hp, if_neg h1]
    split <;> rfl
  · unfold usd uAt
    rw [hp, nI_clamp (by omega), h1]
    split
    · rfl
    · split <;> rfl
theorem inv_pc {cn f nw : Nat} {L : List AP} {za ta ka : Nat → Int32} (h : Inv cn f nw L za ta ka) (a : Int32) : pcV cn za a = (match pAt a L with | none => 0 | some x => if x.2.2.2.1 then nI x.2.2.1 else -nI x.2.2.1) := by
  have hc := h.2.2.1
  rcases inv_cases h a with ⟨x, hx, rfl, hp⟩ | ⟨hp, (h1 | h1) | ⟨k, hk1, hk2, rfl, h1, h2⟩⟩
  · obtain ⟨e1, e2, e3, e4, e5, e6, e7, e8, e9⟩ := h.x hx
    have g1 : ¬ nI x.2.1 < 1 := nI_nlt (a := x.2.1) (b := 1) e5 (by omega)
    have g2 : nI x.2.1 ≤ nI cn := nI_le e6 (by omega)
    unfold pcV
    rw [if_neg g1, if_pos g2, nI_clamp (by omega), e1, hp]
    rfl
  · unfold pcV
    rw [hp, if_pos h1]
  · unfold pcV
    rw [hp, if_neg h1]
    split <;> rfl
  · unfold pcV
    rw [hp, nI_clamp (by omega), h1]
    split
    · rfl
    · split <;> rfl
theorem inv_mk {cn f nw : Nat} {L : List AP} {za ta ka : Nat → Int32} (h : Inv cn f nw L za ta ka) (a : Int32) : (if a < 1 then 0 else if a ≤ nI cn then (if ka a.toNatClampNeg = 0 then 0 else 1) else 0 : Int32) = bI (match pAt a L with | none => false | some x => x.2.2.2.2.1) := by
  have hc := h.2.2.1
  rcases inv_cases h a with ⟨x, hx, rfl, hp⟩ | ⟨hp, (h1 | h1) | ⟨k, hk1, hk2, rfl, h1, h2⟩⟩
  · obtain ⟨e1, e2, e3, e4, e5, e6, e7, e8, e9⟩ := h.x hx
    have g1 : ¬ nI x.2.1 < 1 := nI_nlt (a := x.2.1) (b := 1) e5 (by omega)
    have g2 : nI x.2.1 ≤ nI cn := nI_le e6 (by omega)
    rw [if_neg g1, if_pos g2, nI_clamp (by omega), e2, hp]
    dsimp only
    cases x.2.2.2.2.1 <;> rfl
  · rw [hp, if_pos h1]; rfl
  · rw [hp, if_neg h1]
    split <;> rfl
  · rw [hp, nI_clamp (by omega), h2]
    split
    · rfl
    · split <;> rfl
theorem Inv.rep {cn f nw δ : Nat} {l1 l2 M' : List AP} {x : AP} {za ta ka za' ta' ka' : Nat → Int32} (h : Inv cn f nw (l1 ++ x :: l2) za ta ka) (hM' : Til x.2.1 M' (x.2.1 + x.2.2.1))
    (ho : ∀ a, (a < x.2.1 ∨ x.2.1 + x.2.2.1 ≤ a) → za' a = za a ∧ ta' a = ta a ∧ ka' a = ka a) (hx : ∀ y ∈ M', RepX (f + δ) (nw + δ) za' ta' ka' y) (hz : ∀ a, x.2.1 ≤ a → a < x.2.1 + x.2.2.1 → (∀ y ∈ M', y.2.1 ≠ a) → za' a = 0 ∧ ka' a = 0) (hm : MkU M') (hn : nw + δ < 2 ^ 30) :
    Inv cn (f + δ) (nw + δ) (l1 ++ (M' ++ l2)) za' ta' ka' := by
  obtain ⟨h1, h2, h3, h4, h5⟩ := h
  obtain ⟨t1, t2, t3⟩ := Til_mid h2
  refine ⟨Rep_seg (M := [x]) h1 t1 ⟨rfl, t2, rfl⟩ hM' t3 ho hx hz, Til_app.mpr ⟨_, t1, Til_app.mpr ⟨_, hM', t3⟩⟩, h3, hn, fun y hy => ?_⟩
  rcases List.mem_append.mp hy with q | q
  · exact h5 y (List.mem_append_left _ q)
  · rcases List.mem_append.mp q with q | q
    · exact hm y q
    · exact h5 y (List.mem_append_right _ (List.mem_cons_of_mem _ q))
/-- within a piece, behind its begin, nothing stands -/
theorem Inv.gap {cn f nw : Nat} {l1 l2 : List AP} {x : AP} {za ta ka : Nat → Int32} (h : Inv cn f nw (l1 ++ x :: l2) za ta ka) {a : Nat} (h1 : x.2.1 < a) (h2 : a < x.2.1 + x.2.2.1) : za a = 0 ∧ ka a = 0 := by
  obtain ⟨g1, g2, g3, g4, g5⟩ := h
  obtain ⟨t1, t2, t3⟩ := Til_mid g2
  have b1 := Til_lo t1
  have b3 := Til_lo t3
  refine g1.2 a (by omega) (by omega) (fun y hy => ?_)
  rcases List.mem_append.mp hy with q | q
  · have := b1.2 y q; omega
  · rcases List.mem_cons.mp q with rfl | q
    · omega
    · have := b3.2 y q; omega
theorem Inv.give {cn f nw : Nat} {l1 l2 : List AP} {x : AP} {za ta ka : Nat → Int32} (h : Inv cn f nw (l1 ++ x :: l2) za ta ka) (hn : nw + 1 < 2 ^ 30) : Inv cn (f + 1) (nw + 1) (l1 ++ (x.1, x.2.1, x.2.2.1, false, false, f + 1) :: l2) (upd za x.2.1 (0 - nI x.2.2.1)) (upd ta x.2.1 (nI (nw + 1))) (upd ka x.2.1 0) := by
  have hg := h.x (x := x) (by simp)
  refine h.rep (M' := [(x.1, x.2.1, x.2.2.1, false, false, f + 1)]) ⟨rfl, hg.2.2.2.2.2.2.1, rfl⟩ (fun a ha => ?_) (fun y hy => ?_) (fun a h1 h2 h3 => ?_) (fun y hy => ?_) hn
  · have : a ≠ x.2.1 := by have := hg.2.2.2.2.2.2.1; omega
    exact ⟨upd_n _ _ this, upd_n _ _ this, upd_n _ _ this⟩
  · cases List.mem_singleton.mp hy
    exact ⟨by show upd za x.2.1 _ x.2.1 = _; rw [upd_s]; show _ = -nI x.2.2.1; rw [Int32.zero_sub], upd_s _ _ _, fun _ => ⟨nw + 1, upd_s _ _ _, rfl, Nat.le_refl _⟩⟩
  · have h4 := h3 _ (List.mem_singleton.mpr rfl)
    have h4 : x.2.1 ≠ a := h4
    rw [upd_n _ _ (Ne.symm h4), upd_n _ _ (Ne.symm h4)]
    exact h.gap (by omega) h2
  · cases List.mem_singleton.mp hy
    intro q; cases q
theorem Inv.mark {cn f nw : Nat} {l1 l2 : List AP} {x : AP} {za ta ka : Nat → Int32} (h : Inv cn f nw (l1 ++ x :: l2) za ta ka) (b : Bool) (hb : b = true → x.2.2.2.1 = true) : Inv cn f nw (l1 ++ (x.1, x.2.1, x.2.2.1, x.2.2.2.1, b, x.2.2.2.2.2) :: l2) za ta (upd ka x.2.1 (bI b)) := by
  have hg := h.x (x := x) (by simp)
  have hx := h.1.1 x (by simp)
  refine h.rep (δ := 0) (M' := [(x.1, x.2.1, x.2.2.1, x.2.2.2.1, b, x.2.2.2.2.2)]) ⟨rfl, hg.2.2.2.2.2.2.1, rfl⟩ (fun a ha => ?_) (fun y hy => ?_) (fun a h1 h2 h3 => ?_) (fun y hy => ?_) h.2.2.2.1
  · have : a ≠ x.2.1 := by have := hg.2.2.2.2.2.2.1; omega
    exact ⟨rfl, rfl, upd_n _ _ this⟩
  · cases List.mem_singleton.mp hy
    exact ⟨hx.1, upd_s _ _ _, hx.2.2⟩
  · have h4 := h3 _ (List.mem_singleton.mpr rfl)
    have h4 : x.2.1 ≠ a := h4
    rw [upd_n _ _ (Ne.symm h4)]
    exact h.gap (by omega) h2
  · cases List.mem_singleton.mp hy
    exact hb
theorem wtf_ok {n : Nat} {L : List AP} : ∀ {acc : Option AP} {x : AP}, (∀ y, acc = some y → n ≤ y.2.2.1 ∧ isFT y = true) → wtf n L acc = some x → n ≤ x.2.2.1 ∧ isFT x = true := by
  induction L with
  | nil => intro acc x ha h; exact ha x h
  | cons y L ih =>
    intro acc x ha h
    rw [wtf] at h
    refine ih ?_ h
    intro z hz
    split at hz
    · next hc =>
      cases hz
      simp [wtfC] at hc
      exact ⟨hc.1.2, hc.1.1⟩
    · exact ha z hz
theorem Inv.take1 {cn f nw : Nat} {l1 l2 : List AP} {x : AP} {za ta ka : Nat → Int32} (h : Inv cn f nw (l1 ++ x :: l2) za ta ka) (b : Bool) : Inv cn f nw (l1 ++ (x.1, x.2.1, x.2.2.1, true, b, x.2.2.2.2.2) :: l2) (upd za x.2.1 (nI x.2.2.1)) ta (upd ka x.2.1 (bI b)) := by
  have hg := h.x (x := x) (by simp)
  refine h.rep (δ := 0) (M' := [(x.1, x.2.1, x.2.2.1, true, b, x.2.2.2.2.2)]) ⟨rfl, hg.2.2.2.2.2.2.1, rfl⟩ (fun a ha => ?_) (fun y hy => ?_) (fun a h1 h2 h3 => ?_) (fun y hy => ?_) h.2.2.2.1
  · have : a ≠ x.2.1 := by have := hg.2.2.2.2.2.2.1; omega
    exact ⟨upd_n _ _ this, rfl, upd_n _ _ this⟩
  · cases List.mem_singleton.mp hy
    exact ⟨upd_s _ _ _, upd_s _ _ _, fun q => by cases q⟩
  · have h4 := h3 _ (List.mem_singleton.mpr rfl)
    have h4 : x.2.1 ≠ a := h4
    rw [upd_n _ _ (Ne.symm h4), upd_n _ _ (Ne.symm h4)]
    exact h.gap (by omega) h2
  · cases List.mem_singleton.mp hy
    exact fun _ => rfl
theorem Inv.take2 {cn f nw : Nat} {l1 l2 : List AP} {x : AP} {za ta ka : Nat → Int32} (h : Inv cn f nw (l1 ++ x :: l2) za ta ka) (b : Bool) (q k : Nat) (hk : 1 ≤ k) (hkx : k < x.2.2.1) (hn : nw + 1 < 2 ^ 30) : Inv cn (f + 1) (nw + 1) (l1 ++ (x.1, x.2.1, k, true, b, x.2.2.2.2.2) :: (q, x.2.1 + k, x.2.2.1 - k, false, false, f + 1) :: l2) (upd (upd za x.2.1 (nI k)) (x.2.1 + k) (0 - nI (x.2.2.1 - k))) (upd ta (x.2.1 + k) (nI (nw + 1))) (upd (upd ka x.2.1 (bI b)) (x.2.1 + k) 0) := by
  have hg := h.x (x := x) (by simp)
  have hne : x.2.1 ≠ x.2.1 + k := by omega
  refine h.rep (M' := [(x.1, x.2.1, k, true, b, x.2.2.2.2.2), (q, x.2.1 + k, x.2.2.1 - k, false, false, f + 1)]) ⟨rfl, hk, rfl, by show 1 ≤ x.2.2.1 - k; omega, by show x.2.1 + k + (x.2.2.1 - k) = x.2.1 + x.2.2.1; omega⟩ (fun a ha => ?_) (fun y hy => ?_) (fun a h1 h2 h3 => ?_) (fun y hy => ?_) hn
  · have h5 : a ≠ x.2.1 := by omega
    have h6 : a ≠ x.2.1 + k := by omega
    exact ⟨by rw [upd_n _ _ h6, upd_n _ _ h5], upd_n _ _ h6, by rw [upd_n _ _ h6, upd_n _ _ h5]⟩
  · rcases List.mem_cons.mp hy with rfl | hy
    · exact ⟨by show upd _ _ _ x.2.1 = nI k; rw [upd_n _ _ hne, upd_s], by show upd _ _ _ x.2.1 = bI b; rw [upd_n _ _ hne, upd_s], fun q => by cases q⟩
    · cases List.mem_singleton.mp hy
      exact ⟨by show upd _ _ _ (x.2.1 + k) = -nI (x.2.2.1 - k); rw [upd_s, Int32.zero_sub], upd_s _ _ _, fun _ => ⟨nw + 1, upd_s _ _ _, rfl, Nat.le_refl _⟩⟩
  · have h4 := h3 _ List.mem_cons_self
    have h4 : x.2.1 ≠ a := h4
    have h5 := h3 _ (List.mem_cons_of_mem _ List.mem_cons_self)
    have h5 : x.2.1 + k ≠ a := h5
    rw [upd_n _ _ (Ne.symm h5), upd_n _ _ (Ne.symm h5), upd_n _ _ (Ne.symm h4), upd_n _ _ (Ne.symm h4)]
    exact h.gap (by omega) h2
  · rcases List.mem_cons.mp hy with rfl | hy
    · exact fun _ => rfl
    · cases List.mem_singleton.mp hy
      intro q; cases q
def mkB (hd : Nat) (x : AP) : Bool := decide (0 < hd) && decide (hd ≤ x.2.1)
