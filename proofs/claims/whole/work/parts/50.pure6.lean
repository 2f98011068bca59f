theorem upd_same (f : Nat → Int32) (k : Nat) {x : Int32} (h : f k = x) : upd f k x = f := by
  funext j
  by_cases hj : j = k
  · rw [hj, upd_s, h]
  · rw [upd_n _ _ hj]
def hdE (s : List AP) (e : Nat) : Nat := match s with
  | [] => e
  | y :: _ => y.2.1
theorem Til_hd {s : List AP} {d e : Nat} (h : Til d s e) : hdE s e = d := by
  cases s with
  | nil => exact h.symm
  | cons y s => exact h.1
theorem szS_til {mid : List AP} : ∀ {d e : Nat}, Til d mid e → e = d + szS mid := by
  induction mid with
  | nil => intro d e h; exact h.symm
  | cons y mid ih =>
    intro d e h
    obtain ⟨h1, h2, h3⟩ := h
    rw [ih h3, szS]
    omega
/-- several pieces from x on become one -/
theorem Inv.gather {cn f nw : Nat} {pre mid rs : List AP} {x : AP} {za ta ka zb : Nat → Int32} (h : Inv cn f nw (pre ++ x :: (mid ++ rs)) za ta ka) (hz1 : ∀ y ∈ mid, zb y.2.1 = 0) (hz2 : ∀ a, (∀ y ∈ mid, y.2.1 ≠ a) → zb a = za a) (hmk : ∀ y ∈ mid, y.2.2.2.2.1 = false) (hn : nw + 1 < 2 ^ 30) :
    Inv cn (f + 1) (nw + 1) (pre ++ (x.1, x.2.1, x.2.2.1 + szS mid, false, false, f + 1) :: rs) (upd zb x.2.1 (0 - nI (x.2.2.1 + szS mid))) (upd ta x.2.1 (nI (nw + 1))) (upd ka x.2.1 0) := by
  obtain ⟨h1, h2, h3, h4, h5⟩ := h
  obtain ⟨t1, t2, t3⟩ := Til_mid h2
  obtain ⟨e, t4, t5⟩ := Til_app.mp t3
  have he := szS_til t4
  have b4 := Til_lo t4
  have b5 := Til_lo t5
  have b1 := Til_lo t1
  have hM : Til x.2.1 (x :: mid) e := ⟨rfl, t2, t4⟩
  have hM' : Til x.2.1 [(x.1, x.2.1, x.2.2.1 + szS mid, false, false, f + 1)] e := ⟨rfl, by show 1 ≤ x.2.2.1 + szS mid; omega, by show x.2.1 + (x.2.2.1 + szS mid) = e; omega⟩
  have h1' : Rep cn f nw (pre ++ ((x :: mid) ++ rs)) za ta ka := h1
  have hmm : ∀ y ∈ mid, y.2.1 ≠ x.2.1 := fun y hy => by have := b4.2 y hy; omega
  refine ⟨Rep_seg h1' t1 hM hM' t5 (fun a ha => ?_) (fun y hy => ?_) (fun a g1 g2 g3 => ?_), Til_midI t1 (by show 1 ≤ x.2.2.1 + szS mid; omega) (by show Til (x.2.1 + (x.2.2.1 + szS mid)) rs (cn + 1); rw [show x.2.1 + (x.2.2.1 + szS mid) = e by omega]; exact t5), h3, hn, fun y hy => ?_⟩
  · have g1 : a ≠ x.2.1 := by omega
    refine ⟨?_, upd_n _ _ g1, upd_n _ _ g1⟩
    rw [upd_n _ _ g1]
    exact hz2 a (fun y hy => by have := b4.2 y hy; omega)
  · cases List.mem_singleton.mp hy
    exact ⟨by show upd zb x.2.1 _ x.2.1 = -nI (x.2.2.1 + szS mid); rw [upd_s, Int32.zero_sub], upd_s _ _ _, fun _ => ⟨nw + 1, upd_s _ _ _, rfl, Nat.le_refl _⟩⟩
  · have g4 := g3 _ (List.mem_singleton.mpr rfl)
    have g4 : x.2.1 ≠ a := g4
    rw [upd_n _ _ (Ne.symm g4), upd_n _ _ (Ne.symm g4)]
    by_cases hm : ∃ y ∈ mid, y.2.1 = a
    · obtain ⟨y, hy, rfl⟩ := hm
      refine ⟨hz1 y hy, ?_⟩
      have := (h1.1 y (by simp [hy])).2.1
      rw [this, hmk y hy]
      rfl
    · have hm' : ∀ y ∈ mid, y.2.1 ≠ a := fun y hy q => hm ⟨y, hy, q⟩
      rw [hz2 a hm']
      refine h1.2 a (by omega) (by omega) (fun y hy => ?_)
      rcases List.mem_append.mp hy with q | q
      · have := b1.2 y q; omega
      · rcases List.mem_cons.mp q with rfl | q
        · exact g4
        · rcases List.mem_append.mp q with q | q
          · exact hm' y q
          · have := b5.2 y q; omega
  · rcases List.mem_append.mp hy with q | q
    · exact h5 y (List.mem_append_left _ q)
    · rcases List.mem_cons.mp q with rfl | q
      · intro g; cases g
      · exact h5 y (List.mem_append_right _ (List.mem_cons_of_mem _ (List.mem_append_right _ q)))
theorem gaM_keep {suf : List AP} {y : AP} (h : y ∈ gaM suf) : isKp y = false := by
  induction suf with
  | nil => cases h
  | cons x L ih =>
    rw [gaM] at h
    split at h
    · cases h
    · next hk =>
      rcases List.mem_cons.mp h with rfl | h
      · cases hq : isKp y
        · rfl
        · exact absurd hq hk
      · exact ih h
theorem usS_app (a b : List AP) : usS (a ++ b) = usS a + usS b := by
  induction a with
  | nil => exact (Nat.zero_add _).symm
  | cons x a ih =>
    show _ + usS (a ++ b) = _ + usS a + usS b
    rw [ih]
    omega
