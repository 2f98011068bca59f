/-! worlds by membership: cells may be dropped and put in another order -/
theorem sw_P_of {D : va_G} {cl : List vw_C} {ws ws' : va_W} {H : Heap} (h : va_P D cl ws H) (hs : ∀ q ∈ ws', q ∈ ws) : va_P D cl ws' H := by
  intro k q hk
  obtain ⟨i, hi⟩ := List.mem_iff_getElem?.mp (hs q (List.mem_of_getElem? hk))
  exact h i q hi
theorem sw_D_iff {A : Nat → Prop} {ws : va_W} : va_D A ws ↔ (ws.map Prod.fst).Nodup ∧ ∀ q ∈ ws, A q.1 := by
  constructor
  · intro h
    refine ⟨?_, fun q hq => ?_⟩
    · rw [List.Nodup, List.pairwise_iff_getElem]
      intro i j hi hj hij e
      rw [List.length_map] at hi hj
      rw [List.getElem_map, List.getElem_map] at e
      have := h.1 i j ws[i] ws[j] (List.getElem?_eq_getElem hi) (List.getElem?_eq_getElem hj) e
      omega
    · obtain ⟨i, hi⟩ := List.mem_iff_getElem?.mp hq
      exact h.2 i q hi
  · intro h
    obtain ⟨h1, h2⟩ := h
    rw [List.Nodup, List.pairwise_iff_getElem] at h1
    refine ⟨fun i j p q hp hq e => ?_, fun k q hk => h2 q (List.mem_of_getElem? hk)⟩
    obtain ⟨hi, hi2⟩ := List.getElem?_eq_some_iff.mp hp
    obtain ⟨hj, hj2⟩ := List.getElem?_eq_some_iff.mp hq
    rcases Nat.lt_trichotomy i j with g | g | g
    · exact absurd (by rw [List.getElem_map, List.getElem_map, hi2, hj2]; exact e) (h1 i j (by rw [List.length_map]; exact hi) (by rw [List.length_map]; exact hj) g)
    · exact g
    · exact absurd (by rw [List.getElem_map, List.getElem_map, hi2, hj2]; exact e.symm) (h1 j i (by rw [List.length_map]; exact hj) (by rw [List.length_map]; exact hi) g)
/-- the cells keep their addresses, or some fall away, or they stand in another order -/
theorem sw_D_sub {A : Nat → Prop} {ws ws' : va_W} (h : va_D A ws) (hs : (ws'.map Prod.fst).Sublist (ws.map Prod.fst)) : va_D A ws' := by
  rw [sw_D_iff] at h ⊢
  refine ⟨hs.nodup h.1, fun q hq => ?_⟩
  obtain ⟨p, hp, e⟩ := List.mem_map.mp (hs.subset (List.mem_map_of_mem hq))
  rw [← e]
  exact h.2 p hp
theorem sw_D_perm {A : Nat → Prop} {ws ws' : va_W} (h : va_D A ws) (hs : (ws.map Prod.fst).Perm (ws'.map Prod.fst)) : va_D A ws' := by
  rw [sw_D_iff] at h ⊢
  refine ⟨hs.nodup_iff.mp h.1, fun q hq => ?_⟩
  obtain ⟨p, hp, e⟩ := List.mem_map.mp (hs.mem_iff.mpr (List.mem_map_of_mem hq))
  rw [← e]
  exact h.2 p hp
/-- all cells of a world may be handed to a callee -/
theorem sw_free {A0 : Nat → Prop} {ws : va_W} {H0 H : Heap} {locs : List Loc} (hD : va_D A0 ws) (hS : va_S A0 H0 H locs) (hA : ∀ q, H0.size ≤ q → A0 q) : ∀ q, va_A ws H.size q → A0 q := by
  intro q h
  rcases h with ⟨k, e, h⟩ | h
  · exact hD.2 k (q, e) h
  · exact hA q (Nat.le_trans hS.1 h)
theorem sw_set_mid {α : Type} (A : List α) (c c' : α) (B : List α) : (A ++ c :: B).set A.length c' = A ++ c' :: B := by
  rw [List.set_append_right _ _ (Nat.le_refl _), Nat.sub_self, List.set_cons_zero]
theorem sw_get_mid {α : Type} (A : List α) (c : α) (B : List α) : (A ++ c :: B)[A.length]? = some c := by
  rw [List.getElem?_append_right (Nat.le_refl _), Nat.sub_self, List.getElem?_cons_zero]
