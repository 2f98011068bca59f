theorem hdO_none {s : List AP} : hdO s none = none ↔ s = [] := by
  cases s with
  | nil => exact ⟨fun _ => rfl, fun _ => rfl⟩
  | cons x s => exact ⟨fun h => (by cases h), fun h => (by cases h)⟩
theorem gaR_sub (suf : List AP) : (chG (gaR suf) none).Sublist (chG suf none) := by
  have h := gaMR suf
  have h2 : chG suf none = chG (gaM suf) (hdO (gaR suf) none) ++ chG (gaR suf) none := by rw [← chG_app, h]
  rw [h2]
  exact List.sublist_append_right _ _
theorem sw_nd {A : Nat → Prop} {S : Nat × va_E} {pre : List AP} {x : AP} {suf : List AP} (h : va_D A (S :: chG (pre ++ x :: suf) none)) : (suf.map Prod.fst).Nodup := by
  have h1 := (sw_D_iff.mp h).1
  rw [List.map_cons, chG_fst, List.map_append, List.map_cons] at h1
  exact (List.nodup_cons.mp (List.nodup_append.mp (List.nodup_cons.mp h1).2).2.1).2
theorem sw_ndL {A : Nat → Prop} {S : Nat × va_E} {L : List AP} (h : va_D A (S :: chG L none)) : (L.map Prod.fst).Nodup := by
  have h1 := (sw_D_iff.mp h).1
  rw [List.map_cons, chG_fst] at h1
  exact (List.nodup_cons.mp h1).2
theorem gaX_f {f : Nat} {x : AP} {suf : List AP} (h : gaE x suf = false) : gaX f x suf = (x.1, x.2.1, x.2.2.1 + szS (gaM suf), false, false, f + 1) ∧ gaF f x suf = f + 1 ∧ gaW x suf = (if x.2.2.2.1 then 1 else 0) + usS (gaM suf) := by
  unfold gaX gaF gaW
  rw [h]
  exact ⟨rfl, rfl, rfl⟩
theorem gaX_t {f : Nat} {x : AP} {suf : List AP} (h : gaE x suf = true) : gaX f x suf = x ∧ gaF f x suf = f ∧ gaW x suf = 0 ∧ gaR suf = suf := by
  unfold gaX gaF gaW
  rw [h]
  refine ⟨rfl, rfl, rfl, gaR_nil ?_⟩
  unfold gaE at h
  cases hm : gaM suf with
  | nil => rfl
  | cons y M => rw [hm] at h; simp at h
