/-- behind a call: the cells X that the callee hadn't, and the callee's world anew -/
theorem sw_join {A0 : Nat → Prop} {D : va_G} {cl : List vw_C} {X ws w1 : va_W} {H H1 : Heap} (hP : va_P D cl (X ++ ws) H) (hD : va_D A0 (X ++ ws)) (hk : ∀ q : Nat, q < H.size → ¬ va_A ws H.size q → H1[q]? = H[q]?) (hF : ∀ q, va_A ws H.size q → A0 q) (hP1 : va_P D cl w1 H1) (hD1 : va_D (va_A ws H.size) w1) : va_P D cl (X ++ w1) H1 ∧ va_D A0 (X ++ w1) := by
  have hPX : va_P D cl X H := sw_P_of hP (fun q hq => List.mem_append_left _ hq)
  have hDX : va_D A0 X := sw_D_sub2 hD (List.sublist_append_left X ws)
  have hnd := (sw_D_iff.mp hD).1
  rw [List.map_append, List.nodup_append] at hnd
  have apart : ∀ (k : Nat) (q : Nat × va_E), X[k]? = some q → q.1 < H.size ∧ ¬ va_A ws H.size q.1 := by
    intro k q hq
    have hl := (hPX k q hq).lt
    refine ⟨hl, fun h => ?_⟩
    rcases h with ⟨k2, e, h⟩ | h
    · exact hnd.2.2 q.1 (List.mem_map_of_mem (List.mem_of_getElem? hq)) q.1 (List.mem_map.mpr ⟨_, List.mem_of_getElem? h, rfl⟩) rfl
    · omega
  refine ⟨va_P.app (fun k q hq => ?_) hP1, va_D.app hDX (hD1.weaken (fun k q _ h => hF q.1 h)) (fun i j x y hx hy hxy => ?_)⟩
  · obtain ⟨g1, g2⟩ := apart k q hq
    exact (hPX k q hq).kept (hk q.1 g1 g2)
  · exact (apart i x hx).2 (by rw [hxy]; exact hD1.2 j y hy)
theorem sw_freeR {A0 : Nat → Prop} {X ws : va_W} {H0 H : Heap} {locs : List Loc} (hD : va_D A0 (X ++ ws)) (hS : va_S A0 H0 H locs) (hA : ∀ q, H0.size ≤ q → A0 q) : ∀ q, va_A ws H.size q → A0 q := sw_free (sw_D_sub2 hD (List.sublist_append_right X ws)) hS hA
theorem sw_PR {D : va_G} {cl : List vw_C} {X ws : va_W} {H : Heap} (hP : va_P D cl (X ++ ws) H) : va_P D cl ws H := sw_P_of hP (fun q hq => List.mem_append_right _ hq)
theorem sw_DR {A0 : Nat → Prop} {X ws : va_W} (hD : va_D A0 (X ++ ws)) : va_D A0 ws := sw_D_sub2 hD (List.sublist_append_right X ws)
/-- the law's one-place array -/
def oW (qo : Nat) (cL : ClassId) (o : Nat → Int64) : va_W := [(qo, .inl (cL, 1, .inr (.inl o)))]
