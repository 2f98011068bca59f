set_option maxHeartbeats 4000000 in
set_option maxRecDepth 100000 in
theorem c_P_end (l : Launch) (D : va_G) (ty : tyL) (ws : va_W) (k : Nat) (x : AP) (nx : Option Nat) (he : ws[k]? = some (pcell x nx)) : Met l y_P_end (Cond.code y_P_end b_P_end 1 (some .int) :: GW) ({ frames := 0, cells := 0, slots := 0, locals := 0 }) (va_Pc [.ref x.1] (at0 D ty ws)) (vp_Si (fun r => r = nI (x.2.1 + x.2.2.1))) 0 0 (fun _ => False) := by
  refine Met.ofW (cc := b_P_end) (maxL := 1) (ret := (some .int)) (by decide) rfl ?_
  intro p e s m args below meth c s₁ B hml hv
  obtain ⟨rfl, hP, hK, hN⟩ := hv
  have hx := B.exec
  have hb := B.bytes
  have hr := B.returns
  have hg : ∀ w ∈ GW, w.before _ s = true := fun w h => atoms_spec (ws := Cond.code y_P_end b_P_end 1 (some .int) :: GW) B.pre w (List.mem_cons_of_mem _ h)
  have hown : s.vm.findClass R_P = some m.cls := findClass_of_methodNamed B.named
  have hlocks := B.notSynchronized
  have hl := lv_entry ([.ref x.1]) (n := 1) (Nat.le_of_ble_eq_true rfl)
  rw [lg_entry_eq]
  generalize (lg_sl ([.ref x.1]) ++ List.replicate (1 - (lg_sl ([.ref x.1])).length) Slot.unset).toArray = ls at hl ⊢
  replace hl : lv_has ls 1 [(0, .ref x.1)] := hl
  refine lv_aload_n hx hb d_P_end_0 rfl (lv_at hl 0 rfl) ?_
  refine va_get (D := D) (ci := 1) (v := .int (nI x.2.1)) (C := R_P) (T := F_P) (N := 6) hx hb hg gi_P hown hK hP k he rfl 0 (by decide) (hg _ gw_53) (fun _ h9 => h9) rfl d_P_end_1 ?_
  refine lv_aload_n hx hb d_P_end_4 rfl (lv_at hl 0 rfl) ?_
  refine va_get (D := D) (ci := 1) (v := .int (nI x.2.2.1)) (C := R_P) (T := F_P) (N := 6) hx hb hg gi_P hown hK hP k he rfl 1 (by decide) (hg _ gw_55) (fun _ h9 => h9) rfl d_P_end_5 ?_
  refine lv_iadd hx hb d_P_end_8 ?_
  exact W.iret (v := ((nI x.2.1) + (nI x.2.2.1))) hx hb hr (fun t ht hW => ⟨_, rfl, (nI_add _ _), ht⟩) (fun q h => nomatch h) d_P_end_9
set_option maxHeartbeats 4000000 in
set_option maxRecDepth 100000 in
theorem c_P_isCrumb (l : Launch) (D : va_G) (ty : tyL) (ws : va_W) (k : Nat) (x : AP) (nx : Option Nat) (he : ws[k]? = some (pcell x nx)) (hn : x.2.2.1 < 2 ^ 31) : Met l y_P_isCrumb (Cond.code y_P_isCrumb b_P_isCrumb 1 (some .boolean) :: GW) ({ frames := 0, cells := 0, slots := 0, locals := 0 }) (va_Pc [.ref x.1] (at0 D ty ws)) (vp_Si (fun r => r = bI (isCr x))) 0 0 (fun _ => False) := by
  refine Met.ofW (cc := b_P_isCrumb) (maxL := 1) (ret := (some .boolean)) (by decide) rfl ?_
  intro p e s m args below meth c s₁ B hml hv
  obtain ⟨rfl, hP, hK, hN⟩ := hv
  have hx := B.exec
  have hb := B.bytes
  have hr := B.returns
  have hg : ∀ w ∈ GW, w.before _ s = true := fun w h => atoms_spec (ws := Cond.code y_P_isCrumb b_P_isCrumb 1 (some .boolean) :: GW) B.pre w (List.mem_cons_of_mem _ h)
  have hown : s.vm.findClass R_P = some m.cls := findClass_of_methodNamed B.named
  have hlocks := B.notSynchronized
  have hl := lv_entry ([.ref x.1]) (n := 1) (Nat.le_of_ble_eq_true rfl)
  rw [lg_entry_eq]
  generalize (lg_sl ([.ref x.1]) ++ List.replicate (1 - (lg_sl ([.ref x.1])).length) Slot.unset).toArray = ls at hl ⊢
  replace hl : lv_has ls 1 [(0, .ref x.1)] := hl
  refine lv_aload_n hx hb d_P_isCrumb_0 rfl (lv_at hl 0 rfl) ?_
  refine va_get (D := D) (ci := 1) (v := .int (bI x.2.2.2.1)) (C := R_P) (T := F_P) (N := 6) hx hb hg gi_P hown hK hP k he rfl 2 (by decide) (hg _ gw_57) (fun _ h9 => h9) rfl d_P_isCrumb_1 ?_
  refine lv_if_ne (tgt := 19) hx hb d_P_isCrumb_4 (by decide) (fun c_4 => ?_) (fun c_4 => ?_)
  · refine lv_iconst (v := 0) hx hb d_P_isCrumb_19 (by decide) ?_
    exact W.zret (v := 0) hx hb hr rfl (fun t ht hW => ⟨_, rfl, (by simp [isCr, bI_n0.mp c_4, bI]), ht⟩) (fun q h => nomatch h) d_P_isCrumb_20
  · refine lv_aload_n hx hb d_P_isCrumb_7 rfl (lv_at hl 0 rfl) ?_
    refine va_get (D := D) (ci := 1) (v := .int (nI x.2.2.1)) (C := R_P) (T := F_P) (N := 6) hx hb hg gi_P hown hK hP k he rfl 1 (by decide) (hg _ gw_55) (fun _ h9 => h9) rfl d_P_isCrumb_8 ?_
    refine lv_iconst (v := 2) hx hb d_P_isCrumb_11 (by decide) ?_
    refine lv_icmp_gt (tgt := 19) hx hb d_P_isCrumb_12 (by decide) (fun c_12 => ?_) (fun c_12 => ?_)
    · refine lv_iconst (v := 0) hx hb d_P_isCrumb_19 (by decide) ?_
      exact W.zret (v := 0) hx hb hr rfl (fun t ht hW => ⟨_, rfl, (by have h := (nI_ltI (a := 2) (by decide) hn).mp c_12; simp [isCr, bI_0.mp c_4, bI, Nat.not_le.mpr h]), ht⟩) (fun q h => nomatch h) d_P_isCrumb_20
    · refine lv_iconst (v := 1) hx hb d_P_isCrumb_15 (by decide) ?_
      refine lv_goto (tgt := 20) hx hb d_P_isCrumb_16 (by decide) ?_
      exact W.zret (v := 1) hx hb hr rfl (fun t ht hW => ⟨_, rfl, (by have h := Nat.not_lt.mp (fun h => c_12 ((nI_ltI (a := 2) (by decide) hn).mpr h)); simp [isCr, bI_0.mp c_4, bI, h]), ht⟩) (fun q h => nomatch h) d_P_isCrumb_20
set_option maxHeartbeats 4000000 in
set_option maxRecDepth 100000 in
theorem c_P_isFreeForTaking (l : Launch) (D : va_G) (ty : tyL) (ws : va_W) (k : Nat) (x : AP) (nx : Option Nat) (he : ws[k]? = some (pcell x nx)) (hn : x.2.2.1 < 2 ^ 31) : Met l y_P_isFreeForTaking (Cond.code y_P_isFreeForTaking b_P_isFreeForTaking 1 (some .boolean) :: GW) ({ frames := 0, cells := 0, slots := 0, locals := 0 }) (va_Pc [.ref x.1] (at0 D ty ws)) (vp_Si (fun r => r = bI (isFT x))) 0 0 (fun _ => False) := by
  refine Met.ofW (cc := b_P_isFreeForTaking) (maxL := 1) (ret := (some .boolean)) (by decide) rfl ?_
  intro p e s m args below meth c s₁ B hml hv
  obtain ⟨rfl, hP, hK, hN⟩ := hv
  have hx := B.exec
  have hb := B.bytes
  have hr := B.returns
  have hg : ∀ w ∈ GW, w.before _ s = true := fun w h => atoms_spec (ws := Cond.code y_P_isFreeForTaking b_P_isFreeForTaking 1 (some .boolean) :: GW) B.pre w (List.mem_cons_of_mem _ h)
  have hown : s.vm.findClass R_P = some m.cls := findClass_of_methodNamed B.named
  have hlocks := B.notSynchronized
  have hl := lv_entry ([.ref x.1]) (n := 1) (Nat.le_of_ble_eq_true rfl)
  rw [lg_entry_eq]
  generalize (lg_sl ([.ref x.1]) ++ List.replicate (1 - (lg_sl ([.ref x.1])).length) Slot.unset).toArray = ls at hl ⊢
  replace hl : lv_has ls 1 [(0, .ref x.1)] := hl
  refine lv_aload_n hx hb d_P_isFreeForTaking_0 rfl (lv_at hl 0 rfl) ?_
  refine va_get (D := D) (ci := 1) (v := .int (bI x.2.2.2.1)) (C := R_P) (T := F_P) (N := 6) hx hb hg gi_P hown hK hP k he rfl 2 (by decide) (hg _ gw_57) (fun _ h9 => h9) rfl d_P_isFreeForTaking_1 ?_
  refine lv_if_ne (tgt := 19) hx hb d_P_isFreeForTaking_4 (by decide) (fun c_4 => ?_) (fun c_4 => ?_)
  · refine lv_iconst (v := 0) hx hb d_P_isFreeForTaking_19 (by decide) ?_
    exact W.zret (v := 0) hx hb hr rfl (fun t ht hW => ⟨_, rfl, (by simp [isFT, bI_n0.mp c_4, bI]), ht⟩) (fun q h => nomatch h) d_P_isFreeForTaking_20
  · refine lv_aload_n hx hb d_P_isFreeForTaking_7 rfl (lv_at hl 0 rfl) ?_
    refine va_get (D := D) (ci := 1) (v := .int (nI x.2.2.1)) (C := R_P) (T := F_P) (N := 6) hx hb hg gi_P hown hK hP k he rfl 1 (by decide) (hg _ gw_55) (fun _ h9 => h9) rfl d_P_isFreeForTaking_8 ?_
    refine lv_iconst (v := 2) hx hb d_P_isFreeForTaking_11 (by decide) ?_
    refine lv_icmp_le (tgt := 19) hx hb d_P_isFreeForTaking_12 (by decide) (fun c_12 => ?_) (fun c_12 => ?_)
    · refine lv_iconst (v := 0) hx hb d_P_isFreeForTaking_19 (by decide) ?_
      exact W.zret (v := 0) hx hb hr rfl (fun t ht hW => ⟨_, rfl, (by have h := (nI_leI (b := 2) hn (by decide)).mp c_12; simp [isFT, bI_0.mp c_4, bI, Nat.not_lt.mpr h]), ht⟩) (fun q h => nomatch h) d_P_isFreeForTaking_20
    · refine lv_iconst (v := 1) hx hb d_P_isFreeForTaking_15 (by decide) ?_
      refine lv_goto (tgt := 20) hx hb d_P_isFreeForTaking_16 (by decide) ?_
      exact W.zret (v := 1) hx hb hr rfl (fun t ht hW => ⟨_, rfl, (by have h := Nat.not_le.mp (fun h => c_12 ((nI_leI (b := 2) hn (by decide)).mpr h)); simp [isFT, bI_0.mp c_4, bI, h]), ht⟩) (fun q h => nomatch h) d_P_isFreeForTaking_20
set_option maxHeartbeats 4000000 in
set_option maxRecDepth 100000 in
theorem c_P_isKeptBySweep (l : Launch) (D : va_G) (ty : tyL) (ws : va_W) (k : Nat) (x : AP) (nx : Option Nat) (he : ws[k]? = some (pcell x nx)) : Met l y_P_isKeptBySweep (Cond.code y_P_isKeptBySweep b_P_isKeptBySweep 1 (some .boolean) :: GW) ({ frames := 0, cells := 0, slots := 0, locals := 0 }) (va_Pc [.ref x.1] (at0 D ty ws)) (vp_Si (fun r => r = bI (isKp x))) 0 0 (fun _ => False) := by
  refine Met.ofW (cc := b_P_isKeptBySweep) (maxL := 1) (ret := (some .boolean)) (by decide) rfl ?_
  intro p e s m args below meth c s₁ B hml hv
  obtain ⟨rfl, hP, hK, hN⟩ := hv
  have hx := B.exec
  have hb := B.bytes
  have hr := B.returns
  have hg : ∀ w ∈ GW, w.before _ s = true := fun w h => atoms_spec (ws := Cond.code y_P_isKeptBySweep b_P_isKeptBySweep 1 (some .boolean) :: GW) B.pre w (List.mem_cons_of_mem _ h)
  have hown : s.vm.findClass R_P = some m.cls := findClass_of_methodNamed B.named
  have hlocks := B.notSynchronized
  have hl := lv_entry ([.ref x.1]) (n := 1) (Nat.le_of_ble_eq_true rfl)
  rw [lg_entry_eq]
  generalize (lg_sl ([.ref x.1]) ++ List.replicate (1 - (lg_sl ([.ref x.1])).length) Slot.unset).toArray = ls at hl ⊢
  replace hl : lv_has ls 1 [(0, .ref x.1)] := hl
  refine lv_aload_n hx hb d_P_isKeptBySweep_0 rfl (lv_at hl 0 rfl) ?_
  refine va_get (D := D) (ci := 1) (v := .int (bI x.2.2.2.1)) (C := R_P) (T := F_P) (N := 6) hx hb hg gi_P hown hK hP k he rfl 2 (by decide) (hg _ gw_57) (fun _ h9 => h9) rfl d_P_isKeptBySweep_1 ?_
  refine lv_if_eq (tgt := 18) hx hb d_P_isKeptBySweep_4 (by decide) (fun c_4 => ?_) (fun c_4 => ?_)
  · refine lv_iconst (v := 0) hx hb d_P_isKeptBySweep_18 (by decide) ?_
    exact W.zret (v := 0) hx hb hr rfl (fun t ht hW => ⟨_, rfl, (by simp [isKp, bI_0.mp c_4, bI]), ht⟩) (fun q h => nomatch h) d_P_isKeptBySweep_19
  · refine lv_aload_n hx hb d_P_isKeptBySweep_7 rfl (lv_at hl 0 rfl) ?_
    refine va_get (D := D) (ci := 1) (v := .int (bI x.2.2.2.2.1)) (C := R_P) (T := F_P) (N := 6) hx hb hg gi_P hown hK hP k he rfl 3 (by decide) (hg _ gw_60) (fun _ h9 => h9) rfl d_P_isKeptBySweep_8 ?_
    refine lv_if_eq (tgt := 18) hx hb d_P_isKeptBySweep_11 (by decide) (fun c_11 => ?_) (fun c_11 => ?_)
    · refine lv_iconst (v := 0) hx hb d_P_isKeptBySweep_18 (by decide) ?_
      exact W.zret (v := 0) hx hb hr rfl (fun t ht hW => ⟨_, rfl, (by simp [isKp, bI_0.mp c_11, bI]), ht⟩) (fun q h => nomatch h) d_P_isKeptBySweep_19
    · refine lv_iconst (v := 1) hx hb d_P_isKeptBySweep_14 (by decide) ?_
      refine lv_goto (tgt := 19) hx hb d_P_isKeptBySweep_15 (by decide) ?_
      exact W.zret (v := 1) hx hb hr rfl (fun t ht hW => ⟨_, rfl, (by simp [isKp, bI_n0.mp c_4, bI_n0.mp c_11, bI]), ht⟩) (fun q h => nomatch h) d_P_isKeptBySweep_19
