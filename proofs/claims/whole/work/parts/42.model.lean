theorem bI_vp (b : Bool) : vp_nar .boolean (bI b) = bI b := by cases b <;> rfl
def usd (cn : Nat) (sz : Nat → Int32) (a : Int32) : Bool := if a < 1 then false else if a ≤ nI cn then (if sz a.toNatClampNeg ≤ 0 then false else true) else false
def pcV (cn : Nat) (sz : Nat → Int32) (a : Int32) : Int32 := if a < 1 then 0 else if a ≤ nI cn then sz a.toNatClampNeg else 0
set_option maxHeartbeats 4000000 in
set_option maxRecDepth 100000 in
theorem c_M_thrown (l : Launch) (D : va_G) (ty : tyL) (hm qs qt qm : Nat) (cI cJ cZ : ClassId) (th : Int32) (cn nw : Nat) (v w z : Int32) (hd : Nat) (za ta ka : Nat → Int32)  (t0 : ty[0]? = some (cI, .int)) (t1 : ty[1]? = some (cJ, .int)) (t2 : ty[2]? = some (cZ, .boolean))  : Met l y_M_thrown (Cond.code y_M_thrown b_M_thrown 1 (some .int) :: GW) ({ frames := 0, cells := 0, slots := 0, locals := 0 }) (va_Pc [.ref hm] (at0 D ty (mW hm qs qt qm cI cJ cZ th cn nw v w z hd za ta ka))) (vp_Si (fun r => r = th)) 0 0 (fun _ => False) := by
  refine Met.ofW (cc := b_M_thrown) (maxL := 1) (ret := (some .int)) (by decide) rfl ?_
  intro p e s m args below meth c s₁ B hml hv
  obtain ⟨rfl, hP, hK, hN⟩ := hv
  have hx := B.exec
  have hb := B.bytes
  have hr := B.returns
  have hg : ∀ w ∈ GW, w.before _ s = true := fun w h => atoms_spec (ws := Cond.code y_M_thrown b_M_thrown 1 (some .int) :: GW) B.pre w (List.mem_cons_of_mem _ h)
  have hown : s.vm.findClass R_M = some m.cls := findClass_of_methodNamed B.named
  have hlocks := B.notSynchronized
  have hl := lv_entry ([.ref hm]) (n := 1) (Nat.le_of_ble_eq_true rfl)
  rw [lg_entry_eq]
  generalize (lg_sl ([.ref hm]) ++ List.replicate (1 - (lg_sl ([.ref hm])).length) Slot.unset).toArray = ls at hl ⊢
  replace hl : lv_has ls 1 [(0, .ref hm)] := hl
  replace hP : va_P D classes [(hm, .inr (2, [.int th, .int (nI cn), .ref qs, .ref qt, .ref qm, .int (nI nw), .int v, .int w, .int z, .int (nI hd)])), (qs, .inl (cI, 16386, .inl za)), (qt, .inl (cJ, 16386, .inl ta)), (qm, .inl (cZ, 16386, .inl ka))] _ := hP
  refine lv_aload_n hx hb d_M_thrown_0 rfl (lv_at hl 0 rfl) ?_
  refine va_get (D := D) (ci := 2) (v := .int th) (C := R_M) (T := F_M) (N := 10) hx hb hg gi_M hown hK hP 0 rfl rfl 0 (by decide) (hg _ gw_352) (fun _ h9 => h9) rfl d_M_thrown_1 ?_
  exact W.iret (v := th) hx hb hr (fun t ht hW => ⟨_, rfl, rfl, ht⟩) (fun q h => nomatch h) d_M_thrown_4
set_option maxHeartbeats 4000000 in
set_option maxRecDepth 100000 in
theorem c_M_goes (l : Launch) (D : va_G) (ty : tyL) (N0 sz : Nat) (hm qs qt qm : Nat) (cI cJ cZ : ClassId) (th : Int32) (cn nw : Nat) (v w z : Int32) (hd : Nat) (za ta ka : Nat → Int32) (one two : Bool) (t0 : ty[0]? = some (cI, .int)) (t1 : ty[1]? = some (cJ, .int)) (t2 : ty[2]? = some (cZ, .boolean))  : Met l y_M_goes (Cond.code y_M_goes b_M_goes 3 (some .boolean) :: GW) ({ frames := 0, cells := 0, slots := 0, locals := 0 }) (va_Pc [.ref hm, .int (bI one), .int (bI two)] (at1 D ty N0 sz (mW hm qs qt qm cI cJ cZ th cn nw v w z hd za ta ka))) (va_Qi (fun r ws' => r = bI (one && two) ∧ ws' = mW hm qs qt qm cI cJ cZ (goT one two) cn nw v w z hd za ta ka) (at2 D ty (va_A (mW hm qs qt qm cI cJ cZ th cn nw v w z hd za ta ka) sz)) (va_A (mW hm qs qt qm cI cJ cZ th cn nw v w z hd za ta ka) sz)) 0 0 (va_A (mW hm qs qt qm cI cJ cZ th cn nw v w z hd za ta ka) sz) := by
  refine Met.ofW (cc := b_M_goes) (maxL := 3) (ret := (some .boolean)) (by decide) rfl ?_
  intro p e s m args below meth c s₁ B hml hv
  obtain ⟨rfl, hsz, hN0, ⟨hP, hK, hN⟩, hD0, hE⟩ := hv
  subst hsz
  have hD := hD0.self (sz := s.heap.size)
  have hAN := sw_AN hD0 hN0
  generalize hAe : va_A (mW hm qs qt qm cI cJ cZ th cn nw v w z hd za ta ka) s.heap.size = A at hD hAN ⊢
  have hA : ∀ q : Nat, s.heap.size ≤ q → A q := fun q h => by rw [← hAe]; exact Or.inr h
  have hS : va_S A s.heap s.heap [] := va_S.rf
  have hP : va_P D classes (mW hm qs qt qm cI cJ cZ th cn nw v w z hd za ta ka) s.heap := hP
  have hx := B.exec
  have hb := B.bytes
  have hr := B.returns
  have hg : ∀ w ∈ GW, w.before _ s = true := fun w h => atoms_spec (ws := Cond.code y_M_goes b_M_goes 3 (some .boolean) :: GW) B.pre w (List.mem_cons_of_mem _ h)
  have hown : s.vm.findClass R_M = some m.cls := findClass_of_methodNamed B.named
  have hlocks := B.notSynchronized
  have hl := lv_entry ([.ref hm, .int (bI one), .int (bI two)]) (n := 3) (Nat.le_of_ble_eq_true rfl)
  rw [lg_entry_eq]
  generalize (lg_sl ([.ref hm, .int (bI one), .int (bI two)]) ++ List.replicate (3 - (lg_sl ([.ref hm, .int (bI one), .int (bI two)])).length) Slot.unset).toArray = ls at hl ⊢
  replace hl : lv_has ls 3 [(0, .ref hm), (1, .int (bI one)), (2, .int (bI two))] := hl
  replace hP : va_P D classes [(hm, .inr (2, [.int th, .int (nI cn), .ref qs, .ref qt, .ref qm, .int (nI nw), .int v, .int w, .int z, .int (nI hd)])), (qs, .inl (cI, 16386, .inl za)), (qt, .inl (cJ, 16386, .inl ta)), (qm, .inl (cZ, 16386, .inl ka))] _ := hP
  replace hD : va_D A [(hm, .inr (2, [.int th, .int (nI cn), .ref qs, .ref qt, .ref qm, .int (nI nw), .int v, .int w, .int z, .int (nI hd)])), (qs, .inl (cI, 16386, .inl za)), (qt, .inl (cJ, 16386, .inl ta)), (qm, .inl (cZ, 16386, .inl ka))] := hD
  refine lv_aload_n hx hb d_M_goes_0 rfl (lv_at hl 0 rfl) ?_
  refine lv_iload_n hx hb d_M_goes_1 rfl (lv_at hl 1 rfl) ?_
  refine lv_if_ne (tgt := 9) hx hb d_M_goes_2 (by decide) (fun c_2 => ?_) (fun c_2 => ?_)
  · refine lv_iload_n hx hb d_M_goes_9 rfl (lv_at hl 2 rfl) ?_
    refine lv_if_ne (tgt := 17) hx hb d_M_goes_10 (by decide) (fun c_10 => ?_) (fun c_10 => ?_)
    · refine lv_iconst (v := 0) hx hb d_M_goes_17 (by decide) ?_
      refine lv_topi (fun y1 ey1 => ?_)
      obtain rfl : y1 = goT one two := ey1.trans (by simp [goT, bI_n0.mp c_2, bI_n0.mp c_10])
      clear ey1
      refine va_put (D := D) (ci := 2) (v := .int (goT one two)) (ty := .int) (C := R_M) (T := F_M) (N := 10) hx hb hg gi_M t_M t_M_ok n_M hown hK hP hD hS 0 rfl rfl 0 (by decide) (hg _ gw_352) (fun _ h9 => h9) rfl (by decide +kernel) rfl rfl (Nat.le_of_ble_eq_true rfl) d_M_goes_18 (fun H locs hP hD hS => ?_)
      replace hP : va_P D classes [(hm, .inr (2, [.int (goT one two), .int (nI cn), .ref qs, .ref qt, .ref qm, .int (nI nw), .int v, .int w, .int z, .int (nI hd)])), (qs, .inl (cI, 16386, .inl za)), (qt, .inl (cJ, 16386, .inl ta)), (qm, .inl (cZ, 16386, .inl ka))] _ := hP
      replace hD : va_D A [(hm, .inr (2, [.int (goT one two), .int (nI cn), .ref qs, .ref qt, .ref qm, .int (nI nw), .int v, .int w, .int z, .int (nI hd)])), (qs, .inl (cI, 16386, .inl za)), (qt, .inl (cJ, 16386, .inl ta)), (qm, .inl (cZ, 16386, .inl ka))] := hD
      refine lv_aload_n hx hb d_M_goes_21 rfl (lv_at hl 0 rfl) ?_
      refine va_get (D := D) (ci := 2) (v := .int (goT one two)) (C := R_M) (T := F_M) (N := 10) hx hb hg gi_M hown hK hP 0 rfl rfl 0 (by decide) (hg _ gw_352) (fun _ h9 => h9) rfl d_M_goes_22 ?_
      refine lv_if_ne (tgt := 32) hx hb d_M_goes_25 (by decide) (fun c_25 => ?_) (fun c_25 => ?_)
      · exact absurd (by simp [goT, bI_n0.mp c_2, bI_n0.mp c_10]) c_25
      · refine lv_iconst (v := 1) hx hb d_M_goes_28 (by decide) ?_
        refine lv_goto (tgt := 33) hx hb d_M_goes_29 (by decide) ?_
        refine W.widen (k := 0) (n := 0) (Nat.le_of_ble_eq_true rfl) (Nat.le_of_ble_eq_true rfl) ?_
        exact W.zret (v := 1) hx hb hr rfl (fun t ht hW => ⟨⟨_, _, rfl, ⟨by simp [bI_n0.mp c_2, bI_n0.mp c_10, bI], rfl⟩, at2.of hP hK hD ht hW⟩, hS.F ht⟩) hS.2.2 d_M_goes_33
    · refine lv_iconst (v := 2) hx hb d_M_goes_13 (by decide) ?_
      refine lv_goto (tgt := 18) hx hb d_M_goes_14 (by decide) ?_
      refine lv_topi (fun y2 ey2 => ?_)
      obtain rfl : y2 = goT one two := ey2.trans (by simp [goT, bI_n0.mp c_2, bI_0.mp c_10])
      clear ey2
      refine va_put (D := D) (ci := 2) (v := .int (goT one two)) (ty := .int) (C := R_M) (T := F_M) (N := 10) hx hb hg gi_M t_M t_M_ok n_M hown hK hP hD hS 0 rfl rfl 0 (by decide) (hg _ gw_352) (fun _ h9 => h9) rfl (by decide +kernel) rfl rfl (Nat.le_of_ble_eq_true rfl) d_M_goes_18 (fun H locs hP hD hS => ?_)
      replace hP : va_P D classes [(hm, .inr (2, [.int (goT one two), .int (nI cn), .ref qs, .ref qt, .ref qm, .int (nI nw), .int v, .int w, .int z, .int (nI hd)])), (qs, .inl (cI, 16386, .inl za)), (qt, .inl (cJ, 16386, .inl ta)), (qm, .inl (cZ, 16386, .inl ka))] _ := hP
      replace hD : va_D A [(hm, .inr (2, [.int (goT one two), .int (nI cn), .ref qs, .ref qt, .ref qm, .int (nI nw), .int v, .int w, .int z, .int (nI hd)])), (qs, .inl (cI, 16386, .inl za)), (qt, .inl (cJ, 16386, .inl ta)), (qm, .inl (cZ, 16386, .inl ka))] := hD
      refine lv_aload_n hx hb d_M_goes_21 rfl (lv_at hl 0 rfl) ?_
      refine va_get (D := D) (ci := 2) (v := .int (goT one two)) (C := R_M) (T := F_M) (N := 10) hx hb hg gi_M hown hK hP 0 rfl rfl 0 (by decide) (hg _ gw_352) (fun _ h9 => h9) rfl d_M_goes_22 ?_
      refine lv_if_ne (tgt := 32) hx hb d_M_goes_25 (by decide) (fun c_25 => ?_) (fun c_25 => ?_)
      · refine lv_iconst (v := 0) hx hb d_M_goes_32 (by decide) ?_
        refine W.widen (k := 0) (n := 0) (Nat.le_of_ble_eq_true rfl) (Nat.le_of_ble_eq_true rfl) ?_
        exact W.zret (v := 0) hx hb hr rfl (fun t ht hW => ⟨⟨_, _, rfl, ⟨by simp [bI_n0.mp c_2, bI_0.mp c_10, bI], rfl⟩, at2.of hP hK hD ht hW⟩, hS.F ht⟩) hS.2.2 d_M_goes_33
      · exact absurd c_25 (by simp [goT, bI_n0.mp c_2, bI_0.mp c_10])
  · refine lv_iconst (v := 1) hx hb d_M_goes_5 (by decide) ?_
    refine lv_goto (tgt := 18) hx hb d_M_goes_6 (by decide) ?_
    refine lv_topi (fun y3 ey3 => ?_)
    obtain rfl : y3 = goT one two := ey3.trans (by simp [goT, bI_0.mp c_2])
    clear ey3
    refine va_put (D := D) (ci := 2) (v := .int (goT one two)) (ty := .int) (C := R_M) (T := F_M) (N := 10) hx hb hg gi_M t_M t_M_ok n_M hown hK hP hD hS 0 rfl rfl 0 (by decide) (hg _ gw_352) (fun _ h9 => h9) rfl (by decide +kernel) rfl rfl (Nat.le_of_ble_eq_true rfl) d_M_goes_18 (fun H locs hP hD hS => ?_)
    replace hP : va_P D classes [(hm, .inr (2, [.int (goT one two), .int (nI cn), .ref qs, .ref qt, .ref qm, .int (nI nw), .int v, .int w, .int z, .int (nI hd)])), (qs, .inl (cI, 16386, .inl za)), (qt, .inl (cJ, 16386, .inl ta)), (qm, .inl (cZ, 16386, .inl ka))] _ := hP
    replace hD : va_D A [(hm, .inr (2, [.int (goT one two), .int (nI cn), .ref qs, .ref qt, .ref qm, .int (nI nw), .int v, .int w, .int z, .int (nI hd)])), (qs, .inl (cI, 16386, .inl za)), (qt, .inl (cJ, 16386, .inl ta)), (qm, .inl (cZ, 16386, .inl ka))] := hD
    refine lv_aload_n hx hb d_M_goes_21 rfl (lv_at hl 0 rfl) ?_
    refine va_get (D := D) (ci := 2) (v := .int (goT one two)) (C := R_M) (T := F_M) (N := 10) hx hb hg gi_M hown hK hP 0 rfl rfl 0 (by decide) (hg _ gw_352) (fun _ h9 => h9) rfl d_M_goes_22 ?_
    refine lv_if_ne (tgt := 32) hx hb d_M_goes_25 (by decide) (fun c_25 => ?_) (fun c_25 => ?_)
    · refine lv_iconst (v := 0) hx hb d_M_goes_32 (by decide) ?_
      refine W.widen (k := 0) (n := 0) (Nat.le_of_ble_eq_true rfl) (Nat.le_of_ble_eq_true rfl) ?_
      exact W.zret (v := 0) hx hb hr rfl (fun t ht hW => ⟨⟨_, _, rfl, ⟨by simp [bI_0.mp c_2, bI], rfl⟩, at2.of hP hK hD ht hW⟩, hS.F ht⟩) hS.2.2 d_M_goes_33
    · exact absurd c_25 (by simp [goT, bI_0.mp c_2])
set_option maxHeartbeats 4000000 in
set_option maxRecDepth 100000 in
theorem c_M_length (l : Launch) (D : va_G) (ty : tyL) (hm qs qt qm : Nat) (cI cJ cZ : ClassId) (th : Int32) (cn nw : Nat) (v w z : Int32) (hd : Nat) (za ta ka : Nat → Int32) (b : Nat) (t0 : ty[0]? = some (cI, .int)) (t1 : ty[1]? = some (cJ, .int)) (t2 : ty[2]? = some (cZ, .boolean)) (hb9 : b < 16386) : Met l y_M_length (Cond.code y_M_length b_M_length 2 (some .int) :: GW) ({ frames := 0, cells := 0, slots := 0, locals := 0 }) (va_Pc [.ref hm, .int (nI b)] (at0 D ty (mW hm qs qt qm cI cJ cZ th cn nw v w z hd za ta ka))) (vp_Si (fun r => r = lenF (za b))) 0 0 (fun _ => False) := by
  refine Met.ofW (cc := b_M_length) (maxL := 2) (ret := (some .int)) (by decide) rfl ?_
  intro p e s m args below meth c s₁ B hml hv
  obtain ⟨rfl, hP, hK, hN⟩ := hv
  have hx := B.exec
  have hb := B.bytes
  have hr := B.returns
  have hg : ∀ w ∈ GW, w.before _ s = true := fun w h => atoms_spec (ws := Cond.code y_M_length b_M_length 2 (some .int) :: GW) B.pre w (List.mem_cons_of_mem _ h)
  have hown : s.vm.findClass R_M = some m.cls := findClass_of_methodNamed B.named
  have hlocks := B.notSynchronized
  have hl := lv_entry ([.ref hm, .int (nI b)]) (n := 2) (Nat.le_of_ble_eq_true rfl)
  rw [lg_entry_eq]
  generalize (lg_sl ([.ref hm, .int (nI b)]) ++ List.replicate (2 - (lg_sl ([.ref hm, .int (nI b)])).length) Slot.unset).toArray = ls at hl ⊢
  replace hl : lv_has ls 2 [(0, .ref hm), (1, .int (nI b))] := hl
  replace hP : va_P D classes [(hm, .inr (2, [.int th, .int (nI cn), .ref qs, .ref qt, .ref qm, .int (nI nw), .int v, .int w, .int z, .int (nI hd)])), (qs, .inl (cI, 16386, .inl za)), (qt, .inl (cJ, 16386, .inl ta)), (qm, .inl (cZ, 16386, .inl ka))] _ := hP
  refine lv_aload_n hx hb d_M_length_0 rfl (lv_at hl 0 rfl) ?_
  refine va_get (D := D) (ci := 2) (v := .ref qs) (C := R_M) (T := F_M) (N := 10) hx hb hg gi_M hown hK hP 0 rfl rfl 2 (by decide) (hg _ gw_354) (fun _ h9 => h9) rfl d_M_length_1 ?_
  refine lv_iload_n hx hb d_M_length_4 rfl (lv_at hl 1 rfl) ?_
  refine va_iald hx hb hK hP 1 0 rfl t0 (vp_in_nI hb9 (by decide)) d_M_length_5 ?_
  refine lv_topi (fun y1 ey1 => ?_)
  obtain rfl : y1 = za b := ey1.trans (congrArg za (nI_clamp (Nat.lt_trans hb9 (by decide))))
  clear ey1
  refine lv_if_ge (tgt := 20) hx hb d_M_length_6 (by decide) (fun c_6 => ?_) (fun c_6 => ?_)
  · refine lv_aload_n hx hb d_M_length_20 rfl (lv_at hl 0 rfl) ?_
    refine va_get (D := D) (ci := 2) (v := .ref qs) (C := R_M) (T := F_M) (N := 10) hx hb hg gi_M hown hK hP 0 rfl rfl 2 (by decide) (hg _ gw_354) (fun _ h9 => h9) rfl d_M_length_21 ?_
    refine lv_iload_n hx hb d_M_length_24 rfl (lv_at hl 1 rfl) ?_
    refine va_iald hx hb hK hP 1 0 rfl t0 (vp_in_nI hb9 (by decide)) d_M_length_25 ?_
    refine lv_topi (fun y2 ey2 => ?_)
    obtain rfl : y2 = za b := ey2.trans (congrArg za (nI_clamp (Nat.lt_trans hb9 (by decide))))
    clear ey2
    exact W.iret (v := (za b)) hx hb hr (fun t ht hW => ⟨_, rfl, (by unfold lenF; rw [if_neg (fun h9 => Int32.not_lt.mpr c_6 h9)]), ht⟩) (fun q h => nomatch h) d_M_length_26
  · refine lv_iconst (v := 0) hx hb d_M_length_9 (by decide) ?_
    refine lv_aload_n hx hb d_M_length_10 rfl (lv_at hl 0 rfl) ?_
    refine va_get (D := D) (ci := 2) (v := .ref qs) (C := R_M) (T := F_M) (N := 10) hx hb hg gi_M hown hK hP 0 rfl rfl 2 (by decide) (hg _ gw_354) (fun _ h9 => h9) rfl d_M_length_11 ?_
    refine lv_iload_n hx hb d_M_length_14 rfl (lv_at hl 1 rfl) ?_
    refine va_iald hx hb hK hP 1 0 rfl t0 (vp_in_nI hb9 (by decide)) d_M_length_15 ?_
    refine lv_topi (fun y3 ey3 => ?_)
    obtain rfl : y3 = za b := ey3.trans (congrArg za (nI_clamp (Nat.lt_trans hb9 (by decide))))
    clear ey3
    refine lv_isub hx hb d_M_length_16 ?_
    refine lv_goto (tgt := 26) hx hb d_M_length_17 (by decide) ?_
    exact W.iret (v := (0 - (za b))) hx hb hr (fun t ht hW => ⟨_, rfl, (by unfold lenF; rw [if_pos (Int32.not_le.mp c_6)]), ht⟩) (fun q h => nomatch h) d_M_length_26
set_option maxHeartbeats 4000000 in
set_option maxRecDepth 100000 in
theorem c_M_release (l : Launch) (D : va_G) (ty : tyL) (N0 sz : Nat) (hm qs qt qm : Nat) (cI cJ cZ : ClassId) (th : Int32) (cn nw : Nat) (v w z : Int32) (hd : Nat) (za ta ka : Nat → Int32) (b : Nat) (y : Int32) (t0 : ty[0]? = some (cI, .int)) (t1 : ty[1]? = some (cJ, .int)) (t2 : ty[2]? = some (cZ, .boolean)) (hb9 : b < 16386) : Met l y_M_release (Cond.code y_M_release b_M_release 3 none :: GW) ({ frames := 0, cells := 0, slots := 0, locals := 0 }) (va_Pc [.ref hm, .int (nI b), .int y] (at1 D ty N0 sz (mW hm qs qt qm cI cJ cZ th cn nw v w z hd za ta ka))) (va_Qv (fun ws' => ws' = mW hm qs qt qm cI cJ cZ th cn (nw + 1) v w z hd (upd za b (0 - y)) (upd ta b (nI (nw + 1))) (upd ka b 0)) (at2 D ty (va_A (mW hm qs qt qm cI cJ cZ th cn nw v w z hd za ta ka) sz)) (va_A (mW hm qs qt qm cI cJ cZ th cn nw v w z hd za ta ka) sz)) 0 0 (va_A (mW hm qs qt qm cI cJ cZ th cn nw v w z hd za ta ka) sz) := by
  refine Met.ofW (cc := b_M_release) (maxL := 3) (ret := none) (by decide) rfl ?_
  intro p e s m args below meth c s₁ B hml hv
  obtain ⟨rfl, hsz, hN0, ⟨hP, hK, hN⟩, hD0, hE⟩ := hv
  subst hsz
  have hD := hD0.self (sz := s.heap.size)
  have hAN := sw_AN hD0 hN0
  generalize hAe : va_A (mW hm qs qt qm cI cJ cZ th cn nw v w z hd za ta ka) s.heap.size = A at hD hAN ⊢
  have hA : ∀ q : Nat, s.heap.size ≤ q → A q := fun q h => by rw [← hAe]; exact Or.inr h
  have hS : va_S A s.heap s.heap [] := va_S.rf
  have hP : va_P D classes (mW hm qs qt qm cI cJ cZ th cn nw v w z hd za ta ka) s.heap := hP
  have hx := B.exec
  have hb := B.bytes
  have hr := B.returns
  have hg : ∀ w ∈ GW, w.before _ s = true := fun w h => atoms_spec (ws := Cond.code y_M_release b_M_release 3 none :: GW) B.pre w (List.mem_cons_of_mem _ h)
  have hown : s.vm.findClass R_M = some m.cls := findClass_of_methodNamed B.named
  have hlocks := B.notSynchronized
  have hl := lv_entry ([.ref hm, .int (nI b), .int y]) (n := 3) (Nat.le_of_ble_eq_true rfl)
  rw [lg_entry_eq]
  generalize (lg_sl ([.ref hm, .int (nI b), .int y]) ++ List.replicate (3 - (lg_sl ([.ref hm, .int (nI b), .int y])).length) Slot.unset).toArray = ls at hl ⊢
  replace hl : lv_has ls 3 [(0, .ref hm), (1, .int (nI b)), (2, .int y)] := hl
  replace hP : va_P D classes [(hm, .inr (2, [.int th, .int (nI cn), .ref qs, .ref qt, .ref qm, .int (nI nw), .int v, .int w, .int z, .int (nI hd)])), (qs, .inl (cI, 16386, .inl za)), (qt, .inl (cJ, 16386, .inl ta)), (qm, .inl (cZ, 16386, .inl ka))] _ := hP
  replace hD : va_D A [(hm, .inr (2, [.int th, .int (nI cn), .ref qs, .ref qt, .ref qm, .int (nI nw), .int v, .int w, .int z, .int (nI hd)])), (qs, .inl (cI, 16386, .inl za)), (qt, .inl (cJ, 16386, .inl ta)), (qm, .inl (cZ, 16386, .inl ka))] := hD
  refine lv_aload_n hx hb d_M_release_0 rfl (lv_at hl 0 rfl) ?_
  refine lv_dup hx hb d_M_release_1 rfl ?_
  refine va_get (D := D) (ci := 2) (v := .int (nI nw)) (C := R_M) (T := F_M) (N := 10) hx hb hg gi_M hown hK hP 0 rfl rfl 5 (by decide) (hg _ gw_357) (fun _ h9 => h9) rfl d_M_release_2 ?_
  refine lv_iconst (v := 1) hx hb d_M_release_5 (by decide) ?_
  refine lv_iadd hx hb d_M_release_6 ?_
  refine lv_topi (fun y1 ey1 => ?_)
  obtain rfl : y1 = nI (nw + 1) := ey1.trans (nI_1 nw)
  clear ey1
  refine va_put (D := D) (ci := 2) (v := .int (nI (nw + 1))) (ty := .int) (C := R_M) (T := F_M) (N := 10) hx hb hg gi_M t_M t_M_ok n_M hown hK hP hD hS 0 rfl rfl 5 (by decide) (hg _ gw_357) (fun _ h9 => h9) rfl (by decide +kernel) rfl rfl (Nat.le_of_ble_eq_true rfl) d_M_release_7 (fun H locs hP hD hS => ?_)
  replace hP : va_P D classes [(hm, .inr (2, [.int th, .int (nI cn), .ref qs, .ref qt, .ref qm, .int (nI (nw + 1)), .int v, .int w, .int z, .int (nI hd)])), (qs, .inl (cI, 16386, .inl za)), (qt, .inl (cJ, 16386, .inl ta)), (qm, .inl (cZ, 16386, .inl ka))] _ := hP
  replace hD : va_D A [(hm, .inr (2, [.int th, .int (nI cn), .ref qs, .ref qt, .ref qm, .int (nI (nw + 1)), .int v, .int w, .int z, .int (nI hd)])), (qs, .inl (cI, 16386, .inl za)), (qt, .inl (cJ, 16386, .inl ta)), (qm, .inl (cZ, 16386, .inl ka))] := hD
  refine lv_aload_n hx hb d_M_release_10 rfl (lv_at hl 0 rfl) ?_
  refine va_get (D := D) (ci := 2) (v := .ref qs) (C := R_M) (T := F_M) (N := 10) hx hb hg gi_M hown hK hP 0 rfl rfl 2 (by decide) (hg _ gw_354) (fun _ h9 => h9) rfl d_M_release_11 ?_
  refine lv_iload_n hx hb d_M_release_14 rfl (lv_at hl 1 rfl) ?_
  refine lv_iconst (v := 0) hx hb d_M_release_15 (by decide) ?_
  refine lv_iload_n hx hb d_M_release_16 rfl (lv_at hl 2 rfl) ?_
  refine lv_isub hx hb d_M_release_17 ?_
  refine va_iast hx hb hK hP hD hS 1 0 rfl t0 (vp_in_nI hb9 (by decide)) d_M_release_18 (fun H locs hP hD hS => ?_)
  rw [nI_clamp (Nat.lt_trans hb9 (by decide))] at hP hD
  replace hP : va_P D classes [(hm, .inr (2, [.int th, .int (nI cn), .ref qs, .ref qt, .ref qm, .int (nI (nw + 1)), .int v, .int w, .int z, .int (nI hd)])), (qs, .inl (cI, 16386, .inl (upd za b (0 - y)))), (qt, .inl (cJ, 16386, .inl ta)), (qm, .inl (cZ, 16386, .inl ka))] _ := hP
  replace hD : va_D A [(hm, .inr (2, [.int th, .int (nI cn), .ref qs, .ref qt, .ref qm, .int (nI (nw + 1)), .int v, .int w, .int z, .int (nI hd)])), (qs, .inl (cI, 16386, .inl (upd za b (0 - y)))), (qt, .inl (cJ, 16386, .inl ta)), (qm, .inl (cZ, 16386, .inl ka))] := hD
  refine lv_aload_n hx hb d_M_release_19 rfl (lv_at hl 0 rfl) ?_
  refine va_get (D := D) (ci := 2) (v := .ref qt) (C := R_M) (T := F_M) (N := 10) hx hb hg gi_M hown hK hP 0 rfl rfl 3 (by decide) (hg _ gw_355) (fun _ h9 => h9) rfl d_M_release_20 ?_
  refine lv_iload_n hx hb d_M_release_23 rfl (lv_at hl 1 rfl) ?_
  refine lv_aload_n hx hb d_M_release_24 rfl (lv_at hl 0 rfl) ?_
  refine va_get (D := D) (ci := 2) (v := .int (nI (nw + 1))) (C := R_M) (T := F_M) (N := 10) hx hb hg gi_M hown hK hP 0 rfl rfl 5 (by decide) (hg _ gw_357) (fun _ h9 => h9) rfl d_M_release_25 ?_
  refine va_iast hx hb hK hP hD hS 2 1 rfl t1 (vp_in_nI hb9 (by decide)) d_M_release_28 (fun H locs hP hD hS => ?_)
  rw [nI_clamp (Nat.lt_trans hb9 (by decide))] at hP hD
  replace hP : va_P D classes [(hm, .inr (2, [.int th, .int (nI cn), .ref qs, .ref qt, .ref qm, .int (nI (nw + 1)), .int v, .int w, .int z, .int (nI hd)])), (qs, .inl (cI, 16386, .inl (upd za b (0 - y)))), (qt, .inl (cJ, 16386, .inl (upd ta b (nI (nw + 1))))), (qm, .inl (cZ, 16386, .inl ka))] _ := hP
  replace hD : va_D A [(hm, .inr (2, [.int th, .int (nI cn), .ref qs, .ref qt, .ref qm, .int (nI (nw + 1)), .int v, .int w, .int z, .int (nI hd)])), (qs, .inl (cI, 16386, .inl (upd za b (0 - y)))), (qt, .inl (cJ, 16386, .inl (upd ta b (nI (nw + 1))))), (qm, .inl (cZ, 16386, .inl ka))] := hD
  refine lv_aload_n hx hb d_M_release_29 rfl (lv_at hl 0 rfl) ?_
  refine va_get (D := D) (ci := 2) (v := .ref qm) (C := R_M) (T := F_M) (N := 10) hx hb hg gi_M hown hK hP 0 rfl rfl 4 (by decide) (hg _ gw_356) (fun _ h9 => h9) rfl d_M_release_30 ?_
  refine lv_iload_n hx hb d_M_release_33 rfl (lv_at hl 1 rfl) ?_
  refine lv_iconst (v := 0) hx hb d_M_release_34 (by decide) ?_
  refine va_zast hx hb hK hP hD hS 3 2 rfl t2 (vp_in_nI hb9 (by decide)) d_M_release_35 (fun H locs hP hD hS => ?_)
  rw [nI_clamp (Nat.lt_trans hb9 (by decide))] at hP hD
  replace hP : va_P D classes [(hm, .inr (2, [.int th, .int (nI cn), .ref qs, .ref qt, .ref qm, .int (nI (nw + 1)), .int v, .int w, .int z, .int (nI hd)])), (qs, .inl (cI, 16386, .inl (upd za b (0 - y)))), (qt, .inl (cJ, 16386, .inl (upd ta b (nI (nw + 1))))), (qm, .inl (cZ, 16386, .inl (upd ka b 0)))] _ := hP
  replace hD : va_D A [(hm, .inr (2, [.int th, .int (nI cn), .ref qs, .ref qt, .ref qm, .int (nI (nw + 1)), .int v, .int w, .int z, .int (nI hd)])), (qs, .inl (cI, 16386, .inl (upd za b (0 - y)))), (qt, .inl (cJ, 16386, .inl (upd ta b (nI (nw + 1))))), (qm, .inl (cZ, 16386, .inl (upd ka b 0)))] := hD
  refine W.widen (k := 0) (n := 0) (Nat.le_of_ble_eq_true rfl) (Nat.le_of_ble_eq_true rfl) ?_
  exact W.vret hx hb hr (fun t ht hW => ⟨⟨_, rfl, rfl, at2.of hP hK hD ht hW⟩, hS.F ht⟩) hS.2.2 d_M_release_36
set_option maxHeartbeats 4000000 in
set_option maxRecDepth 100000 in
theorem c_M_hand (l : Launch) (D : va_G) (ty : tyL) (N0 sz : Nat) (hm qs qt qm : Nat) (cI cJ cZ : ClassId) (th : Int32) (cn nw : Nat) (v w z : Int32) (hd : Nat) (za ta ka : Nat → Int32)  (t0 : ty[0]? = some (cI, .int)) (t1 : ty[1]? = some (cJ, .int)) (t2 : ty[2]? = some (cZ, .boolean))  : Met l y_M_hand (Cond.code y_M_hand b_M_hand 1 (some .int) :: GW) ({ frames := 0, cells := 0, slots := 0, locals := 0 }) (va_Pc [.ref hm] (at1 D ty N0 sz (mW hm qs qt qm cI cJ cZ th cn nw v w z hd za ta ka))) (va_Qi (fun r ws' => r = nI hd ∧ ws' = mW hm qs qt qm cI cJ cZ 0 cn nw v w z hd za ta ka) (at2 D ty (va_A (mW hm qs qt qm cI cJ cZ th cn nw v w z hd za ta ka) sz)) (va_A (mW hm qs qt qm cI cJ cZ th cn nw v w z hd za ta ka) sz)) 0 0 (va_A (mW hm qs qt qm cI cJ cZ th cn nw v w z hd za ta ka) sz) := by
  refine Met.ofW (cc := b_M_hand) (maxL := 1) (ret := (some .int)) (by decide) rfl ?_
  intro p e s m args below meth c s₁ B hml hv
  obtain ⟨rfl, hsz, hN0, ⟨hP, hK, hN⟩, hD0, hE⟩ := hv
  subst hsz
  have hD := hD0.self (sz := s.heap.size)
  have hAN := sw_AN hD0 hN0
  generalize hAe : va_A (mW hm qs qt qm cI cJ cZ th cn nw v w z hd za ta ka) s.heap.size = A at hD hAN ⊢
  have hA : ∀ q : Nat, s.heap.size ≤ q → A q := fun q h => by rw [← hAe]; exact Or.inr h
  have hS : va_S A s.heap s.heap [] := va_S.rf
  have hP : va_P D classes (mW hm qs qt qm cI cJ cZ th cn nw v w z hd za ta ka) s.heap := hP
  have hx := B.exec
  have hb := B.bytes
  have hr := B.returns
  have hg : ∀ w ∈ GW, w.before _ s = true := fun w h => atoms_spec (ws := Cond.code y_M_hand b_M_hand 1 (some .int) :: GW) B.pre w (List.mem_cons_of_mem _ h)
  have hown : s.vm.findClass R_M = some m.cls := findClass_of_methodNamed B.named
  have hlocks := B.notSynchronized
  have hl := lv_entry ([.ref hm]) (n := 1) (Nat.le_of_ble_eq_true rfl)
  rw [lg_entry_eq]
  generalize (lg_sl ([.ref hm]) ++ List.replicate (1 - (lg_sl ([.ref hm])).length) Slot.unset).toArray = ls at hl ⊢
  replace hl : lv_has ls 1 [(0, .ref hm)] := hl
  replace hP : va_P D classes [(hm, .inr (2, [.int th, .int (nI cn), .ref qs, .ref qt, .ref qm, .int (nI nw), .int v, .int w, .int z, .int (nI hd)])), (qs, .inl (cI, 16386, .inl za)), (qt, .inl (cJ, 16386, .inl ta)), (qm, .inl (cZ, 16386, .inl ka))] _ := hP
  replace hD : va_D A [(hm, .inr (2, [.int th, .int (nI cn), .ref qs, .ref qt, .ref qm, .int (nI nw), .int v, .int w, .int z, .int (nI hd)])), (qs, .inl (cI, 16386, .inl za)), (qt, .inl (cJ, 16386, .inl ta)), (qm, .inl (cZ, 16386, .inl ka))] := hD
  refine lv_aload_n hx hb d_M_hand_0 rfl (lv_at hl 0 rfl) ?_
  refine lv_iconst (v := 0) hx hb d_M_hand_1 (by decide) ?_
  refine va_put (D := D) (ci := 2) (v := .int 0) (ty := .int) (C := R_M) (T := F_M) (N := 10) hx hb hg gi_M t_M t_M_ok n_M hown hK hP hD hS 0 rfl rfl 0 (by decide) (hg _ gw_352) (fun _ h9 => h9) rfl (by decide +kernel) rfl rfl (Nat.le_of_ble_eq_true rfl) d_M_hand_2 (fun H locs hP hD hS => ?_)
  replace hP : va_P D classes [(hm, .inr (2, [.int 0, .int (nI cn), .ref qs, .ref qt, .ref qm, .int (nI nw), .int v, .int w, .int z, .int (nI hd)])), (qs, .inl (cI, 16386, .inl za)), (qt, .inl (cJ, 16386, .inl ta)), (qm, .inl (cZ, 16386, .inl ka))] _ := hP
  replace hD : va_D A [(hm, .inr (2, [.int 0, .int (nI cn), .ref qs, .ref qt, .ref qm, .int (nI nw), .int v, .int w, .int z, .int (nI hd)])), (qs, .inl (cI, 16386, .inl za)), (qt, .inl (cJ, 16386, .inl ta)), (qm, .inl (cZ, 16386, .inl ka))] := hD
  refine lv_aload_n hx hb d_M_hand_5 rfl (lv_at hl 0 rfl) ?_
  refine va_get (D := D) (ci := 2) (v := .int (nI hd)) (C := R_M) (T := F_M) (N := 10) hx hb hg gi_M hown hK hP 0 rfl rfl 9 (by decide) (hg _ gw_361) (fun _ h9 => h9) rfl d_M_hand_6 ?_
  refine W.widen (k := 0) (n := 0) (Nat.le_of_ble_eq_true rfl) (Nat.le_of_ble_eq_true rfl) ?_
  exact W.iret (v := (nI hd)) hx hb hr (fun t ht hW => ⟨⟨_, _, rfl, ⟨rfl, rfl⟩, at2.of hP hK hD ht hW⟩, hS.F ht⟩) hS.2.2 d_M_hand_9
set_option maxHeartbeats 4000000 in
set_option maxRecDepth 100000 in
theorem c_M_faults (l : Launch) (D : va_G) (ty : tyL) (N0 sz : Nat) (hm qs qt qm : Nat) (cI cJ cZ : ClassId) (th : Int32) (cn nw : Nat) (v w z : Int32) (hd : Nat) (za ta ka : Nat → Int32)  (t0 : ty[0]? = some (cI, .int)) (t1 : ty[1]? = some (cJ, .int)) (t2 : ty[2]? = some (cZ, .boolean))  : Met l y_M_faults (Cond.code y_M_faults b_M_faults 1 (some .int) :: GW) ({ frames := 0, cells := 0, slots := 0, locals := 0 }) (va_Pc [.ref hm] (at1 D ty N0 sz (mW hm qs qt qm cI cJ cZ th cn nw v w z hd za ta ka))) (va_Qi (fun r ws' => r = 0 ∧ ws' = mW hm qs qt qm cI cJ cZ 0 cn nw v w z hd za ta ka) (at2 D ty (va_A (mW hm qs qt qm cI cJ cZ th cn nw v w z hd za ta ka) sz)) (va_A (mW hm qs qt qm cI cJ cZ th cn nw v w z hd za ta ka) sz)) 0 0 (va_A (mW hm qs qt qm cI cJ cZ th cn nw v w z hd za ta ka) sz) := by
  refine Met.ofW (cc := b_M_faults) (maxL := 1) (ret := (some .int)) (by decide) rfl ?_
  intro p e s m args below meth c s₁ B hml hv
  obtain ⟨rfl, hsz, hN0, ⟨hP, hK, hN⟩, hD0, hE⟩ := hv
  subst hsz
  have hD := hD0.self (sz := s.heap.size)
  have hAN := sw_AN hD0 hN0
  generalize hAe : va_A (mW hm qs qt qm cI cJ cZ th cn nw v w z hd za ta ka) s.heap.size = A at hD hAN ⊢
  have hA : ∀ q : Nat, s.heap.size ≤ q → A q := fun q h => by rw [← hAe]; exact Or.inr h
  have hS : va_S A s.heap s.heap [] := va_S.rf
  have hP : va_P D classes (mW hm qs qt qm cI cJ cZ th cn nw v w z hd za ta ka) s.heap := hP
  have hx := B.exec
  have hb := B.bytes
  have hr := B.returns
  have hg : ∀ w ∈ GW, w.before _ s = true := fun w h => atoms_spec (ws := Cond.code y_M_faults b_M_faults 1 (some .int) :: GW) B.pre w (List.mem_cons_of_mem _ h)
  have hown : s.vm.findClass R_M = some m.cls := findClass_of_methodNamed B.named
  have hlocks := B.notSynchronized
  have hl := lv_entry ([.ref hm]) (n := 1) (Nat.le_of_ble_eq_true rfl)
  rw [lg_entry_eq]
  generalize (lg_sl ([.ref hm]) ++ List.replicate (1 - (lg_sl ([.ref hm])).length) Slot.unset).toArray = ls at hl ⊢
  replace hl : lv_has ls 1 [(0, .ref hm)] := hl
  replace hP : va_P D classes [(hm, .inr (2, [.int th, .int (nI cn), .ref qs, .ref qt, .ref qm, .int (nI nw), .int v, .int w, .int z, .int (nI hd)])), (qs, .inl (cI, 16386, .inl za)), (qt, .inl (cJ, 16386, .inl ta)), (qm, .inl (cZ, 16386, .inl ka))] _ := hP
  replace hD : va_D A [(hm, .inr (2, [.int th, .int (nI cn), .ref qs, .ref qt, .ref qm, .int (nI nw), .int v, .int w, .int z, .int (nI hd)])), (qs, .inl (cI, 16386, .inl za)), (qt, .inl (cJ, 16386, .inl ta)), (qm, .inl (cZ, 16386, .inl ka))] := hD
  refine lv_aload_n hx hb d_M_faults_0 rfl (lv_at hl 0 rfl) ?_
  refine lv_iconst (v := 0) hx hb d_M_faults_1 (by decide) ?_
  refine va_put (D := D) (ci := 2) (v := .int 0) (ty := .int) (C := R_M) (T := F_M) (N := 10) hx hb hg gi_M t_M t_M_ok n_M hown hK hP hD hS 0 rfl rfl 0 (by decide) (hg _ gw_352) (fun _ h9 => h9) rfl (by decide +kernel) rfl rfl (Nat.le_of_ble_eq_true rfl) d_M_faults_2 (fun H locs hP hD hS => ?_)
  replace hP : va_P D classes [(hm, .inr (2, [.int 0, .int (nI cn), .ref qs, .ref qt, .ref qm, .int (nI nw), .int v, .int w, .int z, .int (nI hd)])), (qs, .inl (cI, 16386, .inl za)), (qt, .inl (cJ, 16386, .inl ta)), (qm, .inl (cZ, 16386, .inl ka))] _ := hP
  replace hD : va_D A [(hm, .inr (2, [.int 0, .int (nI cn), .ref qs, .ref qt, .ref qm, .int (nI nw), .int v, .int w, .int z, .int (nI hd)])), (qs, .inl (cI, 16386, .inl za)), (qt, .inl (cJ, 16386, .inl ta)), (qm, .inl (cZ, 16386, .inl ka))] := hD
  refine lv_iconst (v := 0) hx hb d_M_faults_5 (by decide) ?_
  refine W.widen (k := 0) (n := 0) (Nat.le_of_ble_eq_true rfl) (Nat.le_of_ble_eq_true rfl) ?_
  exact W.iret (v := 0) hx hb hr (fun t ht hW => ⟨⟨_, _, rfl, ⟨rfl, rfl⟩, at2.of hP hK hD ht hW⟩, hS.F ht⟩) hS.2.2 d_M_faults_6
set_option maxHeartbeats 4000000 in
set_option maxRecDepth 100000 in
theorem c_M_used (l : Launch) (D : va_G) (ty : tyL) (hm qs qt qm : Nat) (cI cJ cZ : ClassId) (th : Int32) (cn nw : Nat) (v w z : Int32) (hd : Nat) (za ta ka : Nat → Int32) (a : Int32) (t0 : ty[0]? = some (cI, .int)) (t1 : ty[1]? = some (cJ, .int)) (t2 : ty[2]? = some (cZ, .boolean)) (hc : cn ≤ 16384) : Met l y_M_used (Cond.code y_M_used b_M_used 2 (some .boolean) :: GW) ({ frames := 0, cells := 0, slots := 0, locals := 0 }) (va_Pc [.ref hm, .int a] (at0 D ty (mW hm qs qt qm cI cJ cZ th cn nw v w z hd za ta ka))) (vp_Si (fun r => r = bI (usd cn za a))) 0 0 (fun _ => False) := by
  refine Met.ofW (cc := b_M_used) (maxL := 2) (ret := (some .boolean)) (by decide) rfl ?_
  intro p e s m args below meth c s₁ B hml hv
  obtain ⟨rfl, hP, hK, hN⟩ := hv
  have hx := B.exec
  have hb := B.bytes
  have hr := B.returns
  have hg : ∀ w ∈ GW, w.before _ s = true := fun w h => atoms_spec (ws := Cond.code y_M_used b_M_used 2 (some .boolean) :: GW) B.pre w (List.mem_cons_of_mem _ h)
  have hown : s.vm.findClass R_M = some m.cls := findClass_of_methodNamed B.named
  have hlocks := B.notSynchronized
  have hl := lv_entry ([.ref hm, .int a]) (n := 2) (Nat.le_of_ble_eq_true rfl)
  rw [lg_entry_eq]
  generalize (lg_sl ([.ref hm, .int a]) ++ List.replicate (2 - (lg_sl ([.ref hm, .int a])).length) Slot.unset).toArray = ls at hl ⊢
  replace hl : lv_has ls 2 [(0, .ref hm), (1, .int a)] := hl
  replace hP : va_P D classes [(hm, .inr (2, [.int th, .int (nI cn), .ref qs, .ref qt, .ref qm, .int (nI nw), .int v, .int w, .int z, .int (nI hd)])), (qs, .inl (cI, 16386, .inl za)), (qt, .inl (cJ, 16386, .inl ta)), (qm, .inl (cZ, 16386, .inl ka))] _ := hP
  refine lv_iload_n hx hb d_M_used_0 rfl (lv_at hl 1 rfl) ?_
  refine lv_iconst (v := 1) hx hb d_M_used_1 (by decide) ?_
  refine lv_icmp_lt (tgt := 26) hx hb d_M_used_2 (by decide) (fun c_2 => ?_) (fun c_2 => ?_)
  · refine lv_iconst (v := 0) hx hb d_M_used_26 (by decide) ?_
    exact W.zret (v := 0) hx hb hr rfl (fun t ht hW => ⟨_, rfl, (by simp [usd, c_2, bI]), ht⟩) (fun q h => nomatch h) d_M_used_27
  · refine lv_iload_n hx hb d_M_used_5 rfl (lv_at hl 1 rfl) ?_
    refine lv_aload_n hx hb d_M_used_6 rfl (lv_at hl 0 rfl) ?_
    refine va_get (D := D) (ci := 2) (v := .int (nI cn)) (C := R_M) (T := F_M) (N := 10) hx hb hg gi_M hown hK hP 0 rfl rfl 1 (by decide) (hg _ gw_353) (fun _ h9 => h9) rfl d_M_used_7 ?_
    refine lv_icmp_gt (tgt := 26) hx hb d_M_used_10 (by decide) (fun c_10 => ?_) (fun c_10 => ?_)
    · refine lv_iconst (v := 0) hx hb d_M_used_26 (by decide) ?_
      exact W.zret (v := 0) hx hb hr rfl (fun t ht hW => ⟨_, rfl, (by simp [usd, Int32.not_le.mpr c_10, bI]), ht⟩) (fun q h => nomatch h) d_M_used_27
    · obtain ⟨k, hk1, hk2, rfl⟩ := rng (lo := 1) (hi := cn) c_2 (Int32.not_lt.mp c_10) (by decide) (by omega)
      have hb9 : k < 16386 := by omega
      refine lv_aload_n hx hb d_M_used_13 rfl (lv_at hl 0 rfl) ?_
      refine va_get (D := D) (ci := 2) (v := .ref qs) (C := R_M) (T := F_M) (N := 10) hx hb hg gi_M hown hK hP 0 rfl rfl 2 (by decide) (hg _ gw_354) (fun _ h9 => h9) rfl d_M_used_14 ?_
      refine lv_iload_n hx hb d_M_used_17 rfl (lv_at hl 1 rfl) ?_
      refine va_iald hx hb hK hP 1 0 rfl t0 (vp_in_nI hb9 (by decide)) d_M_used_18 ?_
      refine lv_topi (fun y1 ey1 => ?_)
      obtain rfl : y1 = za k := ey1.trans (congrArg za (nI_clamp (Nat.lt_trans hb9 (by decide))))
      clear ey1
      refine lv_if_le (tgt := 26) hx hb d_M_used_19 (by decide) (fun c_19 => ?_) (fun c_19 => ?_)
      · refine lv_iconst (v := 0) hx hb d_M_used_26 (by decide) ?_
        exact W.zret (v := 0) hx hb hr rfl (fun t ht hW => ⟨_, rfl, (by simp [usd, c_2, Int32.not_lt.mp c_10, nI_clamp (show k < 2 ^ 31 by omega), c_19, bI]), ht⟩) (fun q h => nomatch h) d_M_used_27
      · refine lv_iconst (v := 1) hx hb d_M_used_22 (by decide) ?_
        refine lv_goto (tgt := 27) hx hb d_M_used_23 (by decide) ?_
        exact W.zret (v := 1) hx hb hr rfl (fun t ht hW => ⟨_, rfl, (by simp [usd, c_2, Int32.not_lt.mp c_10, nI_clamp (show k < 2 ^ 31 by omega), c_19, bI]), ht⟩) (fun q h => nomatch h) d_M_used_27
set_option maxHeartbeats 4000000 in
set_option maxRecDepth 100000 in
theorem c_M_piece (l : Launch) (D : va_G) (ty : tyL) (N0 sz : Nat) (hm qs qt qm : Nat) (cI cJ cZ : ClassId) (th : Int32) (cn nw : Nat) (v w z : Int32) (hd : Nat) (za ta ka : Nat → Int32) (a : Int32) (t0 : ty[0]? = some (cI, .int)) (t1 : ty[1]? = some (cJ, .int)) (t2 : ty[2]? = some (cZ, .boolean)) (hc : cn ≤ 16384) : Met l y_M_piece (Cond.code y_M_piece b_M_piece 2 (some .int) :: GW) ({ frames := 0, cells := 0, slots := 0, locals := 0 }) (va_Pc [.ref hm, .int a] (at1 D ty N0 sz (mW hm qs qt qm cI cJ cZ th cn nw v w z hd za ta ka))) (va_Qi (fun r ws' => r = pcV cn za a ∧ ws' = mW hm qs qt qm cI cJ cZ 0 cn nw v w z hd za ta ka) (at2 D ty (va_A (mW hm qs qt qm cI cJ cZ th cn nw v w z hd za ta ka) sz)) (va_A (mW hm qs qt qm cI cJ cZ th cn nw v w z hd za ta ka) sz)) 0 0 (va_A (mW hm qs qt qm cI cJ cZ th cn nw v w z hd za ta ka) sz) := by
  refine Met.ofW (cc := b_M_piece) (maxL := 2) (ret := (some .int)) (by decide) rfl ?_
  intro p e s m args below meth c s₁ B hml hv
  obtain ⟨rfl, hsz, hN0, ⟨hP, hK, hN⟩, hD0, hE⟩ := hv
  subst hsz
  have hD := hD0.self (sz := s.heap.size)
  have hAN := sw_AN hD0 hN0
  generalize hAe : va_A (mW hm qs qt qm cI cJ cZ th cn nw v w z hd za ta ka) s.heap.size = A at hD hAN ⊢
  have hA : ∀ q : Nat, s.heap.size ≤ q → A q := fun q h => by rw [← hAe]; exact Or.inr h
  have hS : va_S A s.heap s.heap [] := va_S.rf
  have hP : va_P D classes (mW hm qs qt qm cI cJ cZ th cn nw v w z hd za ta ka) s.heap := hP
  have hx := B.exec
  have hb := B.bytes
  have hr := B.returns
  have hg : ∀ w ∈ GW, w.before _ s = true := fun w h => atoms_spec (ws := Cond.code y_M_piece b_M_piece 2 (some .int) :: GW) B.pre w (List.mem_cons_of_mem _ h)
  have hown : s.vm.findClass R_M = some m.cls := findClass_of_methodNamed B.named
  have hlocks := B.notSynchronized
  have hl := lv_entry ([.ref hm, .int a]) (n := 2) (Nat.le_of_ble_eq_true rfl)
  rw [lg_entry_eq]
  generalize (lg_sl ([.ref hm, .int a]) ++ List.replicate (2 - (lg_sl ([.ref hm, .int a])).length) Slot.unset).toArray = ls at hl ⊢
  replace hl : lv_has ls 2 [(0, .ref hm), (1, .int a)] := hl
  replace hP : va_P D classes [(hm, .inr (2, [.int th, .int (nI cn), .ref qs, .ref qt, .ref qm, .int (nI nw), .int v, .int w, .int z, .int (nI hd)])), (qs, .inl (cI, 16386, .inl za)), (qt, .inl (cJ, 16386, .inl ta)), (qm, .inl (cZ, 16386, .inl ka))] _ := hP
  replace hD : va_D A [(hm, .inr (2, [.int th, .int (nI cn), .ref qs, .ref qt, .ref qm, .int (nI nw), .int v, .int w, .int z, .int (nI hd)])), (qs, .inl (cI, 16386, .inl za)), (qt, .inl (cJ, 16386, .inl ta)), (qm, .inl (cZ, 16386, .inl ka))] := hD
  refine lv_aload_n hx hb d_M_piece_0 rfl (lv_at hl 0 rfl) ?_
  refine lv_iconst (v := 0) hx hb d_M_piece_1 (by decide) ?_
  refine va_put (D := D) (ci := 2) (v := .int 0) (ty := .int) (C := R_M) (T := F_M) (N := 10) hx hb hg gi_M t_M t_M_ok n_M hown hK hP hD hS 0 rfl rfl 0 (by decide) (hg _ gw_352) (fun _ h9 => h9) rfl (by decide +kernel) rfl rfl (Nat.le_of_ble_eq_true rfl) d_M_piece_2 (fun H locs hP hD hS => ?_)
  replace hP : va_P D classes [(hm, .inr (2, [.int 0, .int (nI cn), .ref qs, .ref qt, .ref qm, .int (nI nw), .int v, .int w, .int z, .int (nI hd)])), (qs, .inl (cI, 16386, .inl za)), (qt, .inl (cJ, 16386, .inl ta)), (qm, .inl (cZ, 16386, .inl ka))] _ := hP
  replace hD : va_D A [(hm, .inr (2, [.int 0, .int (nI cn), .ref qs, .ref qt, .ref qm, .int (nI nw), .int v, .int w, .int z, .int (nI hd)])), (qs, .inl (cI, 16386, .inl za)), (qt, .inl (cJ, 16386, .inl ta)), (qm, .inl (cZ, 16386, .inl ka))] := hD
  refine lv_iload_n hx hb d_M_piece_5 rfl (lv_at hl 1 rfl) ?_
  refine lv_iconst (v := 1) hx hb d_M_piece_6 (by decide) ?_
  refine lv_icmp_lt (tgt := 27) hx hb d_M_piece_7 (by decide) (fun c_7 => ?_) (fun c_7 => ?_)
  · refine lv_iconst (v := 0) hx hb d_M_piece_27 (by decide) ?_
    refine W.widen (k := 0) (n := 0) (Nat.le_of_ble_eq_true rfl) (Nat.le_of_ble_eq_true rfl) ?_
    exact W.iret (v := 0) hx hb hr (fun t ht hW => ⟨⟨_, _, rfl, ⟨by simp [pcV, c_7], rfl⟩, at2.of hP hK hD ht hW⟩, hS.F ht⟩) hS.2.2 d_M_piece_28
  · refine lv_iload_n hx hb d_M_piece_10 rfl (lv_at hl 1 rfl) ?_
    refine lv_aload_n hx hb d_M_piece_11 rfl (lv_at hl 0 rfl) ?_
    refine va_get (D := D) (ci := 2) (v := .int (nI cn)) (C := R_M) (T := F_M) (N := 10) hx hb hg gi_M hown hK hP 0 rfl rfl 1 (by decide) (hg _ gw_353) (fun _ h9 => h9) rfl d_M_piece_12 ?_
    refine lv_icmp_gt (tgt := 27) hx hb d_M_piece_15 (by decide) (fun c_15 => ?_) (fun c_15 => ?_)
    · refine lv_iconst (v := 0) hx hb d_M_piece_27 (by decide) ?_
      refine W.widen (k := 0) (n := 0) (Nat.le_of_ble_eq_true rfl) (Nat.le_of_ble_eq_true rfl) ?_
      exact W.iret (v := 0) hx hb hr (fun t ht hW => ⟨⟨_, _, rfl, ⟨by simp [pcV, Int32.not_le.mpr c_15], rfl⟩, at2.of hP hK hD ht hW⟩, hS.F ht⟩) hS.2.2 d_M_piece_28
    · obtain ⟨k, hk1, hk2, rfl⟩ := rng (lo := 1) (hi := cn) c_7 (Int32.not_lt.mp c_15) (by decide) (by omega)
      have hb9 : k < 16386 := by omega
      refine lv_aload_n hx hb d_M_piece_18 rfl (lv_at hl 0 rfl) ?_
      refine va_get (D := D) (ci := 2) (v := .ref qs) (C := R_M) (T := F_M) (N := 10) hx hb hg gi_M hown hK hP 0 rfl rfl 2 (by decide) (hg _ gw_354) (fun _ h9 => h9) rfl d_M_piece_19 ?_
      refine lv_iload_n hx hb d_M_piece_22 rfl (lv_at hl 1 rfl) ?_
      refine va_iald hx hb hK hP 1 0 rfl t0 (vp_in_nI hb9 (by decide)) d_M_piece_23 ?_
      refine lv_topi (fun y1 ey1 => ?_)
      obtain rfl : y1 = za k := ey1.trans (congrArg za (nI_clamp (Nat.lt_trans hb9 (by decide))))
      clear ey1
      refine lv_goto (tgt := 28) hx hb d_M_piece_24 (by decide) ?_
      refine W.widen (k := 0) (n := 0) (Nat.le_of_ble_eq_true rfl) (Nat.le_of_ble_eq_true rfl) ?_
      exact W.iret (v := (za k)) hx hb hr (fun t ht hW => ⟨⟨_, _, rfl, ⟨by simp [pcV, show ¬ nI k < 1 from c_7, show nI k ≤ nI cn from Int32.not_lt.mp c_15, nI_clamp (show k < 2 ^ 31 by omega)], rfl⟩, at2.of hP hK hD ht hW⟩, hS.F ht⟩) hS.2.2 d_M_piece_28
set_option maxHeartbeats 4000000 in
set_option maxRecDepth 100000 in
theorem c_M_marked (l : Launch) (D : va_G) (ty : tyL) (N0 sz : Nat) (hm qs qt qm : Nat) (cI cJ cZ : ClassId) (th : Int32) (cn nw : Nat) (v w z : Int32) (hd : Nat) (za ta ka : Nat → Int32) (a : Int32) (t0 : ty[0]? = some (cI, .int)) (t1 : ty[1]? = some (cJ, .int)) (t2 : ty[2]? = some (cZ, .boolean)) (hc : cn ≤ 16384) : Met l y_M_marked (Cond.code y_M_marked b_M_marked 2 (some .boolean) :: GW) ({ frames := 0, cells := 0, slots := 0, locals := 0 }) (va_Pc [.ref hm, .int a] (at1 D ty N0 sz (mW hm qs qt qm cI cJ cZ th cn nw v w z hd za ta ka))) (va_Qi (fun r ws' => r = (if a < 1 then 0 else if a ≤ nI cn then (if ka a.toNatClampNeg = 0 then 0 else 1) else 0) ∧ ws' = mW hm qs qt qm cI cJ cZ 0 cn nw v w z hd za ta ka) (at2 D ty (va_A (mW hm qs qt qm cI cJ cZ th cn nw v w z hd za ta ka) sz)) (va_A (mW hm qs qt qm cI cJ cZ th cn nw v w z hd za ta ka) sz)) 0 0 (va_A (mW hm qs qt qm cI cJ cZ th cn nw v w z hd za ta ka) sz) := by
  refine Met.ofW (cc := b_M_marked) (maxL := 2) (ret := (some .boolean)) (by decide) rfl ?_
  intro p e s m args below meth c s₁ B hml hv
  obtain ⟨rfl, hsz, hN0, ⟨hP, hK, hN⟩, hD0, hE⟩ := hv
  subst hsz
  have hD := hD0.self (sz := s.heap.size)
  have hAN := sw_AN hD0 hN0
  generalize hAe : va_A (mW hm qs qt qm cI cJ cZ th cn nw v w z hd za ta ka) s.heap.size = A at hD hAN ⊢
  have hA : ∀ q : Nat, s.heap.size ≤ q → A q := fun q h => by rw [← hAe]; exact Or.inr h
  have hS : va_S A s.heap s.heap [] := va_S.rf
  have hP : va_P D classes (mW hm qs qt qm cI cJ cZ th cn nw v w z hd za ta ka) s.heap := hP
  have hx := B.exec
  have hb := B.bytes
  have hr := B.returns
  have hg : ∀ w ∈ GW, w.before _ s = true := fun w h => atoms_spec (ws := Cond.code y_M_marked b_M_marked 2 (some .boolean) :: GW) B.pre w (List.mem_cons_of_mem _ h)
  have hown : s.vm.findClass R_M = some m.cls := findClass_of_methodNamed B.named
  have hlocks := B.notSynchronized
  have hl := lv_entry ([.ref hm, .int a]) (n := 2) (Nat.le_of_ble_eq_true rfl)
  rw [lg_entry_eq]
  generalize (lg_sl ([.ref hm, .int a]) ++ List.replicate (2 - (lg_sl ([.ref hm, .int a])).length) Slot.unset).toArray = ls at hl ⊢
  replace hl : lv_has ls 2 [(0, .ref hm), (1, .int a)] := hl
  replace hP : va_P D classes [(hm, .inr (2, [.int th, .int (nI cn), .ref qs, .ref qt, .ref qm, .int (nI nw), .int v, .int w, .int z, .int (nI hd)])), (qs, .inl (cI, 16386, .inl za)), (qt, .inl (cJ, 16386, .inl ta)), (qm, .inl (cZ, 16386, .inl ka))] _ := hP
  replace hD : va_D A [(hm, .inr (2, [.int th, .int (nI cn), .ref qs, .ref qt, .ref qm, .int (nI nw), .int v, .int w, .int z, .int (nI hd)])), (qs, .inl (cI, 16386, .inl za)), (qt, .inl (cJ, 16386, .inl ta)), (qm, .inl (cZ, 16386, .inl ka))] := hD
  refine lv_aload_n hx hb d_M_marked_0 rfl (lv_at hl 0 rfl) ?_
  refine lv_iconst (v := 0) hx hb d_M_marked_1 (by decide) ?_
  refine va_put (D := D) (ci := 2) (v := .int 0) (ty := .int) (C := R_M) (T := F_M) (N := 10) hx hb hg gi_M t_M t_M_ok n_M hown hK hP hD hS 0 rfl rfl 0 (by decide) (hg _ gw_352) (fun _ h9 => h9) rfl (by decide +kernel) rfl rfl (Nat.le_of_ble_eq_true rfl) d_M_marked_2 (fun H locs hP hD hS => ?_)
  replace hP : va_P D classes [(hm, .inr (2, [.int 0, .int (nI cn), .ref qs, .ref qt, .ref qm, .int (nI nw), .int v, .int w, .int z, .int (nI hd)])), (qs, .inl (cI, 16386, .inl za)), (qt, .inl (cJ, 16386, .inl ta)), (qm, .inl (cZ, 16386, .inl ka))] _ := hP
  replace hD : va_D A [(hm, .inr (2, [.int 0, .int (nI cn), .ref qs, .ref qt, .ref qm, .int (nI nw), .int v, .int w, .int z, .int (nI hd)])), (qs, .inl (cI, 16386, .inl za)), (qt, .inl (cJ, 16386, .inl ta)), (qm, .inl (cZ, 16386, .inl ka))] := hD
  refine lv_iload_n hx hb d_M_marked_5 rfl (lv_at hl 1 rfl) ?_
  refine lv_iconst (v := 1) hx hb d_M_marked_6 (by decide) ?_
  refine lv_icmp_lt (tgt := 31) hx hb d_M_marked_7 (by decide) (fun c_7 => ?_) (fun c_7 => ?_)
  · refine lv_iconst (v := 0) hx hb d_M_marked_31 (by decide) ?_
    refine W.widen (k := 0) (n := 0) (Nat.le_of_ble_eq_true rfl) (Nat.le_of_ble_eq_true rfl) ?_
    exact W.zret (v := 0) hx hb hr rfl (fun t ht hW => ⟨⟨_, _, rfl, ⟨by simp [c_7], rfl⟩, at2.of hP hK hD ht hW⟩, hS.F ht⟩) hS.2.2 d_M_marked_32
  · refine lv_iload_n hx hb d_M_marked_10 rfl (lv_at hl 1 rfl) ?_
    refine lv_aload_n hx hb d_M_marked_11 rfl (lv_at hl 0 rfl) ?_
    refine va_get (D := D) (ci := 2) (v := .int (nI cn)) (C := R_M) (T := F_M) (N := 10) hx hb hg gi_M hown hK hP 0 rfl rfl 1 (by decide) (hg _ gw_353) (fun _ h9 => h9) rfl d_M_marked_12 ?_
    refine lv_icmp_gt (tgt := 31) hx hb d_M_marked_15 (by decide) (fun c_15 => ?_) (fun c_15 => ?_)
    · refine lv_iconst (v := 0) hx hb d_M_marked_31 (by decide) ?_
      refine W.widen (k := 0) (n := 0) (Nat.le_of_ble_eq_true rfl) (Nat.le_of_ble_eq_true rfl) ?_
      exact W.zret (v := 0) hx hb hr rfl (fun t ht hW => ⟨⟨_, _, rfl, ⟨by simp [Int32.not_le.mpr c_15], rfl⟩, at2.of hP hK hD ht hW⟩, hS.F ht⟩) hS.2.2 d_M_marked_32
    · obtain ⟨k, hk1, hk2, rfl⟩ := rng (lo := 1) (hi := cn) c_7 (Int32.not_lt.mp c_15) (by decide) (by omega)
      have hb9 : k < 16386 := by omega
      refine lv_aload_n hx hb d_M_marked_18 rfl (lv_at hl 0 rfl) ?_
      refine va_get (D := D) (ci := 2) (v := .ref qm) (C := R_M) (T := F_M) (N := 10) hx hb hg gi_M hown hK hP 0 rfl rfl 4 (by decide) (hg _ gw_356) (fun _ h9 => h9) rfl d_M_marked_19 ?_
      refine lv_iload_n hx hb d_M_marked_22 rfl (lv_at hl 1 rfl) ?_
      refine va_zald hx hb hK hP 3 2 rfl t2 (vp_in_nI hb9 (by decide)) d_M_marked_23 ?_
      refine lv_topi (fun y1 ey1 => ?_)
      obtain rfl : y1 = ka k := ey1.trans (congrArg ka (nI_clamp (Nat.lt_trans hb9 (by decide))))
      clear ey1
      refine lv_if_eq (tgt := 31) hx hb d_M_marked_24 (by decide) (fun c_24 => ?_) (fun c_24 => ?_)
      · refine lv_iconst (v := 0) hx hb d_M_marked_31 (by decide) ?_
        refine W.widen (k := 0) (n := 0) (Nat.le_of_ble_eq_true rfl) (Nat.le_of_ble_eq_true rfl) ?_
        exact W.zret (v := 0) hx hb hr rfl (fun t ht hW => ⟨⟨_, _, rfl, ⟨by simp [show ¬ nI k < 1 from c_7, show nI k ≤ nI cn from Int32.not_lt.mp c_15, nI_clamp (show k < 2 ^ 31 by omega), c_24], rfl⟩, at2.of hP hK hD ht hW⟩, hS.F ht⟩) hS.2.2 d_M_marked_32
      · refine lv_iconst (v := 1) hx hb d_M_marked_27 (by decide) ?_
        refine lv_goto (tgt := 32) hx hb d_M_marked_28 (by decide) ?_
        refine W.widen (k := 0) (n := 0) (Nat.le_of_ble_eq_true rfl) (Nat.le_of_ble_eq_true rfl) ?_
        exact W.zret (v := 1) hx hb hr rfl (fun t ht hW => ⟨⟨_, _, rfl, ⟨by simp [show ¬ nI k < 1 from c_7, show nI k ≤ nI cn from Int32.not_lt.mp c_15, nI_clamp (show k < 2 ^ 31 by omega), c_24], rfl⟩, at2.of hP hK hD ht hW⟩, hS.F ht⟩) hS.2.2 d_M_marked_32
