set_option maxHeartbeats 4000000 in
set_option maxRecDepth 100000 in
theorem c_M_marks (l : Launch) (D : va_G) (ty : tyL) (hm qs qt qm : Nat) (cI cJ cZ : ClassId) (th : Int32) (cn nw : Nat) (v w z : Int32) (hd : Nat) (za ta ka : Nat → Int32) (L : List AP) (f : Nat) (hI : Inv cn f nw L za ta ka) (t0 : ty[0]? = some (cI, .int)) (t1 : ty[1]? = some (cJ, .int)) (t2 : ty[2]? = some (cZ, .boolean))  : Met l y_M_marks (Cond.code y_M_marks b_M_marks 3 (some .int) :: GW) ({ frames := 1, cells := 0, slots := 0, locals := 21 }) (va_Pc [.ref hm] (at0 D ty (mW hm qs qt qm cI cJ cZ th cn nw v w z hd za ta ka))) (vp_Si (fun r => r = nI (shrS 8 L))) 0 0 (fun _ => False) := by
  refine Met.ofW (cc := b_M_marks) (maxL := 3) (ret := (some .int)) (by decide) rfl ?_
  intro p e s m args below meth c s₁ B hml hv
  obtain ⟨rfl, hP, hK, hN⟩ := hv
  have hx := B.exec
  have hb := B.bytes
  have hr := B.returns
  have hg : ∀ w ∈ GW, w.before _ s = true := fun w h => atoms_spec (ws := Cond.code y_M_marks b_M_marks 3 (some .int) :: GW) B.pre w (List.mem_cons_of_mem _ h)
  have hown : s.vm.findClass R_M = some m.cls := findClass_of_methodNamed B.named
  have hlocks := B.notSynchronized
  have hl := lv_entry ([.ref hm]) (n := 3) (Nat.le_of_ble_eq_true rfl)
  rw [lg_entry_eq]
  generalize (lg_sl ([.ref hm]) ++ List.replicate (3 - (lg_sl ([.ref hm])).length) Slot.unset).toArray = ls at hl ⊢
  replace hl : lv_has ls 3 [(0, .ref hm)] := hl
  replace hP : va_P D classes [(hm, .inr (2, [.int th, .int (nI cn), .ref qs, .ref qt, .ref qm, .int (nI nw), .int v, .int w, .int z, .int (nI hd)])), (qs, .inl (cI, 16386, .inl za)), (qt, .inl (cJ, 16386, .inl ta)), (qm, .inl (cZ, 16386, .inl ka))] _ := hP
  have hcn := hI.2.2.1
  refine lv_iconst (v := 0) hx hb d_M_marks_0 (by decide) ?_
  refine lv_istore_n (lv' := [(1, .int 0), (0, .ref hm)]) hx hb d_M_marks_1 rfl hl (by decide) rfl (fun ls hl => ?_)
  refine lv_iconst (v := 1) hx hb d_M_marks_2 (by decide) ?_
  refine lv_istore_n (lv' := [(2, .int 1), (1, .int 0), (0, .ref hm)]) hx hb d_M_marks_3 rfl hl (by decide) rfl (fun ls hl => ?_)
  obtain ⟨g, hg⟩ : ∃ q : Nat, q = 0 := ⟨_, rfl⟩
  obtain ⟨suf, hs⟩ : ∃ q, q = L := ⟨_, rfl⟩
  obtain ⟨d, hd9⟩ : ∃ q : Nat, q = 1 := ⟨_, rfl⟩
  replace hl := lv_sub hl [0, 1, 2] rfl
  replace hl : lv_has ls 3 [(2, .int 1), (1, .int 0), (0, .ref hm)] := hl
  replace hl : lv_has ls 3 [(2, .int (nI d)), (1, .int (nI g)), (0, .ref hm)] := by rw [hd9, hg, nI_0]; exact hl
  have hpre : ∃ pre, L = pre ++ suf := ⟨[], hs.symm⟩
  have hTi : Til d suf (cn + 1) := by rw [hs, hd9]; exact hI.2.1
  have hq : shrS 8 L = g + shrS 8 suf := by rw [hs, hg, Nat.zero_add]
  clear hs hd9 hg
  revert hq
  revert hTi
  revert hpre
  revert hl
  revert d
  revert g
  revert ls
  induction suf with
  | nil =>
    intro ls g d hl hpre hTi hq
    replace hTi : d = cn + 1 := hTi
    subst hTi
    refine lv_iload_n hx hb d_M_marks_4 rfl (lv_at hl 0 rfl) ?_
    refine lv_aload_n hx hb d_M_marks_5 rfl (lv_at hl 2 rfl) ?_
    refine va_get (D := D) (ci := 2) (v := .int (nI cn)) (C := R_M) (T := F_M) (N := 10) hx hb hg gi_M hown hK hP 0 rfl rfl 1 (by decide) (hg _ gw_353) (fun _ h9 => h9) rfl d_M_marks_6 ?_
    refine lv_icmp_gt (tgt := 40) hx hb d_M_marks_9 (by decide) (fun c_9 => ?_) (fun c_9 => ?_)
    · refine lv_iload_n hx hb d_M_marks_40 rfl (lv_at hl 1 rfl) ?_
      exact W.iret (v := (nI g)) hx hb hr (fun t ht hW => ⟨_, rfl, (by rw [hq]; rfl), ht⟩) (fun q h => nomatch h) d_M_marks_41
    · exact absurd (nI_lt (by omega) (by omega)) c_9
  | cons x suf ih =>
    intro ls g d hl hpre hTi hq
    obtain ⟨pre, hpre⟩ := hpre
    obtain ⟨hd1, hd2, hd3⟩ := hTi
    subst hd1
    have hxL : x ∈ L := by rw [hpre]; simp
    obtain ⟨hx1, hx2, hx3, hb9, hx4, hx5, hn1, hn2, hn3⟩ := hI.x hxL
    refine lv_iload_n hx hb d_M_marks_4 rfl (lv_at hl 0 rfl) ?_
    refine lv_aload_n hx hb d_M_marks_5 rfl (lv_at hl 2 rfl) ?_
    refine va_get (D := D) (ci := 2) (v := .int (nI cn)) (C := R_M) (T := F_M) (N := 10) hx hb hg gi_M hown hK hP 0 rfl rfl 1 (by decide) (hg _ gw_353) (fun _ h9 => h9) rfl d_M_marks_6 ?_
    refine lv_icmp_gt (tgt := 40) hx hb d_M_marks_9 (by decide) (fun c_9 => ?_) (fun c_9 => ?_)
    · exact absurd ((nI_ltI (by omega) (by omega)).mp c_9) (by omega)
    · refine lv_aload_n hx hb d_M_marks_12 rfl (lv_at hl 2 rfl) ?_
      refine va_get (D := D) (ci := 2) (v := .ref qm) (C := R_M) (T := F_M) (N := 10) hx hb hg gi_M hown hK hP 0 rfl rfl 4 (by decide) (hg _ gw_356) (fun _ h9 => h9) rfl d_M_marks_13 ?_
      refine lv_iload_n hx hb d_M_marks_16 rfl (lv_at hl 0 rfl) ?_
      refine va_zald hx hb hK hP 3 2 rfl t2 (vp_in_nI hb9 (by decide)) d_M_marks_17 ?_
      refine lv_topi (fun y1 ey1 => ?_)
      obtain rfl : y1 = ka x.2.1 := ey1.trans (congrArg ka (nI_clamp (Nat.lt_trans hb9 (by decide))))
      clear ey1
      refine lv_topi (fun y2 ey2 => ?_)
      obtain rfl : y2 = bI x.2.2.2.2.1 := ey2.trans hx2
      clear ey2
      refine lv_if_eq (tgt := 27) hx hb d_M_marks_18 (by decide) (fun c_18 => ?_) (fun c_18 => ?_)
      · refine lv_iload_n hx hb d_M_marks_27 rfl (lv_at hl 1 rfl) ?_
        refine lv_istore_n (lv' := [(1, .int (nI g)), (2, .int (nI x.2.1)), (0, .ref hm)]) hx hb d_M_marks_28 rfl hl (by decide) rfl (fun ls hl => ?_)
        refine lv_iload_n hx hb d_M_marks_29 rfl (lv_at hl 1 rfl) ?_
        refine lv_aload_n hx hb d_M_marks_30 rfl (lv_at hl 2 rfl) ?_
        refine lv_iload_n hx hb d_M_marks_31 rfl (lv_at hl 1 rfl) ?_
        refine vp_callSi (va_runV (As := [.int (nI x.2.1)]) (rest := [.int (nI x.2.1)]) ⟨hx, hb, hml, hown, hg⟩ (c_M_length l D ty hm qs qt qm cI cJ cZ th cn nw v w z hd za ta ka x.2.1 t0 t1 t2 hb9) (cwV 1 hg (gw_V gw_409 gw_411 gw_20 gw_28 gw_412) rfl rfl rfl (by decide +kernel) ⟨Nat.le_of_ble_eq_true rfl, Nat.le_of_ble_eq_true rfl⟩) (pre_roV hP hK hN (ci := 2) (k := 0) rfl rfl) rfl rfl hl.1 rfl (lv_room (Nat.le_of_ble_eq_true rfl)) d_M_marks_32 ⟨Nat.le_of_ble_eq_true rfl, Nat.le_of_ble_eq_true rfl⟩).run (fun r1 hr1 => ?_)
        replace hr1 : r1 = nI x.2.2.1 := by rw [hr1, hx1, lenF_x hn1 hn2]
        subst hr1
        refine lv_iadd hx hb d_M_marks_35 ?_
        refine lv_topi (fun y3 ey3 => ?_)
        obtain rfl : y3 = nI (x.2.1 + x.2.2.1) := ey3.trans (nI_add _ _)
        clear ey3
        refine lv_istore_n (lv' := [(2, .int (nI (x.2.1 + x.2.2.1))), (1, .int (nI g)), (0, .ref hm)]) hx hb d_M_marks_36 rfl hl (by decide) rfl (fun ls hl => ?_)
        refine lv_goto (tgt := 4) hx hb d_M_marks_37 (by decide) ?_
        exact ih ls g (x.2.1 + x.2.2.1) (lv_sub hl [0, 1, 2] rfl) ⟨pre ++ [x], by rw [hpre, List.append_assoc]; rfl⟩ hd3 (by rw [hq, shrS, shr8, bI_0.mp c_18]; simp)
      · refine lv_iload_n hx hb d_M_marks_21 rfl (lv_at hl 1 rfl) ?_
        refine lv_iconst (v := 1) hx hb d_M_marks_22 (by decide) ?_
        refine lv_iadd hx hb d_M_marks_23 ?_
        refine lv_goto (tgt := 28) hx hb d_M_marks_24 (by decide) ?_
        refine lv_topi (fun y4 ey4 => ?_)
        obtain rfl : y4 = nI (g + 1) := ey4.trans (nI_1 g)
        clear ey4
        refine lv_istore_n (lv' := [(1, .int (nI (g + 1))), (2, .int (nI x.2.1)), (0, .ref hm)]) hx hb d_M_marks_28 rfl hl (by decide) rfl (fun ls hl => ?_)
        refine lv_iload_n hx hb d_M_marks_29 rfl (lv_at hl 1 rfl) ?_
        refine lv_aload_n hx hb d_M_marks_30 rfl (lv_at hl 2 rfl) ?_
        refine lv_iload_n hx hb d_M_marks_31 rfl (lv_at hl 1 rfl) ?_
        refine vp_callSi (va_runV (As := [.int (nI x.2.1)]) (rest := [.int (nI x.2.1)]) ⟨hx, hb, hml, hown, hg⟩ (c_M_length l D ty hm qs qt qm cI cJ cZ th cn nw v w z hd za ta ka x.2.1 t0 t1 t2 hb9) (cwV 1 hg (gw_V gw_409 gw_411 gw_20 gw_28 gw_412) rfl rfl rfl (by decide +kernel) ⟨Nat.le_of_ble_eq_true rfl, Nat.le_of_ble_eq_true rfl⟩) (pre_roV hP hK hN (ci := 2) (k := 0) rfl rfl) rfl rfl hl.1 rfl (lv_room (Nat.le_of_ble_eq_true rfl)) d_M_marks_32 ⟨Nat.le_of_ble_eq_true rfl, Nat.le_of_ble_eq_true rfl⟩).run (fun r1 hr1 => ?_)
        replace hr1 : r1 = nI x.2.2.1 := by rw [hr1, hx1, lenF_x hn1 hn2]
        subst hr1
        refine lv_iadd hx hb d_M_marks_35 ?_
        refine lv_topi (fun y5 ey5 => ?_)
        obtain rfl : y5 = nI (x.2.1 + x.2.2.1) := ey5.trans (nI_add _ _)
        clear ey5
        refine lv_istore_n (lv' := [(2, .int (nI (x.2.1 + x.2.2.1))), (1, .int (nI (g + 1))), (0, .ref hm)]) hx hb d_M_marks_36 rfl hl (by decide) rfl (fun ls hl => ?_)
        refine lv_goto (tgt := 4) hx hb d_M_marks_37 (by decide) ?_
        exact ih ls (g + 1) (x.2.1 + x.2.2.1) (lv_sub hl [0, 1, 2] rfl) ⟨pre ++ [x], by rw [hpre, List.append_assoc]; rfl⟩ hd3 (by rw [hq, shrS, shr8, bI_n0.mp c_18]; simp; omega)
set_option maxHeartbeats 4000000 in
set_option maxRecDepth 100000 in
theorem c_M_greatest (l : Launch) (D : va_G) (ty : tyL) (hm qs qt qm : Nat) (cI cJ cZ : ClassId) (th : Int32) (cn nw : Nat) (v w z : Int32) (hd : Nat) (za ta ka : Nat → Int32) (L : List AP) (f : Nat) (hI : Inv cn f nw L za ta ka) (t0 : ty[0]? = some (cI, .int)) (t1 : ty[1]? = some (cJ, .int)) (t2 : ty[2]? = some (cZ, .boolean))  : Met l y_M_greatest (Cond.code y_M_greatest b_M_greatest 3 (some .int) :: GW) ({ frames := 1, cells := 0, slots := 0, locals := 21 }) (va_Pc [.ref hm] (at0 D ty (mW hm qs qt qm cI cJ cZ th cn nw v w z hd za ta ka))) (vp_Si (fun r => r = nI (grF L 0))) 0 0 (fun _ => False) := by
  refine Met.ofW (cc := b_M_greatest) (maxL := 3) (ret := (some .int)) (by decide) rfl ?_
  intro p e s m args below meth c s₁ B hml hv
  obtain ⟨rfl, hP, hK, hN⟩ := hv
  have hx := B.exec
  have hb := B.bytes
  have hr := B.returns
  have hg : ∀ w ∈ GW, w.before _ s = true := fun w h => atoms_spec (ws := Cond.code y_M_greatest b_M_greatest 3 (some .int) :: GW) B.pre w (List.mem_cons_of_mem _ h)
  have hown : s.vm.findClass R_M = some m.cls := findClass_of_methodNamed B.named
  have hlocks := B.notSynchronized
  have hl := lv_entry ([.ref hm]) (n := 3) (Nat.le_of_ble_eq_true rfl)
  rw [lg_entry_eq]
  generalize (lg_sl ([.ref hm]) ++ List.replicate (3 - (lg_sl ([.ref hm])).length) Slot.unset).toArray = ls at hl ⊢
  replace hl : lv_has ls 3 [(0, .ref hm)] := hl
  replace hP : va_P D classes [(hm, .inr (2, [.int th, .int (nI cn), .ref qs, .ref qt, .ref qm, .int (nI nw), .int v, .int w, .int z, .int (nI hd)])), (qs, .inl (cI, 16386, .inl za)), (qt, .inl (cJ, 16386, .inl ta)), (qm, .inl (cZ, 16386, .inl ka))] _ := hP
  have hcn := hI.2.2.1
  refine lv_iconst (v := 0) hx hb d_M_greatest_0 (by decide) ?_
  refine lv_istore_n (lv' := [(1, .int 0), (0, .ref hm)]) hx hb d_M_greatest_1 rfl hl (by decide) rfl (fun ls hl => ?_)
  refine lv_iconst (v := 1) hx hb d_M_greatest_2 (by decide) ?_
  refine lv_istore_n (lv' := [(2, .int 1), (1, .int 0), (0, .ref hm)]) hx hb d_M_greatest_3 rfl hl (by decide) rfl (fun ls hl => ?_)
  obtain ⟨g, hg⟩ : ∃ q : Nat, q = 0 := ⟨_, rfl⟩
  obtain ⟨suf, hs⟩ : ∃ q, q = L := ⟨_, rfl⟩
  obtain ⟨d, hd9⟩ : ∃ q : Nat, q = 1 := ⟨_, rfl⟩
  replace hl := lv_sub hl [0, 1, 2] rfl
  replace hl : lv_has ls 3 [(2, .int 1), (1, .int 0), (0, .ref hm)] := hl
  replace hl : lv_has ls 3 [(2, .int (nI d)), (1, .int (nI g)), (0, .ref hm)] := by rw [hd9, hg, nI_0]; exact hl
  have hpre : ∃ pre, L = pre ++ suf := ⟨[], hs.symm⟩
  have hTi : Til d suf (cn + 1) := by rw [hs, hd9]; exact hI.2.1
  have hq : grF L 0 = grF suf g := by rw [hs, hg]
  have hg2 : g < 2 ^ 31 := by rw [hg]; decide
  clear hs hd9 hg
  revert hg2
  revert hq
  revert hTi
  revert hpre
  revert hl
  revert d
  revert g
  revert ls
  induction suf with
  | nil =>
    intro ls g d hl hpre hTi hq hg2
    replace hTi : d = cn + 1 := hTi
    subst hTi
    refine lv_iload_n hx hb d_M_greatest_4 rfl (lv_at hl 0 rfl) ?_
    refine lv_aload_n hx hb d_M_greatest_5 rfl (lv_at hl 2 rfl) ?_
    refine va_get (D := D) (ci := 2) (v := .int (nI cn)) (C := R_M) (T := F_M) (N := 10) hx hb hg gi_M hown hK hP 0 rfl rfl 1 (by decide) (hg _ gw_353) (fun _ h9 => h9) rfl d_M_greatest_6 ?_
    refine lv_icmp_gt (tgt := 51) hx hb d_M_greatest_9 (by decide) (fun c_9 => ?_) (fun c_9 => ?_)
    · refine lv_iload_n hx hb d_M_greatest_51 rfl (lv_at hl 1 rfl) ?_
      exact W.iret (v := (nI g)) hx hb hr (fun t ht hW => ⟨_, rfl, (by rw [hq]; rfl), ht⟩) (fun q h => nomatch h) d_M_greatest_52
    · exact absurd (nI_lt (by omega) (by omega)) c_9
  | cons x suf ih =>
    intro ls g d hl hpre hTi hq hg2
    obtain ⟨pre, hpre⟩ := hpre
    obtain ⟨hd1, hd2, hd3⟩ := hTi
    subst hd1
    have hxL : x ∈ L := by rw [hpre]; simp
    obtain ⟨hx1, hx2, hx3, hb9, hx4, hx5, hn1, hn2, hn3⟩ := hI.x hxL
    refine lv_iload_n hx hb d_M_greatest_4 rfl (lv_at hl 0 rfl) ?_
    refine lv_aload_n hx hb d_M_greatest_5 rfl (lv_at hl 2 rfl) ?_
    refine va_get (D := D) (ci := 2) (v := .int (nI cn)) (C := R_M) (T := F_M) (N := 10) hx hb hg gi_M hown hK hP 0 rfl rfl 1 (by decide) (hg _ gw_353) (fun _ h9 => h9) rfl d_M_greatest_6 ?_
    refine lv_icmp_gt (tgt := 51) hx hb d_M_greatest_9 (by decide) (fun c_9 => ?_) (fun c_9 => ?_)
    · exact absurd ((nI_ltI (by omega) (by omega)).mp c_9) (by omega)
    · refine lv_aload_n hx hb d_M_greatest_12 rfl (lv_at hl 2 rfl) ?_
      refine va_get (D := D) (ci := 2) (v := .ref qs) (C := R_M) (T := F_M) (N := 10) hx hb hg gi_M hown hK hP 0 rfl rfl 2 (by decide) (hg _ gw_354) (fun _ h9 => h9) rfl d_M_greatest_13 ?_
      refine lv_iload_n hx hb d_M_greatest_16 rfl (lv_at hl 0 rfl) ?_
      refine va_iald hx hb hK hP 1 0 rfl t0 (vp_in_nI hb9 (by decide)) d_M_greatest_17 ?_
      refine lv_topi (fun y1 ey1 => ?_)
      obtain rfl : y1 = za x.2.1 := ey1.trans (congrArg za (nI_clamp (Nat.lt_trans hb9 (by decide))))
      clear ey1
      refine lv_topi (fun y2 ey2 => ?_)
      obtain rfl : y2 = szV x := ey2.trans hx1
      clear ey2
      refine lv_if_ge (tgt := 38) hx hb d_M_greatest_18 (by decide) (fun c_18 => ?_) (fun c_18 => ?_)
      · refine lv_iload_n hx hb d_M_greatest_38 rfl (lv_at hl 1 rfl) ?_
        refine lv_istore_n (lv' := [(1, .int (nI g)), (2, .int (nI x.2.1)), (0, .ref hm)]) hx hb d_M_greatest_39 rfl hl (by decide) rfl (fun ls hl => ?_)
        refine lv_iload_n hx hb d_M_greatest_40 rfl (lv_at hl 1 rfl) ?_
        refine lv_aload_n hx hb d_M_greatest_41 rfl (lv_at hl 2 rfl) ?_
        refine lv_iload_n hx hb d_M_greatest_42 rfl (lv_at hl 1 rfl) ?_
        refine vp_callSi (va_runV (As := [.int (nI x.2.1)]) (rest := [.int (nI x.2.1)]) ⟨hx, hb, hml, hown, hg⟩ (c_M_length l D ty hm qs qt qm cI cJ cZ th cn nw v w z hd za ta ka x.2.1 t0 t1 t2 hb9) (cwV 1 hg (gw_V gw_409 gw_411 gw_20 gw_28 gw_412) rfl rfl rfl (by decide +kernel) ⟨Nat.le_of_ble_eq_true rfl, Nat.le_of_ble_eq_true rfl⟩) (pre_roV hP hK hN (ci := 2) (k := 0) rfl rfl) rfl rfl hl.1 rfl (lv_room (Nat.le_of_ble_eq_true rfl)) d_M_greatest_43 ⟨Nat.le_of_ble_eq_true rfl, Nat.le_of_ble_eq_true rfl⟩).run (fun r3 hr3 => ?_)
        replace hr3 : r3 = nI x.2.2.1 := by rw [hr3, hx1, lenF_x hn1 hn2]
        subst hr3
        refine lv_iadd hx hb d_M_greatest_46 ?_
        refine lv_topi (fun y3 ey3 => ?_)
        obtain rfl : y3 = nI (x.2.1 + x.2.2.1) := ey3.trans (nI_add _ _)
        clear ey3
        refine lv_istore_n (lv' := [(2, .int (nI (x.2.1 + x.2.2.1))), (1, .int (nI g)), (0, .ref hm)]) hx hb d_M_greatest_47 rfl hl (by decide) rfl (fun ls hl => ?_)
        refine lv_goto (tgt := 4) hx hb d_M_greatest_48 (by decide) ?_
        exact ih ls g (x.2.1 + x.2.2.1) (lv_sub hl [0, 1, 2] rfl) ⟨pre ++ [x], by rw [hpre, List.append_assoc]; rfl⟩ hd3 (by rw [hq, grF, if_neg (by simp [show x.2.2.2.1 = true from by cases hu : x.2.2.2.1; exact absurd ((szV_neg hn1 hn2).mpr hu) (Int32.not_lt.mpr c_18); rfl])]) hg2
      · refine lv_aload_n hx hb d_M_greatest_21 rfl (lv_at hl 2 rfl) ?_
        refine lv_iload_n hx hb d_M_greatest_22 rfl (lv_at hl 0 rfl) ?_
        refine vp_callSi (va_runV (As := [.int (nI x.2.1)]) (rest := []) ⟨hx, hb, hml, hown, hg⟩ (c_M_length l D ty hm qs qt qm cI cJ cZ th cn nw v w z hd za ta ka x.2.1 t0 t1 t2 hb9) (cwV 1 hg (gw_V gw_409 gw_411 gw_20 gw_28 gw_412) rfl rfl rfl (by decide +kernel) ⟨Nat.le_of_ble_eq_true rfl, Nat.le_of_ble_eq_true rfl⟩) (pre_roV hP hK hN (ci := 2) (k := 0) rfl rfl) rfl rfl hl.1 rfl (lv_room (Nat.le_of_ble_eq_true rfl)) d_M_greatest_23 ⟨Nat.le_of_ble_eq_true rfl, Nat.le_of_ble_eq_true rfl⟩).run (fun r1 hr1 => ?_)
        replace hr1 : r1 = nI x.2.2.1 := by rw [hr1, hx1, lenF_x hn1 hn2]
        subst hr1
        refine lv_iload_n hx hb d_M_greatest_26 rfl (lv_at hl 1 rfl) ?_
        refine lv_icmp_le (tgt := 38) hx hb d_M_greatest_27 (by decide) (fun c_27 => ?_) (fun c_27 => ?_)
        · refine lv_iload_n hx hb d_M_greatest_38 rfl (lv_at hl 1 rfl) ?_
          refine lv_istore_n (lv' := [(1, .int (nI g)), (2, .int (nI x.2.1)), (0, .ref hm)]) hx hb d_M_greatest_39 rfl hl (by decide) rfl (fun ls hl => ?_)
          refine lv_iload_n hx hb d_M_greatest_40 rfl (lv_at hl 1 rfl) ?_
          refine lv_aload_n hx hb d_M_greatest_41 rfl (lv_at hl 2 rfl) ?_
          refine lv_iload_n hx hb d_M_greatest_42 rfl (lv_at hl 1 rfl) ?_
          refine vp_callSi (va_runV (As := [.int (nI x.2.1)]) (rest := [.int (nI x.2.1)]) ⟨hx, hb, hml, hown, hg⟩ (c_M_length l D ty hm qs qt qm cI cJ cZ th cn nw v w z hd za ta ka x.2.1 t0 t1 t2 hb9) (cwV 1 hg (gw_V gw_409 gw_411 gw_20 gw_28 gw_412) rfl rfl rfl (by decide +kernel) ⟨Nat.le_of_ble_eq_true rfl, Nat.le_of_ble_eq_true rfl⟩) (pre_roV hP hK hN (ci := 2) (k := 0) rfl rfl) rfl rfl hl.1 rfl (lv_room (Nat.le_of_ble_eq_true rfl)) d_M_greatest_43 ⟨Nat.le_of_ble_eq_true rfl, Nat.le_of_ble_eq_true rfl⟩).run (fun r3 hr3 => ?_)
          replace hr3 : r3 = nI x.2.2.1 := by rw [hr3, hx1, lenF_x hn1 hn2]
          subst hr3
          refine lv_iadd hx hb d_M_greatest_46 ?_
          refine lv_topi (fun y4 ey4 => ?_)
          obtain rfl : y4 = nI (x.2.1 + x.2.2.1) := ey4.trans (nI_add _ _)
          clear ey4
          refine lv_istore_n (lv' := [(2, .int (nI (x.2.1 + x.2.2.1))), (1, .int (nI g)), (0, .ref hm)]) hx hb d_M_greatest_47 rfl hl (by decide) rfl (fun ls hl => ?_)
          refine lv_goto (tgt := 4) hx hb d_M_greatest_48 (by decide) ?_
          exact ih ls g (x.2.1 + x.2.2.1) (lv_sub hl [0, 1, 2] rfl) ⟨pre ++ [x], by rw [hpre, List.append_assoc]; rfl⟩ hd3 (by rw [hq, grF, if_neg (by simp [show x.2.2.2.1 = false from (szV_neg hn1 hn2).mp (Int32.not_le.mp c_18), Nat.not_lt.mpr ((nI_leI hn2 hg2).mp c_27)])]) hg2
        · refine lv_aload_n hx hb d_M_greatest_30 rfl (lv_at hl 2 rfl) ?_
          refine lv_iload_n hx hb d_M_greatest_31 rfl (lv_at hl 0 rfl) ?_
          refine vp_callSi (va_runV (As := [.int (nI x.2.1)]) (rest := []) ⟨hx, hb, hml, hown, hg⟩ (c_M_length l D ty hm qs qt qm cI cJ cZ th cn nw v w z hd za ta ka x.2.1 t0 t1 t2 hb9) (cwV 1 hg (gw_V gw_409 gw_411 gw_20 gw_28 gw_412) rfl rfl rfl (by decide +kernel) ⟨Nat.le_of_ble_eq_true rfl, Nat.le_of_ble_eq_true rfl⟩) (pre_roV hP hK hN (ci := 2) (k := 0) rfl rfl) rfl rfl hl.1 rfl (lv_room (Nat.le_of_ble_eq_true rfl)) d_M_greatest_32 ⟨Nat.le_of_ble_eq_true rfl, Nat.le_of_ble_eq_true rfl⟩).run (fun r2 hr2 => ?_)
          replace hr2 : r2 = nI x.2.2.1 := by rw [hr2, hx1, lenF_x hn1 hn2]
          subst hr2
          refine lv_goto (tgt := 39) hx hb d_M_greatest_35 (by decide) ?_
          refine lv_istore_n (lv' := [(1, .int (nI x.2.2.1)), (2, .int (nI x.2.1)), (0, .ref hm)]) hx hb d_M_greatest_39 rfl hl (by decide) rfl (fun ls hl => ?_)
          refine lv_iload_n hx hb d_M_greatest_40 rfl (lv_at hl 1 rfl) ?_
          refine lv_aload_n hx hb d_M_greatest_41 rfl (lv_at hl 2 rfl) ?_
          refine lv_iload_n hx hb d_M_greatest_42 rfl (lv_at hl 1 rfl) ?_
          refine vp_callSi (va_runV (As := [.int (nI x.2.1)]) (rest := [.int (nI x.2.1)]) ⟨hx, hb, hml, hown, hg⟩ (c_M_length l D ty hm qs qt qm cI cJ cZ th cn nw v w z hd za ta ka x.2.1 t0 t1 t2 hb9) (cwV 1 hg (gw_V gw_409 gw_411 gw_20 gw_28 gw_412) rfl rfl rfl (by decide +kernel) ⟨Nat.le_of_ble_eq_true rfl, Nat.le_of_ble_eq_true rfl⟩) (pre_roV hP hK hN (ci := 2) (k := 0) rfl rfl) rfl rfl hl.1 rfl (lv_room (Nat.le_of_ble_eq_true rfl)) d_M_greatest_43 ⟨Nat.le_of_ble_eq_true rfl, Nat.le_of_ble_eq_true rfl⟩).run (fun r3 hr3 => ?_)
          replace hr3 : r3 = nI x.2.2.1 := by rw [hr3, hx1, lenF_x hn1 hn2]
          subst hr3
          refine lv_iadd hx hb d_M_greatest_46 ?_
          refine lv_topi (fun y5 ey5 => ?_)
          obtain rfl : y5 = nI (x.2.1 + x.2.2.1) := ey5.trans (nI_add _ _)
          clear ey5
          refine lv_istore_n (lv' := [(2, .int (nI (x.2.1 + x.2.2.1))), (1, .int (nI x.2.2.1)), (0, .ref hm)]) hx hb d_M_greatest_47 rfl hl (by decide) rfl (fun ls hl => ?_)
          refine lv_goto (tgt := 4) hx hb d_M_greatest_48 (by decide) ?_
          exact ih ls x.2.2.1 (x.2.1 + x.2.2.1) (lv_sub hl [0, 1, 2] rfl) ⟨pre ++ [x], by rw [hpre, List.append_assoc]; rfl⟩ hd3 (by rw [hq, grF, if_pos (by simp [show x.2.2.2.1 = false from (szV_neg hn1 hn2).mp (Int32.not_le.mp c_18), Nat.not_le.mp (fun h9 => c_27 ((nI_leI hn2 hg2).mpr h9))])]) hn2
set_option maxHeartbeats 4000000 in
set_option maxRecDepth 100000 in
theorem c_M_best (l : Launch) (D : va_G) (ty : tyL) (hm qs qt qm : Nat) (cI cJ cZ : ClassId) (th : Int32) (cn nw : Nat) (v w z : Int32) (hd : Nat) (za ta ka : Nat → Int32) (L : List AP) (f : Nat) (hI : Inv cn f nw L za ta ka) (n : Nat) (t0 : ty[0]? = some (cI, .int)) (t1 : ty[1]? = some (cJ, .int)) (t2 : ty[2]? = some (cZ, .boolean)) (hn : n < 2 ^ 31) : Met l y_M_best (Cond.code y_M_best b_M_best 6 (some .int) :: GW) ({ frames := 1, cells := 0, slots := 0, locals := 21 }) (va_Pc [.ref hm, .int (nI n)] (at0 D ty (mW hm qs qt qm cI cJ cZ th cn nw v w z hd za ta ka))) (vp_Si (fun r => r = nI (accB (wtf n L none)))) 0 0 (fun _ => False) := by
  refine Met.ofW (cc := b_M_best) (maxL := 6) (ret := (some .int)) (by decide) rfl ?_
  intro p e s m args below meth c s₁ B hml hv
  obtain ⟨rfl, hP, hK, hN⟩ := hv
  have hx := B.exec
  have hb := B.bytes
  have hr := B.returns
  have hg : ∀ w ∈ GW, w.before _ s = true := fun w h => atoms_spec (ws := Cond.code y_M_best b_M_best 6 (some .int) :: GW) B.pre w (List.mem_cons_of_mem _ h)
  have hown : s.vm.findClass R_M = some m.cls := findClass_of_methodNamed B.named
  have hlocks := B.notSynchronized
  have hl := lv_entry ([.ref hm, .int (nI n)]) (n := 6) (Nat.le_of_ble_eq_true rfl)
  rw [lg_entry_eq]
  generalize (lg_sl ([.ref hm, .int (nI n)]) ++ List.replicate (6 - (lg_sl ([.ref hm, .int (nI n)])).length) Slot.unset).toArray = ls at hl ⊢
  replace hl : lv_has ls 6 [(0, .ref hm), (1, .int (nI n))] := hl
  replace hP : va_P D classes [(hm, .inr (2, [.int th, .int (nI cn), .ref qs, .ref qt, .ref qm, .int (nI nw), .int v, .int w, .int z, .int (nI hd)])), (qs, .inl (cI, 16386, .inl za)), (qt, .inl (cJ, 16386, .inl ta)), (qm, .inl (cZ, 16386, .inl ka))] _ := hP
  have hcn := hI.2.2.1
  have hnw := hI.2.2.2.1
  refine lv_iconst (v := 0) hx hb d_M_best_0 (by decide) ?_
  refine lv_istore_n (lv' := [(2, .int 0), (0, .ref hm), (1, .int (nI n))]) hx hb d_M_best_1 rfl hl (by decide) rfl (fun ls hl => ?_)
  refine lv_iconst (v := 1) hx hb d_M_best_2 (by decide) ?_
  refine lv_istore_n (lv' := [(3, .int 1), (2, .int 0), (0, .ref hm), (1, .int (nI n))]) hx hb d_M_best_3 rfl hl (by decide) rfl (fun ls hl => ?_)
  obtain ⟨acc, hacc⟩ : ∃ q : Option AP, q = none := ⟨_, rfl⟩
  obtain ⟨suf, hs⟩ : ∃ q, q = L := ⟨_, rfl⟩
  obtain ⟨d, hd9⟩ : ∃ q : Nat, q = 1 := ⟨_, rfl⟩
  replace hl := lv_sub hl [0, 1, 2, 3] rfl
  replace hl : lv_has ls 6 [(3, .int 1), (2, .int 0), (0, .ref hm), (1, .int (nI n))] := hl
  replace hl : lv_has ls 6 [(3, .int (nI d)), (2, .int (nI (accB acc))), (0, .ref hm), (1, .int (nI n))] := by rw [hd9, hacc]; exact hl
  have hpre : ∃ pre, L = pre ++ suf := ⟨[], hs.symm⟩
  have hTi : Til d suf (cn + 1) := by rw [hs, hd9]; exact hI.2.1
  have hq : wtf n L none = wtf n suf acc := by rw [hs, hacc]
  have hm9 : ∀ y, acc = some y → y ∈ L ∧ y.2.2.2.1 = false := by rw [hacc]; intro y h; cases h
  clear hs hd9 hacc
  revert hm9
  revert hq
  revert hTi
  revert hpre
  revert hl
  revert d
  revert acc
  revert ls
  induction suf with
  | nil =>
    intro ls acc d hl hpre hTi hq hm9
    replace hTi : d = cn + 1 := hTi
    subst hTi
    refine lv_iload_n hx hb d_M_best_4 rfl (lv_at hl 0 rfl) ?_
    refine lv_aload_n hx hb d_M_best_5 rfl (lv_at hl 2 rfl) ?_
    refine va_get (D := D) (ci := 2) (v := .int (nI cn)) (C := R_M) (T := F_M) (N := 10) hx hb hg gi_M hown hK hP 0 rfl rfl 1 (by decide) (hg _ gw_353) (fun _ h9 => h9) rfl d_M_best_6 ?_
    refine lv_icmp_gt (tgt := 118) hx hb d_M_best_9 (by decide) (fun c_9 => ?_) (fun c_9 => ?_)
    · refine lv_iload_n hx hb d_M_best_118 rfl (lv_at hl 1 rfl) ?_
      exact W.iret (v := (nI (accB acc))) hx hb hr (fun t ht hW => ⟨_, rfl, (by rw [hq]; rfl), ht⟩) (fun q h => nomatch h) d_M_best_119
    · exact absurd (nI_lt (by omega) (by omega)) c_9
  | cons x suf ih =>
    intro ls acc d hl hpre hTi hq hm9
    obtain ⟨pre, hpre⟩ := hpre
    obtain ⟨hd1, hd2, hd3⟩ := hTi
    subst hd1
    have hxL : x ∈ L := by rw [hpre]; simp
    obtain ⟨hx1, hx2, hx3, hb9, hx4, hx5, hn1, hn2, hn3⟩ := hI.x hxL
    rcases acc with _ | y
    · replace hl : lv_has ls 6 [(3, .int (nI x.2.1)), (2, .int (nI 0)), (0, .ref hm), (1, .int (nI n))] := hl
      refine lv_iload_n hx hb d_M_best_4 rfl (lv_at hl 0 rfl) ?_
      refine lv_aload_n hx hb d_M_best_5 rfl (lv_at hl 2 rfl) ?_
      refine va_get (D := D) (ci := 2) (v := .int (nI cn)) (C := R_M) (T := F_M) (N := 10) hx hb hg gi_M hown hK hP 0 rfl rfl 1 (by decide) (hg _ gw_353) (fun _ h9 => h9) rfl d_M_best_6 ?_
      refine lv_icmp_gt (tgt := 118) hx hb d_M_best_9 (by decide) (fun c_9 => ?_) (fun c_9 => ?_)
      · exact absurd ((nI_ltI (by omega) (by omega)).mp c_9) (by omega)
      · refine lv_aload_n hx hb d_M_best_12 rfl (lv_at hl 2 rfl) ?_
        refine va_get (D := D) (ci := 2) (v := .ref qs) (C := R_M) (T := F_M) (N := 10) hx hb hg gi_M hown hK hP 0 rfl rfl 2 (by decide) (hg _ gw_354) (fun _ h9 => h9) rfl d_M_best_13 ?_
        refine lv_iload_n hx hb d_M_best_16 rfl (lv_at hl 0 rfl) ?_
        refine va_iald hx hb hK hP 1 0 rfl t0 (vp_in_nI hb9 (by decide)) d_M_best_17 ?_
        refine lv_topi (fun y1 ey1 => ?_)
        obtain rfl : y1 = za x.2.1 := ey1.trans (congrArg za (nI_clamp (Nat.lt_trans hb9 (by decide))))
        clear ey1
        refine lv_topi (fun y2 ey2 => ?_)
        obtain rfl : y2 = szV x := ey2.trans hx1
        clear ey2
        refine lv_bipush (v := (-3)) hx hb d_M_best_18 (by decide) ?_
        refine lv_icmp_gt (tgt := 36) hx hb d_M_best_20 (by decide) (fun c_20 => ?_) (fun c_20 => ?_)
        · refine lv_iconst (v := 0) hx hb d_M_best_36 (by decide) ?_
          refine lv_istore (lv' := [(4, .int 0), (3, .int (nI x.2.1)), (2, .int (nI 0)), (0, .ref hm), (1, .int (nI n))]) hx hb d_M_best_37 hl (by decide) rfl (fun ls hl => ?_)
          refine lv_iload_n hx hb d_M_best_39 rfl (lv_at hl 2 rfl) ?_
          refine lv_if_eq (tgt := 84) hx hb d_M_best_40 (by decide) (fun c_40 => ?_) (fun c_40 => ?_)
          · refine lv_iconst (v := 1) hx hb d_M_best_84 (by decide) ?_
            refine lv_goto (tgt := 89) hx hb d_M_best_85 (by decide) ?_
            refine lv_istore (lv' := [(5, .int 1), (4, .int 0), (3, .int (nI x.2.1)), (2, .int (nI 0)), (0, .ref hm), (1, .int (nI n))]) hx hb d_M_best_89 hl (by decide) rfl (fun ls hl => ?_)
            refine lv_iload hx hb d_M_best_91 (lv_at hl 1 rfl) ?_
            refine lv_if_eq (tgt := 105) hx hb d_M_best_93 (by decide) (fun c_93 => ?_) (fun c_93 => ?_)
            · refine lv_iload_n hx hb d_M_best_105 rfl (lv_at hl 3 rfl) ?_
              refine lv_istore_n (lv' := [(2, .int (nI 0)), (5, .int 1), (4, .int 0), (3, .int (nI x.2.1)), (0, .ref hm), (1, .int (nI n))]) hx hb d_M_best_106 rfl hl (by decide) rfl (fun ls hl => ?_)
              refine lv_iload_n hx hb d_M_best_107 rfl (lv_at hl 3 rfl) ?_
              refine lv_aload_n hx hb d_M_best_108 rfl (lv_at hl 4 rfl) ?_
              refine lv_iload_n hx hb d_M_best_109 rfl (lv_at hl 3 rfl) ?_
              refine vp_callSi (va_runV (As := [.int (nI x.2.1)]) (rest := [.int (nI x.2.1)]) ⟨hx, hb, hml, hown, hg⟩ (c_M_length l D ty hm qs qt qm cI cJ cZ th cn nw v w z hd za ta ka x.2.1 t0 t1 t2 hb9) (cwV 1 hg (gw_V gw_409 gw_411 gw_20 gw_28 gw_412) rfl rfl rfl (by decide +kernel) ⟨Nat.le_of_ble_eq_true rfl, Nat.le_of_ble_eq_true rfl⟩) (pre_roV hP hK hN (ci := 2) (k := 0) rfl rfl) rfl rfl hl.1 rfl (lv_room (Nat.le_of_ble_eq_true rfl)) d_M_best_110 ⟨Nat.le_of_ble_eq_true rfl, Nat.le_of_ble_eq_true rfl⟩).run (fun r6 hr6 => ?_)
              replace hr6 : r6 = nI x.2.2.1 := by rw [hr6, hx1, lenF_x hn1 hn2]
              subst hr6
              refine lv_iadd hx hb d_M_best_113 ?_
              refine lv_topi (fun y3 ey3 => ?_)
              obtain rfl : y3 = nI (x.2.1 + x.2.2.1) := ey3.trans (nI_add _ _)
              clear ey3
              refine lv_istore_n (lv' := [(3, .int (nI (x.2.1 + x.2.2.1))), (2, .int (nI 0)), (5, .int 1), (4, .int 0), (0, .ref hm), (1, .int (nI n))]) hx hb d_M_best_114 rfl hl (by decide) rfl (fun ls hl => ?_)
              refine lv_goto (tgt := 4) hx hb d_M_best_115 (by decide) ?_
              exact ih ls none (x.2.1 + x.2.2.1) (lv_sub hl [0, 1, 4, 5] rfl) ⟨pre ++ [x], by rw [hpre, List.append_assoc]; rfl⟩ hd3 (by rw [hq, wtf, if_neg (by simp [wtfC, show isFT x = false from by cases h9 : isFT x; rfl; exact absurd c_20 (Int32.not_lt.mpr ((szV_m3 hn1 hn2).mpr h9))])]) hm9
            · exact absurd rfl c_93
          · exact absurd nI_0 c_40
        · refine lv_aload_n hx hb d_M_best_23 rfl (lv_at hl 2 rfl) ?_
          refine lv_iload_n hx hb d_M_best_24 rfl (lv_at hl 0 rfl) ?_
          refine vp_callSi (va_runV (As := [.int (nI x.2.1)]) (rest := []) ⟨hx, hb, hml, hown, hg⟩ (c_M_length l D ty hm qs qt qm cI cJ cZ th cn nw v w z hd za ta ka x.2.1 t0 t1 t2 hb9) (cwV 1 hg (gw_V gw_409 gw_411 gw_20 gw_28 gw_412) rfl rfl rfl (by decide +kernel) ⟨Nat.le_of_ble_eq_true rfl, Nat.le_of_ble_eq_true rfl⟩) (pre_roV hP hK hN (ci := 2) (k := 0) rfl rfl) rfl rfl hl.1 rfl (lv_room (Nat.le_of_ble_eq_true rfl)) d_M_best_25 ⟨Nat.le_of_ble_eq_true rfl, Nat.le_of_ble_eq_true rfl⟩).run (fun r1 hr1 => ?_)
          replace hr1 : r1 = nI x.2.2.1 := by rw [hr1, hx1, lenF_x hn1 hn2]
          subst hr1
          refine lv_iload_n hx hb d_M_best_28 rfl (lv_at hl 3 rfl) ?_
          refine lv_icmp_lt (tgt := 36) hx hb d_M_best_29 (by decide) (fun c_29 => ?_) (fun c_29 => ?_)
          · refine lv_iconst (v := 0) hx hb d_M_best_36 (by decide) ?_
            refine lv_istore (lv' := [(4, .int 0), (3, .int (nI x.2.1)), (2, .int (nI 0)), (0, .ref hm), (1, .int (nI n))]) hx hb d_M_best_37 hl (by decide) rfl (fun ls hl => ?_)
            refine lv_iload_n hx hb d_M_best_39 rfl (lv_at hl 2 rfl) ?_
            refine lv_if_eq (tgt := 84) hx hb d_M_best_40 (by decide) (fun c_40 => ?_) (fun c_40 => ?_)
            · refine lv_iconst (v := 1) hx hb d_M_best_84 (by decide) ?_
              refine lv_goto (tgt := 89) hx hb d_M_best_85 (by decide) ?_
              refine lv_istore (lv' := [(5, .int 1), (4, .int 0), (3, .int (nI x.2.1)), (2, .int (nI 0)), (0, .ref hm), (1, .int (nI n))]) hx hb d_M_best_89 hl (by decide) rfl (fun ls hl => ?_)
              refine lv_iload hx hb d_M_best_91 (lv_at hl 1 rfl) ?_
              refine lv_if_eq (tgt := 105) hx hb d_M_best_93 (by decide) (fun c_93 => ?_) (fun c_93 => ?_)
              · refine lv_iload_n hx hb d_M_best_105 rfl (lv_at hl 3 rfl) ?_
                refine lv_istore_n (lv' := [(2, .int (nI 0)), (5, .int 1), (4, .int 0), (3, .int (nI x.2.1)), (0, .ref hm), (1, .int (nI n))]) hx hb d_M_best_106 rfl hl (by decide) rfl (fun ls hl => ?_)
                refine lv_iload_n hx hb d_M_best_107 rfl (lv_at hl 3 rfl) ?_
                refine lv_aload_n hx hb d_M_best_108 rfl (lv_at hl 4 rfl) ?_
                refine lv_iload_n hx hb d_M_best_109 rfl (lv_at hl 3 rfl) ?_
                refine vp_callSi (va_runV (As := [.int (nI x.2.1)]) (rest := [.int (nI x.2.1)]) ⟨hx, hb, hml, hown, hg⟩ (c_M_length l D ty hm qs qt qm cI cJ cZ th cn nw v w z hd za ta ka x.2.1 t0 t1 t2 hb9) (cwV 1 hg (gw_V gw_409 gw_411 gw_20 gw_28 gw_412) rfl rfl rfl (by decide +kernel) ⟨Nat.le_of_ble_eq_true rfl, Nat.le_of_ble_eq_true rfl⟩) (pre_roV hP hK hN (ci := 2) (k := 0) rfl rfl) rfl rfl hl.1 rfl (lv_room (Nat.le_of_ble_eq_true rfl)) d_M_best_110 ⟨Nat.le_of_ble_eq_true rfl, Nat.le_of_ble_eq_true rfl⟩).run (fun r6 hr6 => ?_)
                replace hr6 : r6 = nI x.2.2.1 := by rw [hr6, hx1, lenF_x hn1 hn2]
                subst hr6
                refine lv_iadd hx hb d_M_best_113 ?_
                refine lv_topi (fun y4 ey4 => ?_)
                obtain rfl : y4 = nI (x.2.1 + x.2.2.1) := ey4.trans (nI_add _ _)
                clear ey4
                refine lv_istore_n (lv' := [(3, .int (nI (x.2.1 + x.2.2.1))), (2, .int (nI 0)), (5, .int 1), (4, .int 0), (0, .ref hm), (1, .int (nI n))]) hx hb d_M_best_114 rfl hl (by decide) rfl (fun ls hl => ?_)
                refine lv_goto (tgt := 4) hx hb d_M_best_115 (by decide) ?_
                exact ih ls none (x.2.1 + x.2.2.1) (lv_sub hl [0, 1, 4, 5] rfl) ⟨pre ++ [x], by rw [hpre, List.append_assoc]; rfl⟩ hd3 (by rw [hq, wtf, if_neg (by simp [wtfC, Nat.not_le.mpr ((nI_ltI hn2 hn).mp c_29)])]) hm9
              · exact absurd rfl c_93
            · exact absurd nI_0 c_40
          · refine lv_iconst (v := 1) hx hb d_M_best_32 (by decide) ?_
            refine lv_goto (tgt := 37) hx hb d_M_best_33 (by decide) ?_
            refine lv_istore (lv' := [(4, .int 1), (3, .int (nI x.2.1)), (2, .int (nI 0)), (0, .ref hm), (1, .int (nI n))]) hx hb d_M_best_37 hl (by decide) rfl (fun ls hl => ?_)
            refine lv_iload_n hx hb d_M_best_39 rfl (lv_at hl 2 rfl) ?_
            refine lv_if_eq (tgt := 84) hx hb d_M_best_40 (by decide) (fun c_40 => ?_) (fun c_40 => ?_)
            · refine lv_iconst (v := 1) hx hb d_M_best_84 (by decide) ?_
              refine lv_goto (tgt := 89) hx hb d_M_best_85 (by decide) ?_
              refine lv_istore (lv' := [(5, .int 1), (4, .int 1), (3, .int (nI x.2.1)), (2, .int (nI 0)), (0, .ref hm), (1, .int (nI n))]) hx hb d_M_best_89 hl (by decide) rfl (fun ls hl => ?_)
              refine lv_iload hx hb d_M_best_91 (lv_at hl 1 rfl) ?_
              refine lv_if_eq (tgt := 105) hx hb d_M_best_93 (by decide) (fun c_93 => ?_) (fun c_93 => ?_)
              · exact absurd c_93 (by decide)
              · refine lv_iload hx hb d_M_best_96 (lv_at hl 0 rfl) ?_
                refine lv_if_eq (tgt := 105) hx hb d_M_best_98 (by decide) (fun c_98 => ?_) (fun c_98 => ?_)
                · exact absurd c_98 (by decide)
                · refine lv_iload_n hx hb d_M_best_101 rfl (lv_at hl 2 rfl) ?_
                  refine lv_goto (tgt := 106) hx hb d_M_best_102 (by decide) ?_
                  refine lv_istore_n (lv' := [(2, .int (nI x.2.1)), (5, .int 1), (4, .int 1), (3, .int (nI x.2.1)), (0, .ref hm), (1, .int (nI n))]) hx hb d_M_best_106 rfl hl (by decide) rfl (fun ls hl => ?_)
                  refine lv_iload_n hx hb d_M_best_107 rfl (lv_at hl 3 rfl) ?_
                  refine lv_aload_n hx hb d_M_best_108 rfl (lv_at hl 4 rfl) ?_
                  refine lv_iload_n hx hb d_M_best_109 rfl (lv_at hl 3 rfl) ?_
                  refine vp_callSi (va_runV (As := [.int (nI x.2.1)]) (rest := [.int (nI x.2.1)]) ⟨hx, hb, hml, hown, hg⟩ (c_M_length l D ty hm qs qt qm cI cJ cZ th cn nw v w z hd za ta ka x.2.1 t0 t1 t2 hb9) (cwV 1 hg (gw_V gw_409 gw_411 gw_20 gw_28 gw_412) rfl rfl rfl (by decide +kernel) ⟨Nat.le_of_ble_eq_true rfl, Nat.le_of_ble_eq_true rfl⟩) (pre_roV hP hK hN (ci := 2) (k := 0) rfl rfl) rfl rfl hl.1 rfl (lv_room (Nat.le_of_ble_eq_true rfl)) d_M_best_110 ⟨Nat.le_of_ble_eq_true rfl, Nat.le_of_ble_eq_true rfl⟩).run (fun r6 hr6 => ?_)
                  replace hr6 : r6 = nI x.2.2.1 := by rw [hr6, hx1, lenF_x hn1 hn2]
                  subst hr6
                  refine lv_iadd hx hb d_M_best_113 ?_
                  refine lv_topi (fun y5 ey5 => ?_)
                  obtain rfl : y5 = nI (x.2.1 + x.2.2.1) := ey5.trans (nI_add _ _)
                  clear ey5
                  refine lv_istore_n (lv' := [(3, .int (nI (x.2.1 + x.2.2.1))), (2, .int (nI x.2.1)), (5, .int 1), (4, .int 1), (0, .ref hm), (1, .int (nI n))]) hx hb d_M_best_114 rfl hl (by decide) rfl (fun ls hl => ?_)
                  refine lv_goto (tgt := 4) hx hb d_M_best_115 (by decide) ?_
                  exact ih ls (some x) (x.2.1 + x.2.2.1) (lv_sub hl [0, 1, 4, 5] rfl) ⟨pre ++ [x], by rw [hpre, List.append_assoc]; rfl⟩ hd3 (by rw [hq, wtf, if_pos (by simp [wtfC, show isFT x = true from (szV_m3 hn1 hn2).mp (Int32.not_lt.mp c_20), show n ≤ x.2.2.1 from Nat.not_lt.mp (fun h9 => c_29 ((nI_ltI hn2 hn).mpr h9))])]) (fun y9 h9 => by cases h9; exact ⟨hxL, (by have h9 := (szV_m3 hn1 hn2).mp (Int32.not_lt.mp c_20); unfold isFT at h9; cases hu : x.2.2.2.1; rfl; rw [hu] at h9; simp at h9)⟩)
            · exact absurd nI_0 c_40
    · obtain ⟨yhxL, hyu⟩ := hm9 y rfl
      obtain ⟨yhx1, yhx2, yhx3, yhb9, yhx4, yhx5, yhn1, yhn2, yhn3⟩ := hI.x yhxL
      obtain ⟨Ty, hTy1, hTy2, hTy3⟩ := yhx3 hyu
      replace hl : lv_has ls 6 [(3, .int (nI x.2.1)), (2, .int (nI y.2.1)), (0, .ref hm), (1, .int (nI n))] := hl
      refine lv_iload_n hx hb d_M_best_4 rfl (lv_at hl 0 rfl) ?_
      refine lv_aload_n hx hb d_M_best_5 rfl (lv_at hl 2 rfl) ?_
      refine va_get (D := D) (ci := 2) (v := .int (nI cn)) (C := R_M) (T := F_M) (N := 10) hx hb hg gi_M hown hK hP 0 rfl rfl 1 (by decide) (hg _ gw_353) (fun _ h9 => h9) rfl d_M_best_6 ?_
      refine lv_icmp_gt (tgt := 118) hx hb d_M_best_9 (by decide) (fun c_9 => ?_) (fun c_9 => ?_)
      · exact absurd ((nI_ltI (by omega) (by omega)).mp c_9) (by omega)
      · refine lv_aload_n hx hb d_M_best_12 rfl (lv_at hl 2 rfl) ?_
        refine va_get (D := D) (ci := 2) (v := .ref qs) (C := R_M) (T := F_M) (N := 10) hx hb hg gi_M hown hK hP 0 rfl rfl 2 (by decide) (hg _ gw_354) (fun _ h9 => h9) rfl d_M_best_13 ?_
        refine lv_iload_n hx hb d_M_best_16 rfl (lv_at hl 0 rfl) ?_
        refine va_iald hx hb hK hP 1 0 rfl t0 (vp_in_nI hb9 (by decide)) d_M_best_17 ?_
        refine lv_topi (fun y6 ey6 => ?_)
        obtain rfl : y6 = za x.2.1 := ey6.trans (congrArg za (nI_clamp (Nat.lt_trans hb9 (by decide))))
        clear ey6
        refine lv_topi (fun y7 ey7 => ?_)
        obtain rfl : y7 = szV x := ey7.trans hx1
        clear ey7
        refine lv_bipush (v := (-3)) hx hb d_M_best_18 (by decide) ?_
        refine lv_icmp_gt (tgt := 36) hx hb d_M_best_20 (by decide) (fun c_20 => ?_) (fun c_20 => ?_)
        · refine lv_iconst (v := 0) hx hb d_M_best_36 (by decide) ?_
          refine lv_istore (lv' := [(4, .int 0), (3, .int (nI x.2.1)), (2, .int (nI y.2.1)), (0, .ref hm), (1, .int (nI n))]) hx hb d_M_best_37 hl (by decide) rfl (fun ls hl => ?_)
          refine lv_iload_n hx hb d_M_best_39 rfl (lv_at hl 2 rfl) ?_
          refine lv_if_eq (tgt := 84) hx hb d_M_best_40 (by decide) (fun c_40 => ?_) (fun c_40 => ?_)
          · exact absurd c_40 (nI_ne0 (by omega) (by omega))
          · refine lv_aload_n hx hb d_M_best_43 rfl (lv_at hl 3 rfl) ?_
            refine lv_iload_n hx hb d_M_best_44 rfl (lv_at hl 1 rfl) ?_
            refine vp_callSi (va_runV (As := [.int (nI x.2.1)]) (rest := []) ⟨hx, hb, hml, hown, hg⟩ (c_M_length l D ty hm qs qt qm cI cJ cZ th cn nw v w z hd za ta ka x.2.1 t0 t1 t2 hb9) (cwV 1 hg (gw_V gw_409 gw_411 gw_20 gw_28 gw_412) rfl rfl rfl (by decide +kernel) ⟨Nat.le_of_ble_eq_true rfl, Nat.le_of_ble_eq_true rfl⟩) (pre_roV hP hK hN (ci := 2) (k := 0) rfl rfl) rfl rfl hl.1 rfl (lv_room (Nat.le_of_ble_eq_true rfl)) d_M_best_45 ⟨Nat.le_of_ble_eq_true rfl, Nat.le_of_ble_eq_true rfl⟩).run (fun r2 hr2 => ?_)
            replace hr2 : r2 = nI x.2.2.1 := by rw [hr2, hx1, lenF_x hn1 hn2]
            subst hr2
            refine lv_aload_n hx hb d_M_best_48 rfl (lv_at hl 3 rfl) ?_
            refine lv_iload_n hx hb d_M_best_49 rfl (lv_at hl 2 rfl) ?_
            refine vp_callSi (va_runV (As := [.int (nI y.2.1)]) (rest := [.int (nI x.2.2.1)]) ⟨hx, hb, hml, hown, hg⟩ (c_M_length l D ty hm qs qt qm cI cJ cZ th cn nw v w z hd za ta ka y.2.1 t0 t1 t2 yhb9) (cwV 1 hg (gw_V gw_409 gw_411 gw_20 gw_28 gw_412) rfl rfl rfl (by decide +kernel) ⟨Nat.le_of_ble_eq_true rfl, Nat.le_of_ble_eq_true rfl⟩) (pre_roV hP hK hN (ci := 2) (k := 0) rfl rfl) rfl rfl hl.1 rfl (lv_room (Nat.le_of_ble_eq_true rfl)) d_M_best_50 ⟨Nat.le_of_ble_eq_true rfl, Nat.le_of_ble_eq_true rfl⟩).run (fun r3 hr3 => ?_)
            replace hr3 : r3 = nI y.2.2.1 := by rw [hr3, yhx1, lenF_x yhn1 yhn2]
            subst hr3
            refine lv_icmp_lt (tgt := 84) hx hb d_M_best_53 (by decide) (fun c_53 => ?_) (fun c_53 => ?_)
            · refine lv_iconst (v := 1) hx hb d_M_best_84 (by decide) ?_
              refine lv_goto (tgt := 89) hx hb d_M_best_85 (by decide) ?_
              refine lv_istore (lv' := [(5, .int 1), (4, .int 0), (3, .int (nI x.2.1)), (2, .int (nI y.2.1)), (0, .ref hm), (1, .int (nI n))]) hx hb d_M_best_89 hl (by decide) rfl (fun ls hl => ?_)
              refine lv_iload hx hb d_M_best_91 (lv_at hl 1 rfl) ?_
              refine lv_if_eq (tgt := 105) hx hb d_M_best_93 (by decide) (fun c_93 => ?_) (fun c_93 => ?_)
              · refine lv_iload_n hx hb d_M_best_105 rfl (lv_at hl 3 rfl) ?_
                refine lv_istore_n (lv' := [(2, .int (nI y.2.1)), (5, .int 1), (4, .int 0), (3, .int (nI x.2.1)), (0, .ref hm), (1, .int (nI n))]) hx hb d_M_best_106 rfl hl (by decide) rfl (fun ls hl => ?_)
                refine lv_iload_n hx hb d_M_best_107 rfl (lv_at hl 3 rfl) ?_
                refine lv_aload_n hx hb d_M_best_108 rfl (lv_at hl 4 rfl) ?_
                refine lv_iload_n hx hb d_M_best_109 rfl (lv_at hl 3 rfl) ?_
                refine vp_callSi (va_runV (As := [.int (nI x.2.1)]) (rest := [.int (nI x.2.1)]) ⟨hx, hb, hml, hown, hg⟩ (c_M_length l D ty hm qs qt qm cI cJ cZ th cn nw v w z hd za ta ka x.2.1 t0 t1 t2 hb9) (cwV 1 hg (gw_V gw_409 gw_411 gw_20 gw_28 gw_412) rfl rfl rfl (by decide +kernel) ⟨Nat.le_of_ble_eq_true rfl, Nat.le_of_ble_eq_true rfl⟩) (pre_roV hP hK hN (ci := 2) (k := 0) rfl rfl) rfl rfl hl.1 rfl (lv_room (Nat.le_of_ble_eq_true rfl)) d_M_best_110 ⟨Nat.le_of_ble_eq_true rfl, Nat.le_of_ble_eq_true rfl⟩).run (fun r6 hr6 => ?_)
                replace hr6 : r6 = nI x.2.2.1 := by rw [hr6, hx1, lenF_x hn1 hn2]
                subst hr6
                refine lv_iadd hx hb d_M_best_113 ?_
                refine lv_topi (fun y8 ey8 => ?_)
                obtain rfl : y8 = nI (x.2.1 + x.2.2.1) := ey8.trans (nI_add _ _)
                clear ey8
                refine lv_istore_n (lv' := [(3, .int (nI (x.2.1 + x.2.2.1))), (2, .int (nI y.2.1)), (5, .int 1), (4, .int 0), (0, .ref hm), (1, .int (nI n))]) hx hb d_M_best_114 rfl hl (by decide) rfl (fun ls hl => ?_)
                refine lv_goto (tgt := 4) hx hb d_M_best_115 (by decide) ?_
                exact ih ls (some y) (x.2.1 + x.2.2.1) (lv_sub hl [0, 1, 4, 5] rfl) ⟨pre ++ [x], by rw [hpre, List.append_assoc]; rfl⟩ hd3 (by rw [hq, wtf, if_neg (by simp [wtfC, show isFT x = false from by cases h9 : isFT x; rfl; exact absurd c_20 (Int32.not_lt.mpr ((szV_m3 hn1 hn2).mpr h9))])]) hm9
              · exact absurd rfl c_93
            · refine lv_aload_n hx hb d_M_best_56 rfl (lv_at hl 3 rfl) ?_
              refine lv_iload_n hx hb d_M_best_57 rfl (lv_at hl 1 rfl) ?_
              refine vp_callSi (va_runV (As := [.int (nI x.2.1)]) (rest := []) ⟨hx, hb, hml, hown, hg⟩ (c_M_length l D ty hm qs qt qm cI cJ cZ th cn nw v w z hd za ta ka x.2.1 t0 t1 t2 hb9) (cwV 1 hg (gw_V gw_409 gw_411 gw_20 gw_28 gw_412) rfl rfl rfl (by decide +kernel) ⟨Nat.le_of_ble_eq_true rfl, Nat.le_of_ble_eq_true rfl⟩) (pre_roV hP hK hN (ci := 2) (k := 0) rfl rfl) rfl rfl hl.1 rfl (lv_room (Nat.le_of_ble_eq_true rfl)) d_M_best_58 ⟨Nat.le_of_ble_eq_true rfl, Nat.le_of_ble_eq_true rfl⟩).run (fun r4 hr4 => ?_)
              replace hr4 : r4 = nI x.2.2.1 := by rw [hr4, hx1, lenF_x hn1 hn2]
              subst hr4
              refine lv_aload_n hx hb d_M_best_61 rfl (lv_at hl 3 rfl) ?_
              refine lv_iload_n hx hb d_M_best_62 rfl (lv_at hl 2 rfl) ?_
              refine vp_callSi (va_runV (As := [.int (nI y.2.1)]) (rest := [.int (nI x.2.2.1)]) ⟨hx, hb, hml, hown, hg⟩ (c_M_length l D ty hm qs qt qm cI cJ cZ th cn nw v w z hd za ta ka y.2.1 t0 t1 t2 yhb9) (cwV 1 hg (gw_V gw_409 gw_411 gw_20 gw_28 gw_412) rfl rfl rfl (by decide +kernel) ⟨Nat.le_of_ble_eq_true rfl, Nat.le_of_ble_eq_true rfl⟩) (pre_roV hP hK hN (ci := 2) (k := 0) rfl rfl) rfl rfl hl.1 rfl (lv_room (Nat.le_of_ble_eq_true rfl)) d_M_best_63 ⟨Nat.le_of_ble_eq_true rfl, Nat.le_of_ble_eq_true rfl⟩).run (fun r5 hr5 => ?_)
              replace hr5 : r5 = nI y.2.2.1 := by rw [hr5, yhx1, lenF_x yhn1 yhn2]
              subst hr5
              refine lv_icmp_ne (tgt := 88) hx hb d_M_best_66 (by decide) (fun c_66 => ?_) (fun c_66 => ?_)
              · refine lv_iconst (v := 0) hx hb d_M_best_88 (by decide) ?_
                refine lv_istore (lv' := [(5, .int 0), (4, .int 0), (3, .int (nI x.2.1)), (2, .int (nI y.2.1)), (0, .ref hm), (1, .int (nI n))]) hx hb d_M_best_89 hl (by decide) rfl (fun ls hl => ?_)
                refine lv_iload hx hb d_M_best_91 (lv_at hl 1 rfl) ?_
                refine lv_if_eq (tgt := 105) hx hb d_M_best_93 (by decide) (fun c_93 => ?_) (fun c_93 => ?_)
                · refine lv_iload_n hx hb d_M_best_105 rfl (lv_at hl 3 rfl) ?_
                  refine lv_istore_n (lv' := [(2, .int (nI y.2.1)), (5, .int 0), (4, .int 0), (3, .int (nI x.2.1)), (0, .ref hm), (1, .int (nI n))]) hx hb d_M_best_106 rfl hl (by decide) rfl (fun ls hl => ?_)
                  refine lv_iload_n hx hb d_M_best_107 rfl (lv_at hl 3 rfl) ?_
                  refine lv_aload_n hx hb d_M_best_108 rfl (lv_at hl 4 rfl) ?_
                  refine lv_iload_n hx hb d_M_best_109 rfl (lv_at hl 3 rfl) ?_
                  refine vp_callSi (va_runV (As := [.int (nI x.2.1)]) (rest := [.int (nI x.2.1)]) ⟨hx, hb, hml, hown, hg⟩ (c_M_length l D ty hm qs qt qm cI cJ cZ th cn nw v w z hd za ta ka x.2.1 t0 t1 t2 hb9) (cwV 1 hg (gw_V gw_409 gw_411 gw_20 gw_28 gw_412) rfl rfl rfl (by decide +kernel) ⟨Nat.le_of_ble_eq_true rfl, Nat.le_of_ble_eq_true rfl⟩) (pre_roV hP hK hN (ci := 2) (k := 0) rfl rfl) rfl rfl hl.1 rfl (lv_room (Nat.le_of_ble_eq_true rfl)) d_M_best_110 ⟨Nat.le_of_ble_eq_true rfl, Nat.le_of_ble_eq_true rfl⟩).run (fun r6 hr6 => ?_)
                  replace hr6 : r6 = nI x.2.2.1 := by rw [hr6, hx1, lenF_x hn1 hn2]
                  subst hr6
                  refine lv_iadd hx hb d_M_best_113 ?_
                  refine lv_topi (fun y9 ey9 => ?_)
                  obtain rfl : y9 = nI (x.2.1 + x.2.2.1) := ey9.trans (nI_add _ _)
                  clear ey9
                  refine lv_istore_n (lv' := [(3, .int (nI (x.2.1 + x.2.2.1))), (2, .int (nI y.2.1)), (5, .int 0), (4, .int 0), (0, .ref hm), (1, .int (nI n))]) hx hb d_M_best_114 rfl hl (by decide) rfl (fun ls hl => ?_)
                  refine lv_goto (tgt := 4) hx hb d_M_best_115 (by decide) ?_
                  exact ih ls (some y) (x.2.1 + x.2.2.1) (lv_sub hl [0, 1, 4, 5] rfl) ⟨pre ++ [x], by rw [hpre, List.append_assoc]; rfl⟩ hd3 (by rw [hq, wtf, if_neg (by simp [wtfC, show isFT x = false from by cases h9 : isFT x; rfl; exact absurd c_20 (Int32.not_lt.mpr ((szV_m3 hn1 hn2).mpr h9))])]) hm9
                · exact absurd rfl c_93
              · refine lv_aload_n hx hb d_M_best_69 rfl (lv_at hl 3 rfl) ?_
                refine va_get (D := D) (ci := 2) (v := .ref qt) (C := R_M) (T := F_M) (N := 10) hx hb hg gi_M hown hK hP 0 rfl rfl 3 (by decide) (hg _ gw_355) (fun _ h9 => h9) rfl d_M_best_70 ?_
                refine lv_iload_n hx hb d_M_best_73 rfl (lv_at hl 1 rfl) ?_
                refine va_iald hx hb hK hP 2 1 rfl t1 (vp_in_nI hb9 (by decide)) d_M_best_74 ?_
                refine lv_topi (fun y10 ey10 => ?_)
                obtain rfl : y10 = ta x.2.1 := ey10.trans (congrArg ta (nI_clamp (Nat.lt_trans hb9 (by decide))))
                clear ey10
                refine lv_aload_n hx hb d_M_best_75 rfl (lv_at hl 3 rfl) ?_
                refine va_get (D := D) (ci := 2) (v := .ref qt) (C := R_M) (T := F_M) (N := 10) hx hb hg gi_M hown hK hP 0 rfl rfl 3 (by decide) (hg _ gw_355) (fun _ h9 => h9) rfl d_M_best_76 ?_
                refine lv_iload_n hx hb d_M_best_79 rfl (lv_at hl 2 rfl) ?_
                refine va_iald hx hb hK hP 2 1 rfl t1 (vp_in_nI yhb9 (by decide)) d_M_best_80 ?_
                refine lv_topi (fun y11 ey11 => ?_)
                obtain rfl : y11 = ta y.2.1 := ey11.trans (congrArg ta (nI_clamp (Nat.lt_trans yhb9 (by decide))))
                clear ey11
                refine lv_topi (fun y12 ey12 => ?_)
                obtain rfl : y12 = nI Ty := ey12.trans hTy1
                clear ey12
                refine lv_icmp_le (tgt := 88) hx hb d_M_best_81 (by decide) (fun c_81 => ?_) (fun c_81 => ?_)
                · refine lv_iconst (v := 0) hx hb d_M_best_88 (by decide) ?_
                  refine lv_istore (lv' := [(5, .int 0), (4, .int 0), (3, .int (nI x.2.1)), (2, .int (nI y.2.1)), (0, .ref hm), (1, .int (nI n))]) hx hb d_M_best_89 hl (by decide) rfl (fun ls hl => ?_)
                  refine lv_iload hx hb d_M_best_91 (lv_at hl 1 rfl) ?_
                  refine lv_if_eq (tgt := 105) hx hb d_M_best_93 (by decide) (fun c_93 => ?_) (fun c_93 => ?_)
                  · refine lv_iload_n hx hb d_M_best_105 rfl (lv_at hl 3 rfl) ?_
                    refine lv_istore_n (lv' := [(2, .int (nI y.2.1)), (5, .int 0), (4, .int 0), (3, .int (nI x.2.1)), (0, .ref hm), (1, .int (nI n))]) hx hb d_M_best_106 rfl hl (by decide) rfl (fun ls hl => ?_)
                    refine lv_iload_n hx hb d_M_best_107 rfl (lv_at hl 3 rfl) ?_
                    refine lv_aload_n hx hb d_M_best_108 rfl (lv_at hl 4 rfl) ?_
                    refine lv_iload_n hx hb d_M_best_109 rfl (lv_at hl 3 rfl) ?_
                    refine vp_callSi (va_runV (As := [.int (nI x.2.1)]) (rest := [.int (nI x.2.1)]) ⟨hx, hb, hml, hown, hg⟩ (c_M_length l D ty hm qs qt qm cI cJ cZ th cn nw v w z hd za ta ka x.2.1 t0 t1 t2 hb9) (cwV 1 hg (gw_V gw_409 gw_411 gw_20 gw_28 gw_412) rfl rfl rfl (by decide +kernel) ⟨Nat.le_of_ble_eq_true rfl, Nat.le_of_ble_eq_true rfl⟩) (pre_roV hP hK hN (ci := 2) (k := 0) rfl rfl) rfl rfl hl.1 rfl (lv_room (Nat.le_of_ble_eq_true rfl)) d_M_best_110 ⟨Nat.le_of_ble_eq_true rfl, Nat.le_of_ble_eq_true rfl⟩).run (fun r6 hr6 => ?_)
                    replace hr6 : r6 = nI x.2.2.1 := by rw [hr6, hx1, lenF_x hn1 hn2]
                    subst hr6
                    refine lv_iadd hx hb d_M_best_113 ?_
                    refine lv_topi (fun y13 ey13 => ?_)
                    obtain rfl : y13 = nI (x.2.1 + x.2.2.1) := ey13.trans (nI_add _ _)
                    clear ey13
                    refine lv_istore_n (lv' := [(3, .int (nI (x.2.1 + x.2.2.1))), (2, .int (nI y.2.1)), (5, .int 0), (4, .int 0), (0, .ref hm), (1, .int (nI n))]) hx hb d_M_best_114 rfl hl (by decide) rfl (fun ls hl => ?_)
                    refine lv_goto (tgt := 4) hx hb d_M_best_115 (by decide) ?_
                    exact ih ls (some y) (x.2.1 + x.2.2.1) (lv_sub hl [0, 1, 4, 5] rfl) ⟨pre ++ [x], by rw [hpre, List.append_assoc]; rfl⟩ hd3 (by rw [hq, wtf, if_neg (by simp [wtfC, show isFT x = false from by cases h9 : isFT x; rfl; exact absurd c_20 (Int32.not_lt.mpr ((szV_m3 hn1 hn2).mpr h9))])]) hm9
                  · exact absurd rfl c_93
                · refine lv_iconst (v := 1) hx hb d_M_best_84 (by decide) ?_
                  refine lv_goto (tgt := 89) hx hb d_M_best_85 (by decide) ?_
                  refine lv_istore (lv' := [(5, .int 1), (4, .int 0), (3, .int (nI x.2.1)), (2, .int (nI y.2.1)), (0, .ref hm), (1, .int (nI n))]) hx hb d_M_best_89 hl (by decide) rfl (fun ls hl => ?_)
                  refine lv_iload hx hb d_M_best_91 (lv_at hl 1 rfl) ?_
                  refine lv_if_eq (tgt := 105) hx hb d_M_best_93 (by decide) (fun c_93 => ?_) (fun c_93 => ?_)
                  · refine lv_iload_n hx hb d_M_best_105 rfl (lv_at hl 3 rfl) ?_
                    refine lv_istore_n (lv' := [(2, .int (nI y.2.1)), (5, .int 1), (4, .int 0), (3, .int (nI x.2.1)), (0, .ref hm), (1, .int (nI n))]) hx hb d_M_best_106 rfl hl (by decide) rfl (fun ls hl => ?_)
                    refine lv_iload_n hx hb d_M_best_107 rfl (lv_at hl 3 rfl) ?_
                    refine lv_aload_n hx hb d_M_best_108 rfl (lv_at hl 4 rfl) ?_
                    refine lv_iload_n hx hb d_M_best_109 rfl (lv_at hl 3 rfl) ?_
                    refine vp_callSi (va_runV (As := [.int (nI x.2.1)]) (rest := [.int (nI x.2.1)]) ⟨hx, hb, hml, hown, hg⟩ (c_M_length l D ty hm qs qt qm cI cJ cZ th cn nw v w z hd za ta ka x.2.1 t0 t1 t2 hb9) (cwV 1 hg (gw_V gw_409 gw_411 gw_20 gw_28 gw_412) rfl rfl rfl (by decide +kernel) ⟨Nat.le_of_ble_eq_true rfl, Nat.le_of_ble_eq_true rfl⟩) (pre_roV hP hK hN (ci := 2) (k := 0) rfl rfl) rfl rfl hl.1 rfl (lv_room (Nat.le_of_ble_eq_true rfl)) d_M_best_110 ⟨Nat.le_of_ble_eq_true rfl, Nat.le_of_ble_eq_true rfl⟩).run (fun r6 hr6 => ?_)
                    replace hr6 : r6 = nI x.2.2.1 := by rw [hr6, hx1, lenF_x hn1 hn2]
                    subst hr6
                    refine lv_iadd hx hb d_M_best_113 ?_
                    refine lv_topi (fun y14 ey14 => ?_)
                    obtain rfl : y14 = nI (x.2.1 + x.2.2.1) := ey14.trans (nI_add _ _)
                    clear ey14
                    refine lv_istore_n (lv' := [(3, .int (nI (x.2.1 + x.2.2.1))), (2, .int (nI y.2.1)), (5, .int 1), (4, .int 0), (0, .ref hm), (1, .int (nI n))]) hx hb d_M_best_114 rfl hl (by decide) rfl (fun ls hl => ?_)
                    refine lv_goto (tgt := 4) hx hb d_M_best_115 (by decide) ?_
                    exact ih ls (some y) (x.2.1 + x.2.2.1) (lv_sub hl [0, 1, 4, 5] rfl) ⟨pre ++ [x], by rw [hpre, List.append_assoc]; rfl⟩ hd3 (by rw [hq, wtf, if_neg (by simp [wtfC, show isFT x = false from by cases h9 : isFT x; rfl; exact absurd c_20 (Int32.not_lt.mpr ((szV_m3 hn1 hn2).mpr h9))])]) hm9
                  · exact absurd rfl c_93
        · refine lv_aload_n hx hb d_M_best_23 rfl (lv_at hl 2 rfl) ?_
          refine lv_iload_n hx hb d_M_best_24 rfl (lv_at hl 0 rfl) ?_
          refine vp_callSi (va_runV (As := [.int (nI x.2.1)]) (rest := []) ⟨hx, hb, hml, hown, hg⟩ (c_M_length l D ty hm qs qt qm cI cJ cZ th cn nw v w z hd za ta ka x.2.1 t0 t1 t2 hb9) (cwV 1 hg (gw_V gw_409 gw_411 gw_20 gw_28 gw_412) rfl rfl rfl (by decide +kernel) ⟨Nat.le_of_ble_eq_true rfl, Nat.le_of_ble_eq_true rfl⟩) (pre_roV hP hK hN (ci := 2) (k := 0) rfl rfl) rfl rfl hl.1 rfl (lv_room (Nat.le_of_ble_eq_true rfl)) d_M_best_25 ⟨Nat.le_of_ble_eq_true rfl, Nat.le_of_ble_eq_true rfl⟩).run (fun r1 hr1 => ?_)
          replace hr1 : r1 = nI x.2.2.1 := by rw [hr1, hx1, lenF_x hn1 hn2]
          subst hr1
          refine lv_iload_n hx hb d_M_best_28 rfl (lv_at hl 3 rfl) ?_
          refine lv_icmp_lt (tgt := 36) hx hb d_M_best_29 (by decide) (fun c_29 => ?_) (fun c_29 => ?_)
          · refine lv_iconst (v := 0) hx hb d_M_best_36 (by decide) ?_
            refine lv_istore (lv' := [(4, .int 0), (3, .int (nI x.2.1)), (2, .int (nI y.2.1)), (0, .ref hm), (1, .int (nI n))]) hx hb d_M_best_37 hl (by decide) rfl (fun ls hl => ?_)
            refine lv_iload_n hx hb d_M_best_39 rfl (lv_at hl 2 rfl) ?_
            refine lv_if_eq (tgt := 84) hx hb d_M_best_40 (by decide) (fun c_40 => ?_) (fun c_40 => ?_)
            · exact absurd c_40 (nI_ne0 (by omega) (by omega))
            · refine lv_aload_n hx hb d_M_best_43 rfl (lv_at hl 3 rfl) ?_
              refine lv_iload_n hx hb d_M_best_44 rfl (lv_at hl 1 rfl) ?_
              refine vp_callSi (va_runV (As := [.int (nI x.2.1)]) (rest := []) ⟨hx, hb, hml, hown, hg⟩ (c_M_length l D ty hm qs qt qm cI cJ cZ th cn nw v w z hd za ta ka x.2.1 t0 t1 t2 hb9) (cwV 1 hg (gw_V gw_409 gw_411 gw_20 gw_28 gw_412) rfl rfl rfl (by decide +kernel) ⟨Nat.le_of_ble_eq_true rfl, Nat.le_of_ble_eq_true rfl⟩) (pre_roV hP hK hN (ci := 2) (k := 0) rfl rfl) rfl rfl hl.1 rfl (lv_room (Nat.le_of_ble_eq_true rfl)) d_M_best_45 ⟨Nat.le_of_ble_eq_true rfl, Nat.le_of_ble_eq_true rfl⟩).run (fun r2 hr2 => ?_)
              replace hr2 : r2 = nI x.2.2.1 := by rw [hr2, hx1, lenF_x hn1 hn2]
              subst hr2
              refine lv_aload_n hx hb d_M_best_48 rfl (lv_at hl 3 rfl) ?_
              refine lv_iload_n hx hb d_M_best_49 rfl (lv_at hl 2 rfl) ?_
              refine vp_callSi (va_runV (As := [.int (nI y.2.1)]) (rest := [.int (nI x.2.2.1)]) ⟨hx, hb, hml, hown, hg⟩ (c_M_length l D ty hm qs qt qm cI cJ cZ th cn nw v w z hd za ta ka y.2.1 t0 t1 t2 yhb9) (cwV 1 hg (gw_V gw_409 gw_411 gw_20 gw_28 gw_412) rfl rfl rfl (by decide +kernel) ⟨Nat.le_of_ble_eq_true rfl, Nat.le_of_ble_eq_true rfl⟩) (pre_roV hP hK hN (ci := 2) (k := 0) rfl rfl) rfl rfl hl.1 rfl (lv_room (Nat.le_of_ble_eq_true rfl)) d_M_best_50 ⟨Nat.le_of_ble_eq_true rfl, Nat.le_of_ble_eq_true rfl⟩).run (fun r3 hr3 => ?_)
              replace hr3 : r3 = nI y.2.2.1 := by rw [hr3, yhx1, lenF_x yhn1 yhn2]
              subst hr3
              refine lv_icmp_lt (tgt := 84) hx hb d_M_best_53 (by decide) (fun c_53 => ?_) (fun c_53 => ?_)
              · refine lv_iconst (v := 1) hx hb d_M_best_84 (by decide) ?_
                refine lv_goto (tgt := 89) hx hb d_M_best_85 (by decide) ?_
                refine lv_istore (lv' := [(5, .int 1), (4, .int 0), (3, .int (nI x.2.1)), (2, .int (nI y.2.1)), (0, .ref hm), (1, .int (nI n))]) hx hb d_M_best_89 hl (by decide) rfl (fun ls hl => ?_)
                refine lv_iload hx hb d_M_best_91 (lv_at hl 1 rfl) ?_
                refine lv_if_eq (tgt := 105) hx hb d_M_best_93 (by decide) (fun c_93 => ?_) (fun c_93 => ?_)
                · refine lv_iload_n hx hb d_M_best_105 rfl (lv_at hl 3 rfl) ?_
                  refine lv_istore_n (lv' := [(2, .int (nI y.2.1)), (5, .int 1), (4, .int 0), (3, .int (nI x.2.1)), (0, .ref hm), (1, .int (nI n))]) hx hb d_M_best_106 rfl hl (by decide) rfl (fun ls hl => ?_)
                  refine lv_iload_n hx hb d_M_best_107 rfl (lv_at hl 3 rfl) ?_
                  refine lv_aload_n hx hb d_M_best_108 rfl (lv_at hl 4 rfl) ?_
                  refine lv_iload_n hx hb d_M_best_109 rfl (lv_at hl 3 rfl) ?_
                  refine vp_callSi (va_runV (As := [.int (nI x.2.1)]) (rest := [.int (nI x.2.1)]) ⟨hx, hb, hml, hown, hg⟩ (c_M_length l D ty hm qs qt qm cI cJ cZ th cn nw v w z hd za ta ka x.2.1 t0 t1 t2 hb9) (cwV 1 hg (gw_V gw_409 gw_411 gw_20 gw_28 gw_412) rfl rfl rfl (by decide +kernel) ⟨Nat.le_of_ble_eq_true rfl, Nat.le_of_ble_eq_true rfl⟩) (pre_roV hP hK hN (ci := 2) (k := 0) rfl rfl) rfl rfl hl.1 rfl (lv_room (Nat.le_of_ble_eq_true rfl)) d_M_best_110 ⟨Nat.le_of_ble_eq_true rfl, Nat.le_of_ble_eq_true rfl⟩).run (fun r6 hr6 => ?_)
                  replace hr6 : r6 = nI x.2.2.1 := by rw [hr6, hx1, lenF_x hn1 hn2]
                  subst hr6
                  refine lv_iadd hx hb d_M_best_113 ?_
                  refine lv_topi (fun y15 ey15 => ?_)
                  obtain rfl : y15 = nI (x.2.1 + x.2.2.1) := ey15.trans (nI_add _ _)
                  clear ey15
                  refine lv_istore_n (lv' := [(3, .int (nI (x.2.1 + x.2.2.1))), (2, .int (nI y.2.1)), (5, .int 1), (4, .int 0), (0, .ref hm), (1, .int (nI n))]) hx hb d_M_best_114 rfl hl (by decide) rfl (fun ls hl => ?_)
                  refine lv_goto (tgt := 4) hx hb d_M_best_115 (by decide) ?_
                  exact ih ls (some y) (x.2.1 + x.2.2.1) (lv_sub hl [0, 1, 4, 5] rfl) ⟨pre ++ [x], by rw [hpre, List.append_assoc]; rfl⟩ hd3 (by rw [hq, wtf, if_neg (by simp [wtfC, Nat.not_le.mpr ((nI_ltI hn2 hn).mp c_29)])]) hm9
                · exact absurd rfl c_93
              · refine lv_aload_n hx hb d_M_best_56 rfl (lv_at hl 3 rfl) ?_
                refine lv_iload_n hx hb d_M_best_57 rfl (lv_at hl 1 rfl) ?_
                refine vp_callSi (va_runV (As := [.int (nI x.2.1)]) (rest := []) ⟨hx, hb, hml, hown, hg⟩ (c_M_length l D ty hm qs qt qm cI cJ cZ th cn nw v w z hd za ta ka x.2.1 t0 t1 t2 hb9) (cwV 1 hg (gw_V gw_409 gw_411 gw_20 gw_28 gw_412) rfl rfl rfl (by decide +kernel) ⟨Nat.le_of_ble_eq_true rfl, Nat.le_of_ble_eq_true rfl⟩) (pre_roV hP hK hN (ci := 2) (k := 0) rfl rfl) rfl rfl hl.1 rfl (lv_room (Nat.le_of_ble_eq_true rfl)) d_M_best_58 ⟨Nat.le_of_ble_eq_true rfl, Nat.le_of_ble_eq_true rfl⟩).run (fun r4 hr4 => ?_)
                replace hr4 : r4 = nI x.2.2.1 := by rw [hr4, hx1, lenF_x hn1 hn2]
                subst hr4
                refine lv_aload_n hx hb d_M_best_61 rfl (lv_at hl 3 rfl) ?_
                refine lv_iload_n hx hb d_M_best_62 rfl (lv_at hl 2 rfl) ?_
                refine vp_callSi (va_runV (As := [.int (nI y.2.1)]) (rest := [.int (nI x.2.2.1)]) ⟨hx, hb, hml, hown, hg⟩ (c_M_length l D ty hm qs qt qm cI cJ cZ th cn nw v w z hd za ta ka y.2.1 t0 t1 t2 yhb9) (cwV 1 hg (gw_V gw_409 gw_411 gw_20 gw_28 gw_412) rfl rfl rfl (by decide +kernel) ⟨Nat.le_of_ble_eq_true rfl, Nat.le_of_ble_eq_true rfl⟩) (pre_roV hP hK hN (ci := 2) (k := 0) rfl rfl) rfl rfl hl.1 rfl (lv_room (Nat.le_of_ble_eq_true rfl)) d_M_best_63 ⟨Nat.le_of_ble_eq_true rfl, Nat.le_of_ble_eq_true rfl⟩).run (fun r5 hr5 => ?_)
                replace hr5 : r5 = nI y.2.2.1 := by rw [hr5, yhx1, lenF_x yhn1 yhn2]
                subst hr5
                refine lv_icmp_ne (tgt := 88) hx hb d_M_best_66 (by decide) (fun c_66 => ?_) (fun c_66 => ?_)
                · refine lv_iconst (v := 0) hx hb d_M_best_88 (by decide) ?_
                  refine lv_istore (lv' := [(5, .int 0), (4, .int 0), (3, .int (nI x.2.1)), (2, .int (nI y.2.1)), (0, .ref hm), (1, .int (nI n))]) hx hb d_M_best_89 hl (by decide) rfl (fun ls hl => ?_)
                  refine lv_iload hx hb d_M_best_91 (lv_at hl 1 rfl) ?_
                  refine lv_if_eq (tgt := 105) hx hb d_M_best_93 (by decide) (fun c_93 => ?_) (fun c_93 => ?_)
                  · refine lv_iload_n hx hb d_M_best_105 rfl (lv_at hl 3 rfl) ?_
                    refine lv_istore_n (lv' := [(2, .int (nI y.2.1)), (5, .int 0), (4, .int 0), (3, .int (nI x.2.1)), (0, .ref hm), (1, .int (nI n))]) hx hb d_M_best_106 rfl hl (by decide) rfl (fun ls hl => ?_)
                    refine lv_iload_n hx hb d_M_best_107 rfl (lv_at hl 3 rfl) ?_
                    refine lv_aload_n hx hb d_M_best_108 rfl (lv_at hl 4 rfl) ?_
                    refine lv_iload_n hx hb d_M_best_109 rfl (lv_at hl 3 rfl) ?_
                    refine vp_callSi (va_runV (As := [.int (nI x.2.1)]) (rest := [.int (nI x.2.1)]) ⟨hx, hb, hml, hown, hg⟩ (c_M_length l D ty hm qs qt qm cI cJ cZ th cn nw v w z hd za ta ka x.2.1 t0 t1 t2 hb9) (cwV 1 hg (gw_V gw_409 gw_411 gw_20 gw_28 gw_412) rfl rfl rfl (by decide +kernel) ⟨Nat.le_of_ble_eq_true rfl, Nat.le_of_ble_eq_true rfl⟩) (pre_roV hP hK hN (ci := 2) (k := 0) rfl rfl) rfl rfl hl.1 rfl (lv_room (Nat.le_of_ble_eq_true rfl)) d_M_best_110 ⟨Nat.le_of_ble_eq_true rfl, Nat.le_of_ble_eq_true rfl⟩).run (fun r6 hr6 => ?_)
                    replace hr6 : r6 = nI x.2.2.1 := by rw [hr6, hx1, lenF_x hn1 hn2]
                    subst hr6
                    refine lv_iadd hx hb d_M_best_113 ?_
                    refine lv_topi (fun y16 ey16 => ?_)
                    obtain rfl : y16 = nI (x.2.1 + x.2.2.1) := ey16.trans (nI_add _ _)
                    clear ey16
                    refine lv_istore_n (lv' := [(3, .int (nI (x.2.1 + x.2.2.1))), (2, .int (nI y.2.1)), (5, .int 0), (4, .int 0), (0, .ref hm), (1, .int (nI n))]) hx hb d_M_best_114 rfl hl (by decide) rfl (fun ls hl => ?_)
                    refine lv_goto (tgt := 4) hx hb d_M_best_115 (by decide) ?_
                    exact ih ls (some y) (x.2.1 + x.2.2.1) (lv_sub hl [0, 1, 4, 5] rfl) ⟨pre ++ [x], by rw [hpre, List.append_assoc]; rfl⟩ hd3 (by rw [hq, wtf, if_neg (by simp [wtfC, Nat.not_le.mpr ((nI_ltI hn2 hn).mp c_29)])]) hm9
                  · exact absurd rfl c_93
                · refine lv_aload_n hx hb d_M_best_69 rfl (lv_at hl 3 rfl) ?_
                  refine va_get (D := D) (ci := 2) (v := .ref qt) (C := R_M) (T := F_M) (N := 10) hx hb hg gi_M hown hK hP 0 rfl rfl 3 (by decide) (hg _ gw_355) (fun _ h9 => h9) rfl d_M_best_70 ?_
                  refine lv_iload_n hx hb d_M_best_73 rfl (lv_at hl 1 rfl) ?_
                  refine va_iald hx hb hK hP 2 1 rfl t1 (vp_in_nI hb9 (by decide)) d_M_best_74 ?_
                  refine lv_topi (fun y17 ey17 => ?_)
                  obtain rfl : y17 = ta x.2.1 := ey17.trans (congrArg ta (nI_clamp (Nat.lt_trans hb9 (by decide))))
                  clear ey17
                  refine lv_aload_n hx hb d_M_best_75 rfl (lv_at hl 3 rfl) ?_
                  refine va_get (D := D) (ci := 2) (v := .ref qt) (C := R_M) (T := F_M) (N := 10) hx hb hg gi_M hown hK hP 0 rfl rfl 3 (by decide) (hg _ gw_355) (fun _ h9 => h9) rfl d_M_best_76 ?_
                  refine lv_iload_n hx hb d_M_best_79 rfl (lv_at hl 2 rfl) ?_
                  refine va_iald hx hb hK hP 2 1 rfl t1 (vp_in_nI yhb9 (by decide)) d_M_best_80 ?_
                  refine lv_topi (fun y18 ey18 => ?_)
                  obtain rfl : y18 = ta y.2.1 := ey18.trans (congrArg ta (nI_clamp (Nat.lt_trans yhb9 (by decide))))
                  clear ey18
                  refine lv_topi (fun y19 ey19 => ?_)
                  obtain rfl : y19 = nI Ty := ey19.trans hTy1
                  clear ey19
                  refine lv_icmp_le (tgt := 88) hx hb d_M_best_81 (by decide) (fun c_81 => ?_) (fun c_81 => ?_)
                  · refine lv_iconst (v := 0) hx hb d_M_best_88 (by decide) ?_
                    refine lv_istore (lv' := [(5, .int 0), (4, .int 0), (3, .int (nI x.2.1)), (2, .int (nI y.2.1)), (0, .ref hm), (1, .int (nI n))]) hx hb d_M_best_89 hl (by decide) rfl (fun ls hl => ?_)
                    refine lv_iload hx hb d_M_best_91 (lv_at hl 1 rfl) ?_
                    refine lv_if_eq (tgt := 105) hx hb d_M_best_93 (by decide) (fun c_93 => ?_) (fun c_93 => ?_)
                    · refine lv_iload_n hx hb d_M_best_105 rfl (lv_at hl 3 rfl) ?_
                      refine lv_istore_n (lv' := [(2, .int (nI y.2.1)), (5, .int 0), (4, .int 0), (3, .int (nI x.2.1)), (0, .ref hm), (1, .int (nI n))]) hx hb d_M_best_106 rfl hl (by decide) rfl (fun ls hl => ?_)
                      refine lv_iload_n hx hb d_M_best_107 rfl (lv_at hl 3 rfl) ?_
                      refine lv_aload_n hx hb d_M_best_108 rfl (lv_at hl 4 rfl) ?_
                      refine lv_iload_n hx hb d_M_best_109 rfl (lv_at hl 3 rfl) ?_
                      refine vp_callSi (va_runV (As := [.int (nI x.2.1)]) (rest := [.int (nI x.2.1)]) ⟨hx, hb, hml, hown, hg⟩ (c_M_length l D ty hm qs qt qm cI cJ cZ th cn nw v w z hd za ta ka x.2.1 t0 t1 t2 hb9) (cwV 1 hg (gw_V gw_409 gw_411 gw_20 gw_28 gw_412) rfl rfl rfl (by decide +kernel) ⟨Nat.le_of_ble_eq_true rfl, Nat.le_of_ble_eq_true rfl⟩) (pre_roV hP hK hN (ci := 2) (k := 0) rfl rfl) rfl rfl hl.1 rfl (lv_room (Nat.le_of_ble_eq_true rfl)) d_M_best_110 ⟨Nat.le_of_ble_eq_true rfl, Nat.le_of_ble_eq_true rfl⟩).run (fun r6 hr6 => ?_)
                      replace hr6 : r6 = nI x.2.2.1 := by rw [hr6, hx1, lenF_x hn1 hn2]
                      subst hr6
                      refine lv_iadd hx hb d_M_best_113 ?_
                      refine lv_topi (fun y20 ey20 => ?_)
                      obtain rfl : y20 = nI (x.2.1 + x.2.2.1) := ey20.trans (nI_add _ _)
                      clear ey20
                      refine lv_istore_n (lv' := [(3, .int (nI (x.2.1 + x.2.2.1))), (2, .int (nI y.2.1)), (5, .int 0), (4, .int 0), (0, .ref hm), (1, .int (nI n))]) hx hb d_M_best_114 rfl hl (by decide) rfl (fun ls hl => ?_)
                      refine lv_goto (tgt := 4) hx hb d_M_best_115 (by decide) ?_
                      exact ih ls (some y) (x.2.1 + x.2.2.1) (lv_sub hl [0, 1, 4, 5] rfl) ⟨pre ++ [x], by rw [hpre, List.append_assoc]; rfl⟩ hd3 (by rw [hq, wtf, if_neg (by simp [wtfC, Nat.not_le.mpr ((nI_ltI hn2 hn).mp c_29)])]) hm9
                    · exact absurd rfl c_93
                  · refine lv_iconst (v := 1) hx hb d_M_best_84 (by decide) ?_
                    refine lv_goto (tgt := 89) hx hb d_M_best_85 (by decide) ?_
                    refine lv_istore (lv' := [(5, .int 1), (4, .int 0), (3, .int (nI x.2.1)), (2, .int (nI y.2.1)), (0, .ref hm), (1, .int (nI n))]) hx hb d_M_best_89 hl (by decide) rfl (fun ls hl => ?_)
                    refine lv_iload hx hb d_M_best_91 (lv_at hl 1 rfl) ?_
                    refine lv_if_eq (tgt := 105) hx hb d_M_best_93 (by decide) (fun c_93 => ?_) (fun c_93 => ?_)
                    · refine lv_iload_n hx hb d_M_best_105 rfl (lv_at hl 3 rfl) ?_
                      refine lv_istore_n (lv' := [(2, .int (nI y.2.1)), (5, .int 1), (4, .int 0), (3, .int (nI x.2.1)), (0, .ref hm), (1, .int (nI n))]) hx hb d_M_best_106 rfl hl (by decide) rfl (fun ls hl => ?_)
                      refine lv_iload_n hx hb d_M_best_107 rfl (lv_at hl 3 rfl) ?_
                      refine lv_aload_n hx hb d_M_best_108 rfl (lv_at hl 4 rfl) ?_
                      refine lv_iload_n hx hb d_M_best_109 rfl (lv_at hl 3 rfl) ?_
                      refine vp_callSi (va_runV (As := [.int (nI x.2.1)]) (rest := [.int (nI x.2.1)]) ⟨hx, hb, hml, hown, hg⟩ (c_M_length l D ty hm qs qt qm cI cJ cZ th cn nw v w z hd za ta ka x.2.1 t0 t1 t2 hb9) (cwV 1 hg (gw_V gw_409 gw_411 gw_20 gw_28 gw_412) rfl rfl rfl (by decide +kernel) ⟨Nat.le_of_ble_eq_true rfl, Nat.le_of_ble_eq_true rfl⟩) (pre_roV hP hK hN (ci := 2) (k := 0) rfl rfl) rfl rfl hl.1 rfl (lv_room (Nat.le_of_ble_eq_true rfl)) d_M_best_110 ⟨Nat.le_of_ble_eq_true rfl, Nat.le_of_ble_eq_true rfl⟩).run (fun r6 hr6 => ?_)
                      replace hr6 : r6 = nI x.2.2.1 := by rw [hr6, hx1, lenF_x hn1 hn2]
                      subst hr6
                      refine lv_iadd hx hb d_M_best_113 ?_
                      refine lv_topi (fun y21 ey21 => ?_)
                      obtain rfl : y21 = nI (x.2.1 + x.2.2.1) := ey21.trans (nI_add _ _)
                      clear ey21
                      refine lv_istore_n (lv' := [(3, .int (nI (x.2.1 + x.2.2.1))), (2, .int (nI y.2.1)), (5, .int 1), (4, .int 0), (0, .ref hm), (1, .int (nI n))]) hx hb d_M_best_114 rfl hl (by decide) rfl (fun ls hl => ?_)
                      refine lv_goto (tgt := 4) hx hb d_M_best_115 (by decide) ?_
                      exact ih ls (some y) (x.2.1 + x.2.2.1) (lv_sub hl [0, 1, 4, 5] rfl) ⟨pre ++ [x], by rw [hpre, List.append_assoc]; rfl⟩ hd3 (by rw [hq, wtf, if_neg (by simp [wtfC, Nat.not_le.mpr ((nI_ltI hn2 hn).mp c_29)])]) hm9
                    · exact absurd rfl c_93
          · refine lv_iconst (v := 1) hx hb d_M_best_32 (by decide) ?_
            refine lv_goto (tgt := 37) hx hb d_M_best_33 (by decide) ?_
            refine lv_istore (lv' := [(4, .int 1), (3, .int (nI x.2.1)), (2, .int (nI y.2.1)), (0, .ref hm), (1, .int (nI n))]) hx hb d_M_best_37 hl (by decide) rfl (fun ls hl => ?_)
            refine lv_iload_n hx hb d_M_best_39 rfl (lv_at hl 2 rfl) ?_
            refine lv_if_eq (tgt := 84) hx hb d_M_best_40 (by decide) (fun c_40 => ?_) (fun c_40 => ?_)
            · exact absurd c_40 (nI_ne0 (by omega) (by omega))
            · refine lv_aload_n hx hb d_M_best_43 rfl (lv_at hl 3 rfl) ?_
              refine lv_iload_n hx hb d_M_best_44 rfl (lv_at hl 1 rfl) ?_
              refine vp_callSi (va_runV (As := [.int (nI x.2.1)]) (rest := []) ⟨hx, hb, hml, hown, hg⟩ (c_M_length l D ty hm qs qt qm cI cJ cZ th cn nw v w z hd za ta ka x.2.1 t0 t1 t2 hb9) (cwV 1 hg (gw_V gw_409 gw_411 gw_20 gw_28 gw_412) rfl rfl rfl (by decide +kernel) ⟨Nat.le_of_ble_eq_true rfl, Nat.le_of_ble_eq_true rfl⟩) (pre_roV hP hK hN (ci := 2) (k := 0) rfl rfl) rfl rfl hl.1 rfl (lv_room (Nat.le_of_ble_eq_true rfl)) d_M_best_45 ⟨Nat.le_of_ble_eq_true rfl, Nat.le_of_ble_eq_true rfl⟩).run (fun r2 hr2 => ?_)
              replace hr2 : r2 = nI x.2.2.1 := by rw [hr2, hx1, lenF_x hn1 hn2]
              subst hr2
              refine lv_aload_n hx hb d_M_best_48 rfl (lv_at hl 3 rfl) ?_
              refine lv_iload_n hx hb d_M_best_49 rfl (lv_at hl 2 rfl) ?_
              refine vp_callSi (va_runV (As := [.int (nI y.2.1)]) (rest := [.int (nI x.2.2.1)]) ⟨hx, hb, hml, hown, hg⟩ (c_M_length l D ty hm qs qt qm cI cJ cZ th cn nw v w z hd za ta ka y.2.1 t0 t1 t2 yhb9) (cwV 1 hg (gw_V gw_409 gw_411 gw_20 gw_28 gw_412) rfl rfl rfl (by decide +kernel) ⟨Nat.le_of_ble_eq_true rfl, Nat.le_of_ble_eq_true rfl⟩) (pre_roV hP hK hN (ci := 2) (k := 0) rfl rfl) rfl rfl hl.1 rfl (lv_room (Nat.le_of_ble_eq_true rfl)) d_M_best_50 ⟨Nat.le_of_ble_eq_true rfl, Nat.le_of_ble_eq_true rfl⟩).run (fun r3 hr3 => ?_)
              replace hr3 : r3 = nI y.2.2.1 := by rw [hr3, yhx1, lenF_x yhn1 yhn2]
              subst hr3
              refine lv_icmp_lt (tgt := 84) hx hb d_M_best_53 (by decide) (fun c_53 => ?_) (fun c_53 => ?_)
              · refine lv_iconst (v := 1) hx hb d_M_best_84 (by decide) ?_
                refine lv_goto (tgt := 89) hx hb d_M_best_85 (by decide) ?_
                refine lv_istore (lv' := [(5, .int 1), (4, .int 1), (3, .int (nI x.2.1)), (2, .int (nI y.2.1)), (0, .ref hm), (1, .int (nI n))]) hx hb d_M_best_89 hl (by decide) rfl (fun ls hl => ?_)
                refine lv_iload hx hb d_M_best_91 (lv_at hl 1 rfl) ?_
                refine lv_if_eq (tgt := 105) hx hb d_M_best_93 (by decide) (fun c_93 => ?_) (fun c_93 => ?_)
                · exact absurd c_93 (by decide)
                · refine lv_iload hx hb d_M_best_96 (lv_at hl 0 rfl) ?_
                  refine lv_if_eq (tgt := 105) hx hb d_M_best_98 (by decide) (fun c_98 => ?_) (fun c_98 => ?_)
                  · exact absurd c_98 (by decide)
                  · refine lv_iload_n hx hb d_M_best_101 rfl (lv_at hl 2 rfl) ?_
                    refine lv_goto (tgt := 106) hx hb d_M_best_102 (by decide) ?_
                    refine lv_istore_n (lv' := [(2, .int (nI x.2.1)), (5, .int 1), (4, .int 1), (3, .int (nI x.2.1)), (0, .ref hm), (1, .int (nI n))]) hx hb d_M_best_106 rfl hl (by decide) rfl (fun ls hl => ?_)
                    refine lv_iload_n hx hb d_M_best_107 rfl (lv_at hl 3 rfl) ?_
                    refine lv_aload_n hx hb d_M_best_108 rfl (lv_at hl 4 rfl) ?_
                    refine lv_iload_n hx hb d_M_best_109 rfl (lv_at hl 3 rfl) ?_
                    refine vp_callSi (va_runV (As := [.int (nI x.2.1)]) (rest := [.int (nI x.2.1)]) ⟨hx, hb, hml, hown, hg⟩ (c_M_length l D ty hm qs qt qm cI cJ cZ th cn nw v w z hd za ta ka x.2.1 t0 t1 t2 hb9) (cwV 1 hg (gw_V gw_409 gw_411 gw_20 gw_28 gw_412) rfl rfl rfl (by decide +kernel) ⟨Nat.le_of_ble_eq_true rfl, Nat.le_of_ble_eq_true rfl⟩) (pre_roV hP hK hN (ci := 2) (k := 0) rfl rfl) rfl rfl hl.1 rfl (lv_room (Nat.le_of_ble_eq_true rfl)) d_M_best_110 ⟨Nat.le_of_ble_eq_true rfl, Nat.le_of_ble_eq_true rfl⟩).run (fun r6 hr6 => ?_)
                    replace hr6 : r6 = nI x.2.2.1 := by rw [hr6, hx1, lenF_x hn1 hn2]
                    subst hr6
                    refine lv_iadd hx hb d_M_best_113 ?_
                    refine lv_topi (fun y22 ey22 => ?_)
                    obtain rfl : y22 = nI (x.2.1 + x.2.2.1) := ey22.trans (nI_add _ _)
                    clear ey22
                    refine lv_istore_n (lv' := [(3, .int (nI (x.2.1 + x.2.2.1))), (2, .int (nI x.2.1)), (5, .int 1), (4, .int 1), (0, .ref hm), (1, .int (nI n))]) hx hb d_M_best_114 rfl hl (by decide) rfl (fun ls hl => ?_)
                    refine lv_goto (tgt := 4) hx hb d_M_best_115 (by decide) ?_
                    exact ih ls (some x) (x.2.1 + x.2.2.1) (lv_sub hl [0, 1, 4, 5] rfl) ⟨pre ++ [x], by rw [hpre, List.append_assoc]; rfl⟩ hd3 (by rw [hq, wtf, if_pos (by simp [wtfC, show isFT x = true from (szV_m3 hn1 hn2).mp (Int32.not_lt.mp c_20), show n ≤ x.2.2.1 from Nat.not_lt.mp (fun h9 => c_29 ((nI_ltI hn2 hn).mpr h9)), show befo x y = true from by have h9 := (nI_ltI hn2 yhn2).mp c_53; simp [befo, Nat.ne_of_lt h9, h9]])]) (fun y9 h9 => by cases h9; exact ⟨hxL, (by have h9 := (szV_m3 hn1 hn2).mp (Int32.not_lt.mp c_20); unfold isFT at h9; cases hu : x.2.2.2.1; rfl; rw [hu] at h9; simp at h9)⟩)
              · refine lv_aload_n hx hb d_M_best_56 rfl (lv_at hl 3 rfl) ?_
                refine lv_iload_n hx hb d_M_best_57 rfl (lv_at hl 1 rfl) ?_
                refine vp_callSi (va_runV (As := [.int (nI x.2.1)]) (rest := []) ⟨hx, hb, hml, hown, hg⟩ (c_M_length l D ty hm qs qt qm cI cJ cZ th cn nw v w z hd za ta ka x.2.1 t0 t1 t2 hb9) (cwV 1 hg (gw_V gw_409 gw_411 gw_20 gw_28 gw_412) rfl rfl rfl (by decide +kernel) ⟨Nat.le_of_ble_eq_true rfl, Nat.le_of_ble_eq_true rfl⟩) (pre_roV hP hK hN (ci := 2) (k := 0) rfl rfl) rfl rfl hl.1 rfl (lv_room (Nat.le_of_ble_eq_true rfl)) d_M_best_58 ⟨Nat.le_of_ble_eq_true rfl, Nat.le_of_ble_eq_true rfl⟩).run (fun r4 hr4 => ?_)
                replace hr4 : r4 = nI x.2.2.1 := by rw [hr4, hx1, lenF_x hn1 hn2]
                subst hr4
                refine lv_aload_n hx hb d_M_best_61 rfl (lv_at hl 3 rfl) ?_
                refine lv_iload_n hx hb d_M_best_62 rfl (lv_at hl 2 rfl) ?_
                refine vp_callSi (va_runV (As := [.int (nI y.2.1)]) (rest := [.int (nI x.2.2.1)]) ⟨hx, hb, hml, hown, hg⟩ (c_M_length l D ty hm qs qt qm cI cJ cZ th cn nw v w z hd za ta ka y.2.1 t0 t1 t2 yhb9) (cwV 1 hg (gw_V gw_409 gw_411 gw_20 gw_28 gw_412) rfl rfl rfl (by decide +kernel) ⟨Nat.le_of_ble_eq_true rfl, Nat.le_of_ble_eq_true rfl⟩) (pre_roV hP hK hN (ci := 2) (k := 0) rfl rfl) rfl rfl hl.1 rfl (lv_room (Nat.le_of_ble_eq_true rfl)) d_M_best_63 ⟨Nat.le_of_ble_eq_true rfl, Nat.le_of_ble_eq_true rfl⟩).run (fun r5 hr5 => ?_)
                replace hr5 : r5 = nI y.2.2.1 := by rw [hr5, yhx1, lenF_x yhn1 yhn2]
                subst hr5
                refine lv_icmp_ne (tgt := 88) hx hb d_M_best_66 (by decide) (fun c_66 => ?_) (fun c_66 => ?_)
                · refine lv_iconst (v := 0) hx hb d_M_best_88 (by decide) ?_
                  refine lv_istore (lv' := [(5, .int 0), (4, .int 1), (3, .int (nI x.2.1)), (2, .int (nI y.2.1)), (0, .ref hm), (1, .int (nI n))]) hx hb d_M_best_89 hl (by decide) rfl (fun ls hl => ?_)
                  refine lv_iload hx hb d_M_best_91 (lv_at hl 1 rfl) ?_
                  refine lv_if_eq (tgt := 105) hx hb d_M_best_93 (by decide) (fun c_93 => ?_) (fun c_93 => ?_)
                  · exact absurd c_93 (by decide)
                  · refine lv_iload hx hb d_M_best_96 (lv_at hl 0 rfl) ?_
                    refine lv_if_eq (tgt := 105) hx hb d_M_best_98 (by decide) (fun c_98 => ?_) (fun c_98 => ?_)
                    · refine lv_iload_n hx hb d_M_best_105 rfl (lv_at hl 3 rfl) ?_
                      refine lv_istore_n (lv' := [(2, .int (nI y.2.1)), (5, .int 0), (4, .int 1), (3, .int (nI x.2.1)), (0, .ref hm), (1, .int (nI n))]) hx hb d_M_best_106 rfl hl (by decide) rfl (fun ls hl => ?_)
                      refine lv_iload_n hx hb d_M_best_107 rfl (lv_at hl 3 rfl) ?_
                      refine lv_aload_n hx hb d_M_best_108 rfl (lv_at hl 4 rfl) ?_
                      refine lv_iload_n hx hb d_M_best_109 rfl (lv_at hl 3 rfl) ?_
                      refine vp_callSi (va_runV (As := [.int (nI x.2.1)]) (rest := [.int (nI x.2.1)]) ⟨hx, hb, hml, hown, hg⟩ (c_M_length l D ty hm qs qt qm cI cJ cZ th cn nw v w z hd za ta ka x.2.1 t0 t1 t2 hb9) (cwV 1 hg (gw_V gw_409 gw_411 gw_20 gw_28 gw_412) rfl rfl rfl (by decide +kernel) ⟨Nat.le_of_ble_eq_true rfl, Nat.le_of_ble_eq_true rfl⟩) (pre_roV hP hK hN (ci := 2) (k := 0) rfl rfl) rfl rfl hl.1 rfl (lv_room (Nat.le_of_ble_eq_true rfl)) d_M_best_110 ⟨Nat.le_of_ble_eq_true rfl, Nat.le_of_ble_eq_true rfl⟩).run (fun r6 hr6 => ?_)
                      replace hr6 : r6 = nI x.2.2.1 := by rw [hr6, hx1, lenF_x hn1 hn2]
                      subst hr6
                      refine lv_iadd hx hb d_M_best_113 ?_
                      refine lv_topi (fun y23 ey23 => ?_)
                      obtain rfl : y23 = nI (x.2.1 + x.2.2.1) := ey23.trans (nI_add _ _)
                      clear ey23
                      refine lv_istore_n (lv' := [(3, .int (nI (x.2.1 + x.2.2.1))), (2, .int (nI y.2.1)), (5, .int 0), (4, .int 1), (0, .ref hm), (1, .int (nI n))]) hx hb d_M_best_114 rfl hl (by decide) rfl (fun ls hl => ?_)
                      refine lv_goto (tgt := 4) hx hb d_M_best_115 (by decide) ?_
                      exact ih ls (some y) (x.2.1 + x.2.2.1) (lv_sub hl [0, 1, 4, 5] rfl) ⟨pre ++ [x], by rw [hpre, List.append_assoc]; rfl⟩ hd3 (by rw [hq, wtf, if_neg (by simp [wtfC, show befo x y = false from by have h9 := Nat.not_lt.mp (fun h9 => c_53 ((nI_ltI hn2 yhn2).mpr h9)); have h8 : ¬ x.2.2.1 = y.2.2.1 := (fun h8 => c_66 (by rw [h8])); simp [befo, h8, Nat.not_lt.mpr h9]])]) hm9
                    · exact absurd rfl c_98
                · refine lv_aload_n hx hb d_M_best_69 rfl (lv_at hl 3 rfl) ?_
                  refine va_get (D := D) (ci := 2) (v := .ref qt) (C := R_M) (T := F_M) (N := 10) hx hb hg gi_M hown hK hP 0 rfl rfl 3 (by decide) (hg _ gw_355) (fun _ h9 => h9) rfl d_M_best_70 ?_
                  refine lv_iload_n hx hb d_M_best_73 rfl (lv_at hl 1 rfl) ?_
                  refine va_iald hx hb hK hP 2 1 rfl t1 (vp_in_nI hb9 (by decide)) d_M_best_74 ?_
                  refine lv_topi (fun y24 ey24 => ?_)
                  obtain rfl : y24 = ta x.2.1 := ey24.trans (congrArg ta (nI_clamp (Nat.lt_trans hb9 (by decide))))
                  clear ey24
                  refine lv_aload_n hx hb d_M_best_75 rfl (lv_at hl 3 rfl) ?_
                  refine va_get (D := D) (ci := 2) (v := .ref qt) (C := R_M) (T := F_M) (N := 10) hx hb hg gi_M hown hK hP 0 rfl rfl 3 (by decide) (hg _ gw_355) (fun _ h9 => h9) rfl d_M_best_76 ?_
                  refine lv_iload_n hx hb d_M_best_79 rfl (lv_at hl 2 rfl) ?_
                  refine va_iald hx hb hK hP 2 1 rfl t1 (vp_in_nI yhb9 (by decide)) d_M_best_80 ?_
                  refine lv_topi (fun y25 ey25 => ?_)
                  obtain rfl : y25 = ta y.2.1 := ey25.trans (congrArg ta (nI_clamp (Nat.lt_trans yhb9 (by decide))))
                  clear ey25
                  refine lv_topi (fun y26 ey26 => ?_)
                  obtain rfl : y26 = nI Ty := ey26.trans hTy1
                  clear ey26
                  refine lv_icmp_le (tgt := 88) hx hb d_M_best_81 (by decide) (fun c_81 => ?_) (fun c_81 => ?_)
                  · refine lv_iconst (v := 0) hx hb d_M_best_88 (by decide) ?_
                    refine lv_istore (lv' := [(5, .int 0), (4, .int 1), (3, .int (nI x.2.1)), (2, .int (nI y.2.1)), (0, .ref hm), (1, .int (nI n))]) hx hb d_M_best_89 hl (by decide) rfl (fun ls hl => ?_)
                    refine lv_iload hx hb d_M_best_91 (lv_at hl 1 rfl) ?_
                    refine lv_if_eq (tgt := 105) hx hb d_M_best_93 (by decide) (fun c_93 => ?_) (fun c_93 => ?_)
                    · exact absurd c_93 (by decide)
                    · refine lv_iload hx hb d_M_best_96 (lv_at hl 0 rfl) ?_
                      refine lv_if_eq (tgt := 105) hx hb d_M_best_98 (by decide) (fun c_98 => ?_) (fun c_98 => ?_)
                      · refine lv_iload_n hx hb d_M_best_105 rfl (lv_at hl 3 rfl) ?_
                        refine lv_istore_n (lv' := [(2, .int (nI y.2.1)), (5, .int 0), (4, .int 1), (3, .int (nI x.2.1)), (0, .ref hm), (1, .int (nI n))]) hx hb d_M_best_106 rfl hl (by decide) rfl (fun ls hl => ?_)
                        refine lv_iload_n hx hb d_M_best_107 rfl (lv_at hl 3 rfl) ?_
                        refine lv_aload_n hx hb d_M_best_108 rfl (lv_at hl 4 rfl) ?_
                        refine lv_iload_n hx hb d_M_best_109 rfl (lv_at hl 3 rfl) ?_
                        refine vp_callSi (va_runV (As := [.int (nI x.2.1)]) (rest := [.int (nI x.2.1)]) ⟨hx, hb, hml, hown, hg⟩ (c_M_length l D ty hm qs qt qm cI cJ cZ th cn nw v w z hd za ta ka x.2.1 t0 t1 t2 hb9) (cwV 1 hg (gw_V gw_409 gw_411 gw_20 gw_28 gw_412) rfl rfl rfl (by decide +kernel) ⟨Nat.le_of_ble_eq_true rfl, Nat.le_of_ble_eq_true rfl⟩) (pre_roV hP hK hN (ci := 2) (k := 0) rfl rfl) rfl rfl hl.1 rfl (lv_room (Nat.le_of_ble_eq_true rfl)) d_M_best_110 ⟨Nat.le_of_ble_eq_true rfl, Nat.le_of_ble_eq_true rfl⟩).run (fun r6 hr6 => ?_)
                        replace hr6 : r6 = nI x.2.2.1 := by rw [hr6, hx1, lenF_x hn1 hn2]
                        subst hr6
                        refine lv_iadd hx hb d_M_best_113 ?_
                        refine lv_topi (fun y27 ey27 => ?_)
                        obtain rfl : y27 = nI (x.2.1 + x.2.2.1) := ey27.trans (nI_add _ _)
                        clear ey27
                        refine lv_istore_n (lv' := [(3, .int (nI (x.2.1 + x.2.2.1))), (2, .int (nI y.2.1)), (5, .int 0), (4, .int 1), (0, .ref hm), (1, .int (nI n))]) hx hb d_M_best_114 rfl hl (by decide) rfl (fun ls hl => ?_)
                        refine lv_goto (tgt := 4) hx hb d_M_best_115 (by decide) ?_
                        exact ih ls (some y) (x.2.1 + x.2.2.1) (lv_sub hl [0, 1, 4, 5] rfl) ⟨pre ++ [x], by rw [hpre, List.append_assoc]; rfl⟩ hd3 (by rw [hq, wtf, if_neg (by simp [wtfC, show befo x y = false from by have h8 : x.2.2.1 = y.2.2.1 := (nI_eq hn2 yhn2).mp c_66; obtain ⟨Tx, hTx1, hTx2, hTx3⟩ := hx3 (by have h9 := (szV_m3 hn1 hn2).mp (Int32.not_lt.mp c_20); unfold isFT at h9; cases hu : x.2.2.2.1; rfl; rw [hu] at h9; simp at h9); rw [hTx1] at c_81; have h7 := (nI_leI (by omega) (by omega)).mp c_81; simp [befo, h8]; omega])]) hm9
                      · exact absurd rfl c_98
                  · refine lv_iconst (v := 1) hx hb d_M_best_84 (by decide) ?_
                    refine lv_goto (tgt := 89) hx hb d_M_best_85 (by decide) ?_
                    refine lv_istore (lv' := [(5, .int 1), (4, .int 1), (3, .int (nI x.2.1)), (2, .int (nI y.2.1)), (0, .ref hm), (1, .int (nI n))]) hx hb d_M_best_89 hl (by decide) rfl (fun ls hl => ?_)
                    refine lv_iload hx hb d_M_best_91 (lv_at hl 1 rfl) ?_
                    refine lv_if_eq (tgt := 105) hx hb d_M_best_93 (by decide) (fun c_93 => ?_) (fun c_93 => ?_)
                    · exact absurd c_93 (by decide)
                    · refine lv_iload hx hb d_M_best_96 (lv_at hl 0 rfl) ?_
                      refine lv_if_eq (tgt := 105) hx hb d_M_best_98 (by decide) (fun c_98 => ?_) (fun c_98 => ?_)
                      · exact absurd c_98 (by decide)
                      · refine lv_iload_n hx hb d_M_best_101 rfl (lv_at hl 2 rfl) ?_
                        refine lv_goto (tgt := 106) hx hb d_M_best_102 (by decide) ?_
                        refine lv_istore_n (lv' := [(2, .int (nI x.2.1)), (5, .int 1), (4, .int 1), (3, .int (nI x.2.1)), (0, .ref hm), (1, .int (nI n))]) hx hb d_M_best_106 rfl hl (by decide) rfl (fun ls hl => ?_)
                        refine lv_iload_n hx hb d_M_best_107 rfl (lv_at hl 3 rfl) ?_
                        refine lv_aload_n hx hb d_M_best_108 rfl (lv_at hl 4 rfl) ?_
                        refine lv_iload_n hx hb d_M_best_109 rfl (lv_at hl 3 rfl) ?_
                        refine vp_callSi (va_runV (As := [.int (nI x.2.1)]) (rest := [.int (nI x.2.1)]) ⟨hx, hb, hml, hown, hg⟩ (c_M_length l D ty hm qs qt qm cI cJ cZ th cn nw v w z hd za ta ka x.2.1 t0 t1 t2 hb9) (cwV 1 hg (gw_V gw_409 gw_411 gw_20 gw_28 gw_412) rfl rfl rfl (by decide +kernel) ⟨Nat.le_of_ble_eq_true rfl, Nat.le_of_ble_eq_true rfl⟩) (pre_roV hP hK hN (ci := 2) (k := 0) rfl rfl) rfl rfl hl.1 rfl (lv_room (Nat.le_of_ble_eq_true rfl)) d_M_best_110 ⟨Nat.le_of_ble_eq_true rfl, Nat.le_of_ble_eq_true rfl⟩).run (fun r6 hr6 => ?_)
                        replace hr6 : r6 = nI x.2.2.1 := by rw [hr6, hx1, lenF_x hn1 hn2]
                        subst hr6
                        refine lv_iadd hx hb d_M_best_113 ?_
                        refine lv_topi (fun y28 ey28 => ?_)
                        obtain rfl : y28 = nI (x.2.1 + x.2.2.1) := ey28.trans (nI_add _ _)
                        clear ey28
                        refine lv_istore_n (lv' := [(3, .int (nI (x.2.1 + x.2.2.1))), (2, .int (nI x.2.1)), (5, .int 1), (4, .int 1), (0, .ref hm), (1, .int (nI n))]) hx hb d_M_best_114 rfl hl (by decide) rfl (fun ls hl => ?_)
                        refine lv_goto (tgt := 4) hx hb d_M_best_115 (by decide) ?_
                        exact ih ls (some x) (x.2.1 + x.2.2.1) (lv_sub hl [0, 1, 4, 5] rfl) ⟨pre ++ [x], by rw [hpre, List.append_assoc]; rfl⟩ hd3 (by rw [hq, wtf, if_pos (by simp [wtfC, show isFT x = true from (szV_m3 hn1 hn2).mp (Int32.not_lt.mp c_20), show n ≤ x.2.2.1 from Nat.not_lt.mp (fun h9 => c_29 ((nI_ltI hn2 hn).mpr h9)), show befo x y = true from by have h8 : x.2.2.1 = y.2.2.1 := (nI_eq hn2 yhn2).mp c_66; obtain ⟨Tx, hTx1, hTx2, hTx3⟩ := hx3 (by have h9 := (szV_m3 hn1 hn2).mp (Int32.not_lt.mp c_20); unfold isFT at h9; cases hu : x.2.2.2.1; rfl; rw [hu] at h9; simp at h9); rw [hTx1] at c_81; have h7 := Nat.not_le.mp (fun h7 => c_81 ((nI_leI (by omega) (by omega)).mpr h7)); simp [befo, h8]; omega])]) (fun y9 h9 => by cases h9; exact ⟨hxL, (by have h9 := (szV_m3 hn1 hn2).mp (Int32.not_lt.mp c_20); unfold isFT at h9; cases hu : x.2.2.2.1; rfl; rw [hu] at h9; simp at h9)⟩)
