set_option maxHeartbeats 4000000 in
set_option maxRecDepth 100000 in
theorem c_M_begin (l : Launch) (D : va_G) (ty : tyL) (N0 sz : Nat) (hm qs qt qm : Nat) (cI cJ cZ : ClassId) (th : Int32) (cn nw : Nat) (v w z : Int32) (hd : Nat) (za ta ka : Nat → Int32)  (t0 : ty[0]? = some (cI, .int)) (t1 : ty[1]? = some (cJ, .int)) (t2 : ty[2]? = some (cZ, .boolean)) (hh : hd < 2 ^ 31) : Met l y_M_begin (Cond.code y_M_begin b_M_begin 1 none :: GW) ({ frames := 1, cells := 0, slots := 0, locals := 22 }) (va_Pc [.ref hm] (at1 D ty N0 sz (mW hm qs qt qm cI cJ cZ th cn nw v w z hd za ta ka))) (va_Qv (fun ws' => (hd = 0 ∧ ws' = mW hm qs qt qm cI cJ cZ 0 cn nw v w z 1 za ta ka) ∨ (¬ hd = 0 ∧ ws' = mW hm qs qt qm cI cJ cZ 1 cn nw v w z hd za ta ka)) (at2 D ty (va_A (mW hm qs qt qm cI cJ cZ th cn nw v w z hd za ta ka) sz)) (va_A (mW hm qs qt qm cI cJ cZ th cn nw v w z hd za ta ka) sz)) 0 0 (va_A (mW hm qs qt qm cI cJ cZ th cn nw v w z hd za ta ka) sz) := by
  refine Met.ofW (cc := b_M_begin) (maxL := 1) (ret := none) (by decide) rfl ?_
  intro p e s m args below meth c s₁ B hml hv
  obtain ⟨rfl, hsz, hN0, ⟨hP, hK, hN⟩, hD0, hE⟩ := hv
  subst hsz
  have hD := hD0.self (sz := s.heap.size)
  have hAN := sw_AN hD0 hN0
  generalize hAe : va_A (mW hm qs qt qm cI cJ cZ th cn nw v w z hd za ta ka) s.heap.size = A at hD hAN ⊢
  have hA : ∀ q : Nat, s.heap.size ≤ q → A q := fun q h => by rw [← hAe]; exact Or.inr h
  have hS : va_S A s.heap s.heap [] := va_S.rf
  have hP : va_P D classes (mW hm qs qt qm cI cJ cZ th cn nw v w z hd za ta ka) s.heap := hP
  have hx := B.exec
  have hb := B.bytes
  have hr := B.returns
  have hg : ∀ w ∈ GW, w.before _ s = true := fun w h => atoms_spec (ws := Cond.code y_M_begin b_M_begin 1 none :: GW) B.pre w (List.mem_cons_of_mem _ h)
  have hown : s.vm.findClass R_M = some m.cls := findClass_of_methodNamed B.named
  have hlocks := B.notSynchronized
  have hl := lv_entry ([.ref hm]) (n := 1) (Nat.le_of_ble_eq_true rfl)
  rw [lg_entry_eq]
  generalize (lg_sl ([.ref hm]) ++ List.replicate (1 - (lg_sl ([.ref hm])).length) Slot.unset).toArray = ls at hl ⊢
  replace hl : lv_has ls 1 [(0, .ref hm)] := hl
  replace hP : va_P D classes [(hm, .inr (2, [.int th, .int (nI cn), .ref qs, .ref qt, .ref qm, .int (nI nw), .int v, .int w, .int z, .int (nI hd)])), (qs, .inl (cI, 16386, .inl za)), (qt, .inl (cJ, 16386, .inl ta)), (qm, .inl (cZ, 16386, .inl ka))] _ := hP
  replace hD : va_D A [(hm, .inr (2, [.int th, .int (nI cn), .ref qs, .ref qt, .ref qm, .int (nI nw), .int v, .int w, .int z, .int (nI hd)])), (qs, .inl (cI, 16386, .inl za)), (qt, .inl (cJ, 16386, .inl ta)), (qm, .inl (cZ, 16386, .inl ka))] := hD
  refine lv_aload_n hx hb d_M_begin_0 rfl (lv_at hl 0 rfl) ?_
  refine lv_aload_n hx hb d_M_begin_1 rfl (lv_at hl 0 rfl) ?_
  refine va_get (D := D) (ci := 2) (v := .int (nI hd)) (C := R_M) (T := F_M) (N := 10) hx hb hg gi_M hown hK hP 0 rfl rfl 9 (by decide) (hg _ gw_361) (fun _ h9 => h9) rfl d_M_begin_2 ?_
  refine lv_if_ne (tgt := 12) hx hb d_M_begin_5 (by decide) (fun c_5 => ?_) (fun c_5 => ?_)
  · refine lv_iconst (v := 0) hx hb d_M_begin_12 (by decide) ?_
    refine lv_iconst (v := 1) hx hb d_M_begin_13 (by decide) ?_
    have hFc := sw_free hD hS hA
    refine va_calli (va_runV (As := [.int 0, .int 1]) (rest := []) ⟨hx, hb, hml, hown, hg⟩ (c_M_goes l D ty N0 _ hm qs qt qm cI cJ cZ th cn nw v w z hd za ta ka false true t0 t1 t2) (cwV 2 hg (gw_V gw_393 gw_395 gw_17 gw_28 gw_396) rfl rfl rfl (by decide +kernel) ⟨Nat.le_of_ble_eq_true rfl, Nat.le_of_ble_eq_true rfl⟩) (pre_wrV hP hK hN hD hS hAN hN0 hE (ci := 2) (k := 0) rfl rfl) rfl rfl hl.1 rfl (lv_room (Nat.le_of_ble_eq_true rfl)) d_M_begin_14 ⟨Nat.le_of_ble_eq_true rfl, Nat.le_of_ble_eq_true rfl⟩) hS (fun q _ h => hFc q h) hFc (fun r_ u t H locs ht hvm hw hB hz1 hk1 hS => ?_)
    obtain ⟨hP, hK1, hD1⟩ := hB
    rw [ht] at hP
    have hD := hD1.weaken (fun _ _ _ h => hFc _ h)
    clear hK1 hD1 hFc hk1 hz1
    obtain ⟨rfl, rfl⟩ := hw
    replace hP : va_P D classes [(hm, .inr (2, [.int (goT false true), .int (nI cn), .ref qs, .ref qt, .ref qm, .int (nI nw), .int v, .int w, .int z, .int (nI hd)])), (qs, .inl (cI, 16386, .inl za)), (qt, .inl (cJ, 16386, .inl ta)), (qm, .inl (cZ, 16386, .inl ka))] _ := hP
    replace hD : va_D A [(hm, .inr (2, [.int (goT false true), .int (nI cn), .ref qs, .ref qt, .ref qm, .int (nI nw), .int v, .int w, .int z, .int (nI hd)])), (qs, .inl (cI, 16386, .inl za)), (qt, .inl (cJ, 16386, .inl ta)), (qm, .inl (cZ, 16386, .inl ka))] := hD
    refine lv_if_eq (tgt := 25) hx hb d_M_begin_17 (by decide) (fun c_17 => ?_) (fun c_17 => ?_)
    · refine W.widen (k := 0) (n := 0) (Nat.le_of_ble_eq_true rfl) (Nat.le_of_ble_eq_true rfl) ?_
      exact W.vret hx hb hr (fun t ht hW => ⟨⟨_, rfl, (Or.inr ⟨fun h9 => c_5 (by rw [h9]; exact nI_0), rfl⟩), at2.of hP hK hD ht hW⟩, hS.F ht⟩) hS.2.2 d_M_begin_25
    · exact absurd rfl c_17
  · refine lv_iconst (v := 1) hx hb d_M_begin_8 (by decide) ?_
    refine lv_goto (tgt := 13) hx hb d_M_begin_9 (by decide) ?_
    refine lv_iconst (v := 1) hx hb d_M_begin_13 (by decide) ?_
    have hFc := sw_free hD hS hA
    refine va_calli (va_runV (As := [.int 1, .int 1]) (rest := []) ⟨hx, hb, hml, hown, hg⟩ (c_M_goes l D ty N0 _ hm qs qt qm cI cJ cZ th cn nw v w z hd za ta ka true true t0 t1 t2) (cwV 2 hg (gw_V gw_393 gw_395 gw_17 gw_28 gw_396) rfl rfl rfl (by decide +kernel) ⟨Nat.le_of_ble_eq_true rfl, Nat.le_of_ble_eq_true rfl⟩) (pre_wrV hP hK hN hD hS hAN hN0 hE (ci := 2) (k := 0) rfl rfl) rfl rfl hl.1 rfl (lv_room (Nat.le_of_ble_eq_true rfl)) d_M_begin_14 ⟨Nat.le_of_ble_eq_true rfl, Nat.le_of_ble_eq_true rfl⟩) hS (fun q _ h => hFc q h) hFc (fun r_ u t H locs ht hvm hw hB hz1 hk1 hS => ?_)
    obtain ⟨hP, hK1, hD1⟩ := hB
    rw [ht] at hP
    have hD := hD1.weaken (fun _ _ _ h => hFc _ h)
    clear hK1 hD1 hFc hk1 hz1
    obtain ⟨rfl, rfl⟩ := hw
    replace hP : va_P D classes [(hm, .inr (2, [.int (goT true true), .int (nI cn), .ref qs, .ref qt, .ref qm, .int (nI nw), .int v, .int w, .int z, .int (nI hd)])), (qs, .inl (cI, 16386, .inl za)), (qt, .inl (cJ, 16386, .inl ta)), (qm, .inl (cZ, 16386, .inl ka))] _ := hP
    replace hD : va_D A [(hm, .inr (2, [.int (goT true true), .int (nI cn), .ref qs, .ref qt, .ref qm, .int (nI nw), .int v, .int w, .int z, .int (nI hd)])), (qs, .inl (cI, 16386, .inl za)), (qt, .inl (cJ, 16386, .inl ta)), (qm, .inl (cZ, 16386, .inl ka))] := hD
    refine lv_if_eq (tgt := 25) hx hb d_M_begin_17 (by decide) (fun c_17 => ?_) (fun c_17 => ?_)
    · exact absurd c_17 (by decide)
    · refine lv_aload_n hx hb d_M_begin_20 rfl (lv_at hl 0 rfl) ?_
      refine lv_iconst (v := 1) hx hb d_M_begin_21 (by decide) ?_
      refine va_put (D := D) (ci := 2) (v := .int 1) (ty := .int) (C := R_M) (T := F_M) (N := 10) hx hb hg gi_M t_M t_M_ok n_M hown hK hP hD hS 0 rfl rfl 9 (by decide) (hg _ gw_361) (fun _ h9 => h9) rfl (by decide +kernel) rfl rfl (Nat.le_of_ble_eq_true rfl) d_M_begin_22 (fun H locs hP hD hS => ?_)
      replace hP : va_P D classes [(hm, .inr (2, [.int (goT true true), .int (nI cn), .ref qs, .ref qt, .ref qm, .int (nI nw), .int v, .int w, .int z, .int 1])), (qs, .inl (cI, 16386, .inl za)), (qt, .inl (cJ, 16386, .inl ta)), (qm, .inl (cZ, 16386, .inl ka))] _ := hP
      replace hD : va_D A [(hm, .inr (2, [.int (goT true true), .int (nI cn), .ref qs, .ref qt, .ref qm, .int (nI nw), .int v, .int w, .int z, .int 1])), (qs, .inl (cI, 16386, .inl za)), (qt, .inl (cJ, 16386, .inl ta)), (qm, .inl (cZ, 16386, .inl ka))] := hD
      refine W.widen (k := 0) (n := 0) (Nat.le_of_ble_eq_true rfl) (Nat.le_of_ble_eq_true rfl) ?_
      exact W.vret hx hb hr (fun t ht hW => ⟨⟨_, rfl, (Or.inl ⟨by rw [← nI_0] at c_5; exact (nI_eq hh (by decide)).mp c_5, rfl⟩), at2.of hP hK hD ht hW⟩, hS.F ht⟩) hS.2.2 d_M_begin_25
set_option maxHeartbeats 4000000 in
set_option maxRecDepth 100000 in
theorem c_M_give (l : Launch) (D : va_G) (ty : tyL) (N0 sz : Nat) (hm qs qt qm : Nat) (cI cJ cZ : ClassId) (th : Int32) (cn nw : Nat) (v w z : Int32) (hd : Nat) (za ta ka : Nat → Int32) (a : Int32) (L : List AP) (f : Nat) (hI : Inv cn f nw L za ta ka) (t0 : ty[0]? = some (cI, .int)) (t1 : ty[1]? = some (cJ, .int)) (t2 : ty[2]? = some (cZ, .boolean)) (hnw : nw + 1 < 2 ^ 30) : Met l y_M_give (Cond.code y_M_give b_M_give 3 (some .int) :: GW) ({ frames := 1, cells := 0, slots := 0, locals := 22 }) (va_Pc [.ref hm, .int a] (at1 D ty N0 sz (mW hm qs qt qm cI cJ cZ th cn nw v w z hd za ta ka))) (va_Qi (fun r ws' => (uAt a L = none ∧ r = 0 ∧ ws' = mW hm qs qt qm cI cJ cZ 1 cn nw v w z hd za ta ka) ∨ ∃ x, uAt a L = some x ∧ r = nI x.2.2.1 ∧ ∃ za' ta' ka', ws' = mW hm qs qt qm cI cJ cZ 0 cn (nw + 1) v w z hd za' ta' ka' ∧ ∀ l1 l2, L = l1 ++ x :: l2 → Inv cn (f + 1) (nw + 1) (l1 ++ (x.1, x.2.1, x.2.2.1, false, false, f + 1) :: l2) za' ta' ka') (at2 D ty (va_A (mW hm qs qt qm cI cJ cZ th cn nw v w z hd za ta ka) sz)) (va_A (mW hm qs qt qm cI cJ cZ th cn nw v w z hd za ta ka) sz)) 0 0 (va_A (mW hm qs qt qm cI cJ cZ th cn nw v w z hd za ta ka) sz) := by
  refine Met.ofW (cc := b_M_give) (maxL := 3) (ret := (some .int)) (by decide) rfl ?_
  intro p e s m args below meth c s₁ B hml hv
  obtain ⟨rfl, hsz, hN0, ⟨hP, hK, hN⟩, hD0, hE⟩ := hv
  subst hsz
  have hD := hD0.self (sz := s.heap.size)
  have hAN := sw_AN hD0 hN0
  generalize hAe : va_A (mW hm qs qt qm cI cJ cZ th cn nw v w z hd za ta ka) s.heap.size = A at hD hAN ⊢
  have hA : ∀ q : Nat, s.heap.size ≤ q → A q := fun q h => by rw [← hAe]; exact Or.inr h
  have hS : va_S A s.heap s.heap [] := va_S.rf
  have hP : va_P D classes (mW hm qs qt qm cI cJ cZ th cn nw v w z hd za ta ka) s.heap := hP
  have hx := B.exec
  have hb := B.bytes
  have hr := B.returns
  have hg : ∀ w ∈ GW, w.before _ s = true := fun w h => atoms_spec (ws := Cond.code y_M_give b_M_give 3 (some .int) :: GW) B.pre w (List.mem_cons_of_mem _ h)
  have hown : s.vm.findClass R_M = some m.cls := findClass_of_methodNamed B.named
  have hlocks := B.notSynchronized
  have hl := lv_entry ([.ref hm, .int a]) (n := 3) (Nat.le_of_ble_eq_true rfl)
  rw [lg_entry_eq]
  generalize (lg_sl ([.ref hm, .int a]) ++ List.replicate (3 - (lg_sl ([.ref hm, .int a])).length) Slot.unset).toArray = ls at hl ⊢
  replace hl : lv_has ls 3 [(0, .ref hm), (1, .int a)] := hl
  replace hP : va_P D classes [(hm, .inr (2, [.int th, .int (nI cn), .ref qs, .ref qt, .ref qm, .int (nI nw), .int v, .int w, .int z, .int (nI hd)])), (qs, .inl (cI, 16386, .inl za)), (qt, .inl (cJ, 16386, .inl ta)), (qm, .inl (cZ, 16386, .inl ka))] _ := hP
  replace hD : va_D A [(hm, .inr (2, [.int th, .int (nI cn), .ref qs, .ref qt, .ref qm, .int (nI nw), .int v, .int w, .int z, .int (nI hd)])), (qs, .inl (cI, 16386, .inl za)), (qt, .inl (cJ, 16386, .inl ta)), (qm, .inl (cZ, 16386, .inl ka))] := hD
  have hcn := hI.2.2.1
  refine lv_aload_n hx hb d_M_give_0 rfl (lv_at hl 0 rfl) ?_
  refine lv_aload_n hx hb d_M_give_1 rfl (lv_at hl 0 rfl) ?_
  refine lv_iload_n hx hb d_M_give_2 rfl (lv_at hl 1 rfl) ?_
  refine vp_callSi (va_runV (As := [.int a]) (rest := [.ref hm]) ⟨hx, hb, hml, hown, hg⟩ (c_M_used l D ty hm qs qt qm cI cJ cZ th cn nw v w z hd za ta ka a t0 t1 t2 hcn) (cwV 1 hg (gw_V gw_417 gw_419 gw_21 gw_28 gw_420) rfl rfl rfl (by decide +kernel) ⟨Nat.le_of_ble_eq_true rfl, Nat.le_of_ble_eq_true rfl⟩) (pre_roV hP hK hN (ci := 2) (k := 0) rfl rfl) rfl rfl hl.1 rfl (lv_room (Nat.le_of_ble_eq_true rfl)) d_M_give_3 ⟨Nat.le_of_ble_eq_true rfl, Nat.le_of_ble_eq_true rfl⟩).run (fun r1 hr1 => ?_)
  rw [inv_usd hI] at hr1
  obtain ⟨ou, huo⟩ : ∃ q, q = uAt a L := ⟨_, rfl⟩
  rcases ou with _ | x
  · have hux := huo.symm
    clear huo
    rw [hux] at hr1
    replace hr1 : r1 = bI false := hr1
    subst hr1
    refine lv_iconst (v := 1) hx hb d_M_give_6 (by decide) ?_
    have hFc := sw_free hD hS hA
    refine va_calli (va_runV (As := [.int (bI false), .int 1]) (rest := []) ⟨hx, hb, hml, hown, hg⟩ (c_M_goes l D ty N0 _ hm qs qt qm cI cJ cZ th cn nw v w z hd za ta ka false true t0 t1 t2) (cwV 2 hg (gw_V gw_393 gw_395 gw_17 gw_28 gw_396) rfl rfl rfl (by decide +kernel) ⟨Nat.le_of_ble_eq_true rfl, Nat.le_of_ble_eq_true rfl⟩) (pre_wrV hP hK hN hD hS hAN hN0 hE (ci := 2) (k := 0) rfl rfl) rfl rfl hl.1 rfl (lv_room (Nat.le_of_ble_eq_true rfl)) d_M_give_7 ⟨Nat.le_of_ble_eq_true rfl, Nat.le_of_ble_eq_true rfl⟩) hS (fun q _ h => hFc q h) hFc (fun r_ u t H locs ht hvm hw hB hz1 hk1 hS => ?_)
    obtain ⟨hP, hK1, hD1⟩ := hB
    rw [ht] at hP
    have hD := hD1.weaken (fun _ _ _ h => hFc _ h)
    clear hK1 hD1 hFc hk1 hz1
    obtain ⟨rfl, rfl⟩ := hw
    replace hP : va_P D classes [(hm, .inr (2, [.int (goT false true), .int (nI cn), .ref qs, .ref qt, .ref qm, .int (nI nw), .int v, .int w, .int z, .int (nI hd)])), (qs, .inl (cI, 16386, .inl za)), (qt, .inl (cJ, 16386, .inl ta)), (qm, .inl (cZ, 16386, .inl ka))] _ := hP
    replace hD : va_D A [(hm, .inr (2, [.int (goT false true), .int (nI cn), .ref qs, .ref qt, .ref qm, .int (nI nw), .int v, .int w, .int z, .int (nI hd)])), (qs, .inl (cI, 16386, .inl za)), (qt, .inl (cJ, 16386, .inl ta)), (qm, .inl (cZ, 16386, .inl ka))] := hD
    refine lv_if_ne (tgt := 15) hx hb d_M_give_10 (by decide) (fun c_10 => ?_) (fun c_10 => ?_)
    · exact absurd rfl c_10
    · refine lv_iconst (v := 0) hx hb d_M_give_13 (by decide) ?_
      refine W.widen (k := 0) (n := 0) (Nat.le_of_ble_eq_true rfl) (Nat.le_of_ble_eq_true rfl) ?_
      exact W.iret (v := 0) hx hb hr (fun t ht hW => ⟨⟨_, _, rfl, (Or.inl ⟨hux, rfl, rfl⟩), at2.of hP hK hD ht hW⟩, hS.F ht⟩) hS.2.2 d_M_give_14
  · have hux := huo.symm
    clear huo
    rw [hux] at hr1
    replace hr1 : r1 = bI true := hr1
    subst hr1
    obtain ⟨hxL, hxu, hpa⟩ := uAt_mem hux
    obtain rfl := (pAt_mem hpa).2
    obtain ⟨hx1, hx2, hx3, hb9, hx4, hx5, hn1, hn2, hn3⟩ := hI.x hxL
    have hsv : szV x = nI x.2.2.1 := by unfold szV; rw [hxu]; rfl
    replace hl : lv_has ls 3 [(0, .ref hm), (1, .int (nI x.2.1))] := hl
    refine lv_iconst (v := 1) hx hb d_M_give_6 (by decide) ?_
    have hFc := sw_free hD hS hA
    refine va_calli (va_runV (As := [.int (bI true), .int 1]) (rest := []) ⟨hx, hb, hml, hown, hg⟩ (c_M_goes l D ty N0 _ hm qs qt qm cI cJ cZ th cn nw v w z hd za ta ka true true t0 t1 t2) (cwV 2 hg (gw_V gw_393 gw_395 gw_17 gw_28 gw_396) rfl rfl rfl (by decide +kernel) ⟨Nat.le_of_ble_eq_true rfl, Nat.le_of_ble_eq_true rfl⟩) (pre_wrV hP hK hN hD hS hAN hN0 hE (ci := 2) (k := 0) rfl rfl) rfl rfl hl.1 rfl (lv_room (Nat.le_of_ble_eq_true rfl)) d_M_give_7 ⟨Nat.le_of_ble_eq_true rfl, Nat.le_of_ble_eq_true rfl⟩) hS (fun q _ h => hFc q h) hFc (fun r_ u t H locs ht hvm hw hB hz1 hk1 hS => ?_)
    obtain ⟨hP, hK1, hD1⟩ := hB
    rw [ht] at hP
    have hD := hD1.weaken (fun _ _ _ h => hFc _ h)
    clear hK1 hD1 hFc hk1 hz1
    obtain ⟨rfl, rfl⟩ := hw
    replace hP : va_P D classes [(hm, .inr (2, [.int (goT true true), .int (nI cn), .ref qs, .ref qt, .ref qm, .int (nI nw), .int v, .int w, .int z, .int (nI hd)])), (qs, .inl (cI, 16386, .inl za)), (qt, .inl (cJ, 16386, .inl ta)), (qm, .inl (cZ, 16386, .inl ka))] _ := hP
    replace hD : va_D A [(hm, .inr (2, [.int (goT true true), .int (nI cn), .ref qs, .ref qt, .ref qm, .int (nI nw), .int v, .int w, .int z, .int (nI hd)])), (qs, .inl (cI, 16386, .inl za)), (qt, .inl (cJ, 16386, .inl ta)), (qm, .inl (cZ, 16386, .inl ka))] := hD
    refine lv_if_ne (tgt := 15) hx hb d_M_give_10 (by decide) (fun c_10 => ?_) (fun c_10 => ?_)
    · refine lv_aload_n hx hb d_M_give_15 rfl (lv_at hl 0 rfl) ?_
      refine va_get (D := D) (ci := 2) (v := .ref qs) (C := R_M) (T := F_M) (N := 10) hx hb hg gi_M hown hK hP 0 rfl rfl 2 (by decide) (hg _ gw_354) (fun _ h9 => h9) rfl d_M_give_16 ?_
      refine lv_iload_n hx hb d_M_give_19 rfl (lv_at hl 1 rfl) ?_
      refine va_iald hx hb hK hP 1 0 rfl t0 (vp_in_nI hb9 (by decide)) d_M_give_20 ?_
      refine lv_topi (fun y1 ey1 => ?_)
      obtain rfl : y1 = za x.2.1 := ey1.trans (congrArg za (nI_clamp (Nat.lt_trans hb9 (by decide))))
      clear ey1
      refine lv_topi (fun y2 ey2 => ?_)
      obtain rfl : y2 = nI x.2.2.1 := ey2.trans (hx1.trans hsv)
      clear ey2
      refine lv_istore_n (lv' := [(2, .int (nI x.2.2.1)), (0, .ref hm), (1, .int (nI x.2.1))]) hx hb d_M_give_21 rfl hl (by decide) rfl (fun ls hl => ?_)
      refine lv_aload_n hx hb d_M_give_22 rfl (lv_at hl 1 rfl) ?_
      refine lv_iload_n hx hb d_M_give_23 rfl (lv_at hl 2 rfl) ?_
      refine lv_iload_n hx hb d_M_give_24 rfl (lv_at hl 0 rfl) ?_
      have hFc := sw_free hD hS hA
      refine va_callv (va_runV (As := [.int (nI x.2.1), .int (nI x.2.2.1)]) (rest := []) ⟨hx, hb, hml, hown, hg⟩ (c_M_release l D ty N0 _ hm qs qt qm cI cJ cZ (goT true true) cn nw v w z hd za ta ka x.2.1 (nI x.2.2.1) t0 t1 t2 hb9) (cwV 2 hg (gw_V gw_397 gw_399 gw_18 gw_28 gw_400) rfl rfl rfl (by decide +kernel) ⟨Nat.le_of_ble_eq_true rfl, Nat.le_of_ble_eq_true rfl⟩) (pre_wrV hP hK hN hD hS hAN hN0 hE (ci := 2) (k := 0) rfl rfl) rfl rfl hl.1 rfl (lv_room (Nat.le_of_ble_eq_true rfl)) d_M_give_25 ⟨Nat.le_of_ble_eq_true rfl, Nat.le_of_ble_eq_true rfl⟩) hS (fun q _ h => hFc q h) hFc (fun u t H locs ht hvm hw hB hz1 hk1 hS => ?_)
      obtain ⟨hP, hK1, hD1⟩ := hB
      rw [ht] at hP
      have hD := hD1.weaken (fun _ _ _ h => hFc _ h)
      clear hK1 hD1 hFc hk1 hz1
      subst hw
      refine lv_iload_n hx hb d_M_give_28 rfl (lv_at hl 0 rfl) ?_
      refine W.widen (k := 0) (n := 0) (Nat.le_of_ble_eq_true rfl) (Nat.le_of_ble_eq_true rfl) ?_
      exact W.iret (v := (nI x.2.2.1)) hx hb hr (fun t ht hW => ⟨⟨_, _, rfl, (Or.inr ⟨x, hux, rfl, _, _, _, rfl, fun l1 l2 h9 => by subst h9; exact hI.give hnw⟩), at2.of hP hK hD ht hW⟩, hS.F ht⟩) hS.2.2 d_M_give_29
    · exact absurd c_10 (by decide)
set_option maxHeartbeats 4000000 in
set_option maxRecDepth 100000 in
theorem c_M_mark (l : Launch) (D : va_G) (ty : tyL) (N0 sz : Nat) (hm qs qt qm : Nat) (cI cJ cZ : ClassId) (th : Int32) (cn nw : Nat) (v w z : Int32) (hd : Nat) (za ta ka : Nat → Int32) (a : Int32) (L : List AP) (f : Nat) (hI : Inv cn f nw L za ta ka) (t0 : ty[0]? = some (cI, .int)) (t1 : ty[1]? = some (cJ, .int)) (t2 : ty[2]? = some (cZ, .boolean)) (hh : hd < 2 ^ 31) : Met l y_M_mark (Cond.code y_M_mark b_M_mark 3 (some .boolean) :: GW) ({ frames := 1, cells := 0, slots := 0, locals := 22 }) (va_Pc [.ref hm, .int a] (at1 D ty N0 sz (mW hm qs qt qm cI cJ cZ th cn nw v w z hd za ta ka))) (va_Qi (fun r ws' => (uAt a L = none ∧ r = 0 ∧ ws' = mW hm qs qt qm cI cJ cZ 1 cn nw v w z hd za ta ka) ∨ (¬ uAt a L = none ∧ ¬ hd = 0 ∧ r = 0 ∧ ws' = mW hm qs qt qm cI cJ cZ 2 cn nw v w z hd za ta ka) ∨ ∃ x, uAt a L = some x ∧ hd = 0 ∧ r = bI (!x.2.2.2.2.1) ∧ ∃ ka', ws' = mW hm qs qt qm cI cJ cZ 0 cn nw v w z hd za ta ka' ∧ ∀ l1 l2, L = l1 ++ x :: l2 → Inv cn f nw (l1 ++ (x.1, x.2.1, x.2.2.1, x.2.2.2.1, true, x.2.2.2.2.2) :: l2) za ta ka') (at2 D ty (va_A (mW hm qs qt qm cI cJ cZ th cn nw v w z hd za ta ka) sz)) (va_A (mW hm qs qt qm cI cJ cZ th cn nw v w z hd za ta ka) sz)) 0 0 (va_A (mW hm qs qt qm cI cJ cZ th cn nw v w z hd za ta ka) sz) := by
  refine Met.ofW (cc := b_M_mark) (maxL := 3) (ret := (some .boolean)) (by decide) rfl ?_
  intro p e s m args below meth c s₁ B hml hv
  obtain ⟨rfl, hsz, hN0, ⟨hP, hK, hN⟩, hD0, hE⟩ := hv
  subst hsz
  have hD := hD0.self (sz := s.heap.size)
  have hAN := sw_AN hD0 hN0
  generalize hAe : va_A (mW hm qs qt qm cI cJ cZ th cn nw v w z hd za ta ka) s.heap.size = A at hD hAN ⊢
  have hA : ∀ q : Nat, s.heap.size ≤ q → A q := fun q h => by rw [← hAe]; exact Or.inr h
  have hS : va_S A s.heap s.heap [] := va_S.rf
  have hP : va_P D classes (mW hm qs qt qm cI cJ cZ th cn nw v w z hd za ta ka) s.heap := hP
  have hx := B.exec
  have hb := B.bytes
  have hr := B.returns
  have hg : ∀ w ∈ GW, w.before _ s = true := fun w h => atoms_spec (ws := Cond.code y_M_mark b_M_mark 3 (some .boolean) :: GW) B.pre w (List.mem_cons_of_mem _ h)
  have hown : s.vm.findClass R_M = some m.cls := findClass_of_methodNamed B.named
  have hlocks := B.notSynchronized
  have hl := lv_entry ([.ref hm, .int a]) (n := 3) (Nat.le_of_ble_eq_true rfl)
  rw [lg_entry_eq]
  generalize (lg_sl ([.ref hm, .int a]) ++ List.replicate (3 - (lg_sl ([.ref hm, .int a])).length) Slot.unset).toArray = ls at hl ⊢
  replace hl : lv_has ls 3 [(0, .ref hm), (1, .int a)] := hl
  replace hP : va_P D classes [(hm, .inr (2, [.int th, .int (nI cn), .ref qs, .ref qt, .ref qm, .int (nI nw), .int v, .int w, .int z, .int (nI hd)])), (qs, .inl (cI, 16386, .inl za)), (qt, .inl (cJ, 16386, .inl ta)), (qm, .inl (cZ, 16386, .inl ka))] _ := hP
  replace hD : va_D A [(hm, .inr (2, [.int th, .int (nI cn), .ref qs, .ref qt, .ref qm, .int (nI nw), .int v, .int w, .int z, .int (nI hd)])), (qs, .inl (cI, 16386, .inl za)), (qt, .inl (cJ, 16386, .inl ta)), (qm, .inl (cZ, 16386, .inl ka))] := hD
  have hcn := hI.2.2.1
  refine lv_aload_n hx hb d_M_mark_0 rfl (lv_at hl 0 rfl) ?_
  refine lv_aload_n hx hb d_M_mark_1 rfl (lv_at hl 0 rfl) ?_
  refine lv_iload_n hx hb d_M_mark_2 rfl (lv_at hl 1 rfl) ?_
  refine vp_callSi (va_runV (As := [.int a]) (rest := [.ref hm]) ⟨hx, hb, hml, hown, hg⟩ (c_M_used l D ty hm qs qt qm cI cJ cZ th cn nw v w z hd za ta ka a t0 t1 t2 hcn) (cwV 1 hg (gw_V gw_417 gw_419 gw_21 gw_28 gw_420) rfl rfl rfl (by decide +kernel) ⟨Nat.le_of_ble_eq_true rfl, Nat.le_of_ble_eq_true rfl⟩) (pre_roV hP hK hN (ci := 2) (k := 0) rfl rfl) rfl rfl hl.1 rfl (lv_room (Nat.le_of_ble_eq_true rfl)) d_M_mark_3 ⟨Nat.le_of_ble_eq_true rfl, Nat.le_of_ble_eq_true rfl⟩).run (fun r1 hr1 => ?_)
  rw [inv_usd hI] at hr1
  obtain ⟨ou, huo⟩ : ∃ q, q = uAt a L := ⟨_, rfl⟩
  rcases ou with _ | x
  · have hux := huo.symm
    clear huo
    rw [hux] at hr1
    replace hr1 : r1 = bI false := hr1
    subst hr1
    refine lv_aload_n hx hb d_M_mark_6 rfl (lv_at hl 0 rfl) ?_
    refine va_get (D := D) (ci := 2) (v := .int (nI hd)) (C := R_M) (T := F_M) (N := 10) hx hb hg gi_M hown hK hP 0 rfl rfl 9 (by decide) (hg _ gw_361) (fun _ h9 => h9) rfl d_M_mark_7 ?_
    refine lv_if_ne (tgt := 17) hx hb d_M_mark_10 (by decide) (fun c_10 => ?_) (fun c_10 => ?_)
    · refine lv_iconst (v := 0) hx hb d_M_mark_17 (by decide) ?_
      have hFc := sw_free hD hS hA
      refine va_calli (va_runV (As := [.int (bI false), .int 0]) (rest := []) ⟨hx, hb, hml, hown, hg⟩ (c_M_goes l D ty N0 _ hm qs qt qm cI cJ cZ th cn nw v w z hd za ta ka false false t0 t1 t2) (cwV 2 hg (gw_V gw_393 gw_395 gw_17 gw_28 gw_396) rfl rfl rfl (by decide +kernel) ⟨Nat.le_of_ble_eq_true rfl, Nat.le_of_ble_eq_true rfl⟩) (pre_wrV hP hK hN hD hS hAN hN0 hE (ci := 2) (k := 0) rfl rfl) rfl rfl hl.1 rfl (lv_room (Nat.le_of_ble_eq_true rfl)) d_M_mark_18 ⟨Nat.le_of_ble_eq_true rfl, Nat.le_of_ble_eq_true rfl⟩) hS (fun q _ h => hFc q h) hFc (fun r_ u t H locs ht hvm hw hB hz1 hk1 hS => ?_)
      obtain ⟨hP, hK1, hD1⟩ := hB
      rw [ht] at hP
      have hD := hD1.weaken (fun _ _ _ h => hFc _ h)
      clear hK1 hD1 hFc hk1 hz1
      obtain ⟨rfl, rfl⟩ := hw
      replace hP : va_P D classes [(hm, .inr (2, [.int (goT false false), .int (nI cn), .ref qs, .ref qt, .ref qm, .int (nI nw), .int v, .int w, .int z, .int (nI hd)])), (qs, .inl (cI, 16386, .inl za)), (qt, .inl (cJ, 16386, .inl ta)), (qm, .inl (cZ, 16386, .inl ka))] _ := hP
      replace hD : va_D A [(hm, .inr (2, [.int (goT false false), .int (nI cn), .ref qs, .ref qt, .ref qm, .int (nI nw), .int v, .int w, .int z, .int (nI hd)])), (qs, .inl (cI, 16386, .inl za)), (qt, .inl (cJ, 16386, .inl ta)), (qm, .inl (cZ, 16386, .inl ka))] := hD
      refine lv_if_ne (tgt := 26) hx hb d_M_mark_21 (by decide) (fun c_21 => ?_) (fun c_21 => ?_)
      · exact absurd rfl c_21
      · refine lv_iconst (v := 0) hx hb d_M_mark_24 (by decide) ?_
        refine W.widen (k := 0) (n := 0) (Nat.le_of_ble_eq_true rfl) (Nat.le_of_ble_eq_true rfl) ?_
        exact W.zret (v := 0) hx hb hr rfl (fun t ht hW => ⟨⟨_, _, rfl, (Or.inl ⟨hux, rfl, rfl⟩), at2.of hP hK hD ht hW⟩, hS.F ht⟩) hS.2.2 d_M_mark_25
    · refine lv_iconst (v := 1) hx hb d_M_mark_13 (by decide) ?_
      refine lv_goto (tgt := 18) hx hb d_M_mark_14 (by decide) ?_
      have hFc := sw_free hD hS hA
      refine va_calli (va_runV (As := [.int (bI false), .int 1]) (rest := []) ⟨hx, hb, hml, hown, hg⟩ (c_M_goes l D ty N0 _ hm qs qt qm cI cJ cZ th cn nw v w z hd za ta ka false true t0 t1 t2) (cwV 2 hg (gw_V gw_393 gw_395 gw_17 gw_28 gw_396) rfl rfl rfl (by decide +kernel) ⟨Nat.le_of_ble_eq_true rfl, Nat.le_of_ble_eq_true rfl⟩) (pre_wrV hP hK hN hD hS hAN hN0 hE (ci := 2) (k := 0) rfl rfl) rfl rfl hl.1 rfl (lv_room (Nat.le_of_ble_eq_true rfl)) d_M_mark_18 ⟨Nat.le_of_ble_eq_true rfl, Nat.le_of_ble_eq_true rfl⟩) hS (fun q _ h => hFc q h) hFc (fun r_ u t H locs ht hvm hw hB hz1 hk1 hS => ?_)
      obtain ⟨hP, hK1, hD1⟩ := hB
      rw [ht] at hP
      have hD := hD1.weaken (fun _ _ _ h => hFc _ h)
      clear hK1 hD1 hFc hk1 hz1
      obtain ⟨rfl, rfl⟩ := hw
      replace hP : va_P D classes [(hm, .inr (2, [.int (goT false true), .int (nI cn), .ref qs, .ref qt, .ref qm, .int (nI nw), .int v, .int w, .int z, .int (nI hd)])), (qs, .inl (cI, 16386, .inl za)), (qt, .inl (cJ, 16386, .inl ta)), (qm, .inl (cZ, 16386, .inl ka))] _ := hP
      replace hD : va_D A [(hm, .inr (2, [.int (goT false true), .int (nI cn), .ref qs, .ref qt, .ref qm, .int (nI nw), .int v, .int w, .int z, .int (nI hd)])), (qs, .inl (cI, 16386, .inl za)), (qt, .inl (cJ, 16386, .inl ta)), (qm, .inl (cZ, 16386, .inl ka))] := hD
      refine lv_if_ne (tgt := 26) hx hb d_M_mark_21 (by decide) (fun c_21 => ?_) (fun c_21 => ?_)
      · exact absurd rfl c_21
      · refine lv_iconst (v := 0) hx hb d_M_mark_24 (by decide) ?_
        refine W.widen (k := 0) (n := 0) (Nat.le_of_ble_eq_true rfl) (Nat.le_of_ble_eq_true rfl) ?_
        exact W.zret (v := 0) hx hb hr rfl (fun t ht hW => ⟨⟨_, _, rfl, (Or.inl ⟨hux, rfl, rfl⟩), at2.of hP hK hD ht hW⟩, hS.F ht⟩) hS.2.2 d_M_mark_25
  · have hux := huo.symm
    clear huo
    rw [hux] at hr1
    replace hr1 : r1 = bI true := hr1
    subst hr1
    obtain ⟨hxL, hxu, hpa⟩ := uAt_mem hux
    obtain rfl := (pAt_mem hpa).2
    obtain ⟨hx1, hx2, hx3, hb9, hx4, hx5, hn1, hn2, hn3⟩ := hI.x hxL
    have hsv : szV x = nI x.2.2.1 := by unfold szV; rw [hxu]; rfl
    replace hl : lv_has ls 3 [(0, .ref hm), (1, .int (nI x.2.1))] := hl
    refine lv_aload_n hx hb d_M_mark_6 rfl (lv_at hl 0 rfl) ?_
    refine va_get (D := D) (ci := 2) (v := .int (nI hd)) (C := R_M) (T := F_M) (N := 10) hx hb hg gi_M hown hK hP 0 rfl rfl 9 (by decide) (hg _ gw_361) (fun _ h9 => h9) rfl d_M_mark_7 ?_
    refine lv_if_ne (tgt := 17) hx hb d_M_mark_10 (by decide) (fun c_10 => ?_) (fun c_10 => ?_)
    · refine lv_iconst (v := 0) hx hb d_M_mark_17 (by decide) ?_
      have hFc := sw_free hD hS hA
      refine va_calli (va_runV (As := [.int (bI true), .int 0]) (rest := []) ⟨hx, hb, hml, hown, hg⟩ (c_M_goes l D ty N0 _ hm qs qt qm cI cJ cZ th cn nw v w z hd za ta ka true false t0 t1 t2) (cwV 2 hg (gw_V gw_393 gw_395 gw_17 gw_28 gw_396) rfl rfl rfl (by decide +kernel) ⟨Nat.le_of_ble_eq_true rfl, Nat.le_of_ble_eq_true rfl⟩) (pre_wrV hP hK hN hD hS hAN hN0 hE (ci := 2) (k := 0) rfl rfl) rfl rfl hl.1 rfl (lv_room (Nat.le_of_ble_eq_true rfl)) d_M_mark_18 ⟨Nat.le_of_ble_eq_true rfl, Nat.le_of_ble_eq_true rfl⟩) hS (fun q _ h => hFc q h) hFc (fun r_ u t H locs ht hvm hw hB hz1 hk1 hS => ?_)
      obtain ⟨hP, hK1, hD1⟩ := hB
      rw [ht] at hP
      have hD := hD1.weaken (fun _ _ _ h => hFc _ h)
      clear hK1 hD1 hFc hk1 hz1
      obtain ⟨rfl, rfl⟩ := hw
      replace hP : va_P D classes [(hm, .inr (2, [.int (goT true false), .int (nI cn), .ref qs, .ref qt, .ref qm, .int (nI nw), .int v, .int w, .int z, .int (nI hd)])), (qs, .inl (cI, 16386, .inl za)), (qt, .inl (cJ, 16386, .inl ta)), (qm, .inl (cZ, 16386, .inl ka))] _ := hP
      replace hD : va_D A [(hm, .inr (2, [.int (goT true false), .int (nI cn), .ref qs, .ref qt, .ref qm, .int (nI nw), .int v, .int w, .int z, .int (nI hd)])), (qs, .inl (cI, 16386, .inl za)), (qt, .inl (cJ, 16386, .inl ta)), (qm, .inl (cZ, 16386, .inl ka))] := hD
      refine lv_if_ne (tgt := 26) hx hb d_M_mark_21 (by decide) (fun c_21 => ?_) (fun c_21 => ?_)
      · exact absurd rfl c_21
      · refine lv_iconst (v := 0) hx hb d_M_mark_24 (by decide) ?_
        refine W.widen (k := 0) (n := 0) (Nat.le_of_ble_eq_true rfl) (Nat.le_of_ble_eq_true rfl) ?_
        exact W.zret (v := 0) hx hb hr rfl (fun t ht hW => ⟨⟨_, _, rfl, (Or.inr (Or.inl ⟨by rw [hux]; exact (fun h9 => by cases h9), fun h9 => c_10 (by rw [h9]; exact nI_0), rfl, rfl⟩)), at2.of hP hK hD ht hW⟩, hS.F ht⟩) hS.2.2 d_M_mark_25
    · refine lv_iconst (v := 1) hx hb d_M_mark_13 (by decide) ?_
      refine lv_goto (tgt := 18) hx hb d_M_mark_14 (by decide) ?_
      have hFc := sw_free hD hS hA
      refine va_calli (va_runV (As := [.int (bI true), .int 1]) (rest := []) ⟨hx, hb, hml, hown, hg⟩ (c_M_goes l D ty N0 _ hm qs qt qm cI cJ cZ th cn nw v w z hd za ta ka true true t0 t1 t2) (cwV 2 hg (gw_V gw_393 gw_395 gw_17 gw_28 gw_396) rfl rfl rfl (by decide +kernel) ⟨Nat.le_of_ble_eq_true rfl, Nat.le_of_ble_eq_true rfl⟩) (pre_wrV hP hK hN hD hS hAN hN0 hE (ci := 2) (k := 0) rfl rfl) rfl rfl hl.1 rfl (lv_room (Nat.le_of_ble_eq_true rfl)) d_M_mark_18 ⟨Nat.le_of_ble_eq_true rfl, Nat.le_of_ble_eq_true rfl⟩) hS (fun q _ h => hFc q h) hFc (fun r_ u t H locs ht hvm hw hB hz1 hk1 hS => ?_)
      obtain ⟨hP, hK1, hD1⟩ := hB
      rw [ht] at hP
      have hD := hD1.weaken (fun _ _ _ h => hFc _ h)
      clear hK1 hD1 hFc hk1 hz1
      obtain ⟨rfl, rfl⟩ := hw
      replace hP : va_P D classes [(hm, .inr (2, [.int (goT true true), .int (nI cn), .ref qs, .ref qt, .ref qm, .int (nI nw), .int v, .int w, .int z, .int (nI hd)])), (qs, .inl (cI, 16386, .inl za)), (qt, .inl (cJ, 16386, .inl ta)), (qm, .inl (cZ, 16386, .inl ka))] _ := hP
      replace hD : va_D A [(hm, .inr (2, [.int (goT true true), .int (nI cn), .ref qs, .ref qt, .ref qm, .int (nI nw), .int v, .int w, .int z, .int (nI hd)])), (qs, .inl (cI, 16386, .inl za)), (qt, .inl (cJ, 16386, .inl ta)), (qm, .inl (cZ, 16386, .inl ka))] := hD
      refine lv_if_ne (tgt := 26) hx hb d_M_mark_21 (by decide) (fun c_21 => ?_) (fun c_21 => ?_)
      · refine lv_aload_n hx hb d_M_mark_26 rfl (lv_at hl 0 rfl) ?_
        refine va_get (D := D) (ci := 2) (v := .ref qm) (C := R_M) (T := F_M) (N := 10) hx hb hg gi_M hown hK hP 0 rfl rfl 4 (by decide) (hg _ gw_356) (fun _ h9 => h9) rfl d_M_mark_27 ?_
        refine lv_iload_n hx hb d_M_mark_30 rfl (lv_at hl 1 rfl) ?_
        refine va_zald hx hb hK hP 3 2 rfl t2 (vp_in_nI hb9 (by decide)) d_M_mark_31 ?_
        refine lv_topi (fun y1 ey1 => ?_)
        obtain rfl : y1 = ka x.2.1 := ey1.trans (congrArg ka (nI_clamp (Nat.lt_trans hb9 (by decide))))
        clear ey1
        refine lv_topi (fun y2 ey2 => ?_)
        obtain rfl : y2 = bI x.2.2.2.2.1 := ey2.trans hx2
        clear ey2
        refine lv_if_ne (tgt := 39) hx hb d_M_mark_32 (by decide) (fun c_32 => ?_) (fun c_32 => ?_)
        · refine lv_iconst (v := 0) hx hb d_M_mark_39 (by decide) ?_
          refine lv_topi (fun y3 ey3 => ?_)
          obtain rfl : y3 = bI (!x.2.2.2.2.1) := ey3.trans (by rw [bI_n0.mp c_32]; rfl)
          clear ey3
          refine lv_istore_n (lv' := [(2, .int (bI (!x.2.2.2.2.1))), (0, .ref hm), (1, .int (nI x.2.1))]) hx hb d_M_mark_40 rfl hl (by decide) rfl (fun ls hl => ?_)
          refine lv_aload_n hx hb d_M_mark_41 rfl (lv_at hl 1 rfl) ?_
          refine va_get (D := D) (ci := 2) (v := .ref qm) (C := R_M) (T := F_M) (N := 10) hx hb hg gi_M hown hK hP 0 rfl rfl 4 (by decide) (hg _ gw_356) (fun _ h9 => h9) rfl d_M_mark_42 ?_
          refine lv_iload_n hx hb d_M_mark_45 rfl (lv_at hl 2 rfl) ?_
          refine lv_iconst (v := 1) hx hb d_M_mark_46 (by decide) ?_
          refine va_zast hx hb hK hP hD hS 3 2 rfl t2 (vp_in_nI hb9 (by decide)) d_M_mark_47 (fun H locs hP hD hS => ?_)
          rw [nI_clamp (Nat.lt_trans hb9 (by decide))] at hP hD
          replace hP : va_P D classes [(hm, .inr (2, [.int (goT true true), .int (nI cn), .ref qs, .ref qt, .ref qm, .int (nI nw), .int v, .int w, .int z, .int (nI hd)])), (qs, .inl (cI, 16386, .inl za)), (qt, .inl (cJ, 16386, .inl ta)), (qm, .inl (cZ, 16386, .inl (upd ka x.2.1 1)))] _ := hP
          replace hD : va_D A [(hm, .inr (2, [.int (goT true true), .int (nI cn), .ref qs, .ref qt, .ref qm, .int (nI nw), .int v, .int w, .int z, .int (nI hd)])), (qs, .inl (cI, 16386, .inl za)), (qt, .inl (cJ, 16386, .inl ta)), (qm, .inl (cZ, 16386, .inl (upd ka x.2.1 1)))] := hD
          refine lv_iload_n hx hb d_M_mark_48 rfl (lv_at hl 0 rfl) ?_
          refine W.widen (k := 0) (n := 0) (Nat.le_of_ble_eq_true rfl) (Nat.le_of_ble_eq_true rfl) ?_
          exact W.zret (v := (bI (!x.2.2.2.2.1))) hx hb hr (bI_nar _) (fun t ht hW => ⟨⟨_, _, rfl, (Or.inr (Or.inr ⟨x, hux, by rw [← nI_0] at c_10; exact (nI_eq hh (by decide)).mp c_10, rfl, _, rfl, fun l1 l2 h9 => by subst h9; exact hI.mark true (fun _ => hxu)⟩)), at2.of hP hK hD ht hW⟩, hS.F ht⟩) hS.2.2 d_M_mark_49
        · refine lv_iconst (v := 1) hx hb d_M_mark_35 (by decide) ?_
          refine lv_goto (tgt := 40) hx hb d_M_mark_36 (by decide) ?_
          refine lv_topi (fun y4 ey4 => ?_)
          obtain rfl : y4 = bI (!x.2.2.2.2.1) := ey4.trans (by rw [bI_0.mp c_32]; rfl)
          clear ey4
          refine lv_istore_n (lv' := [(2, .int (bI (!x.2.2.2.2.1))), (0, .ref hm), (1, .int (nI x.2.1))]) hx hb d_M_mark_40 rfl hl (by decide) rfl (fun ls hl => ?_)
          refine lv_aload_n hx hb d_M_mark_41 rfl (lv_at hl 1 rfl) ?_
          refine va_get (D := D) (ci := 2) (v := .ref qm) (C := R_M) (T := F_M) (N := 10) hx hb hg gi_M hown hK hP 0 rfl rfl 4 (by decide) (hg _ gw_356) (fun _ h9 => h9) rfl d_M_mark_42 ?_
          refine lv_iload_n hx hb d_M_mark_45 rfl (lv_at hl 2 rfl) ?_
          refine lv_iconst (v := 1) hx hb d_M_mark_46 (by decide) ?_
          refine va_zast hx hb hK hP hD hS 3 2 rfl t2 (vp_in_nI hb9 (by decide)) d_M_mark_47 (fun H locs hP hD hS => ?_)
          rw [nI_clamp (Nat.lt_trans hb9 (by decide))] at hP hD
          replace hP : va_P D classes [(hm, .inr (2, [.int (goT true true), .int (nI cn), .ref qs, .ref qt, .ref qm, .int (nI nw), .int v, .int w, .int z, .int (nI hd)])), (qs, .inl (cI, 16386, .inl za)), (qt, .inl (cJ, 16386, .inl ta)), (qm, .inl (cZ, 16386, .inl (upd ka x.2.1 1)))] _ := hP
          replace hD : va_D A [(hm, .inr (2, [.int (goT true true), .int (nI cn), .ref qs, .ref qt, .ref qm, .int (nI nw), .int v, .int w, .int z, .int (nI hd)])), (qs, .inl (cI, 16386, .inl za)), (qt, .inl (cJ, 16386, .inl ta)), (qm, .inl (cZ, 16386, .inl (upd ka x.2.1 1)))] := hD
          refine lv_iload_n hx hb d_M_mark_48 rfl (lv_at hl 0 rfl) ?_
          refine W.widen (k := 0) (n := 0) (Nat.le_of_ble_eq_true rfl) (Nat.le_of_ble_eq_true rfl) ?_
          exact W.zret (v := (bI (!x.2.2.2.2.1))) hx hb hr (bI_nar _) (fun t ht hW => ⟨⟨_, _, rfl, (Or.inr (Or.inr ⟨x, hux, by rw [← nI_0] at c_10; exact (nI_eq hh (by decide)).mp c_10, rfl, _, rfl, fun l1 l2 h9 => by subst h9; exact hI.mark true (fun _ => hxu)⟩)), at2.of hP hK hD ht hW⟩, hS.F ht⟩) hS.2.2 d_M_mark_49
      · exact absurd c_21 (by decide)
set_option maxHeartbeats 4000000 in
set_option maxRecDepth 100000 in
theorem c_M_unmark (l : Launch) (D : va_G) (ty : tyL) (N0 sz : Nat) (hm qs qt qm : Nat) (cI cJ cZ : ClassId) (th : Int32) (cn nw : Nat) (v w z : Int32) (hd : Nat) (za ta ka : Nat → Int32) (L : List AP) (f : Nat) (hI : Inv cn f nw L za ta ka) (t0 : ty[0]? = some (cI, .int)) (t1 : ty[1]? = some (cJ, .int)) (t2 : ty[2]? = some (cZ, .boolean)) (hh : hd < 2 ^ 31) : Met l y_M_unmark (Cond.code y_M_unmark b_M_unmark 3 (some .int) :: GW) ({ frames := 2, cells := 0, slots := 0, locals := 43 }) (va_Pc [.ref hm] (at1 D ty N0 sz (mW hm qs qt qm cI cJ cZ th cn nw v w z hd za ta ka))) (va_Qi (fun r ws' => (¬ hd = 0 ∧ r = 0 ∧ ws' = mW hm qs qt qm cI cJ cZ 1 cn nw v w z hd za ta ka) ∨ (hd = 0 ∧ r = nI (shrS 8 L) ∧ ∃ ka', ws' = mW hm qs qt qm cI cJ cZ 0 cn nw v w z hd za ta ka' ∧ Inv cn f nw (unmkL L) za ta ka')) (at2 D ty (va_A (mW hm qs qt qm cI cJ cZ th cn nw v w z hd za ta ka) sz)) (va_A (mW hm qs qt qm cI cJ cZ th cn nw v w z hd za ta ka) sz)) 0 0 (va_A (mW hm qs qt qm cI cJ cZ th cn nw v w z hd za ta ka) sz) := by
  refine Met.ofW (cc := b_M_unmark) (maxL := 3) (ret := (some .int)) (by decide) rfl ?_
  intro p e s m args below meth c s₁ B hml hv
  obtain ⟨rfl, hsz, hN0, ⟨hP, hK, hN⟩, hD0, hE⟩ := hv
  subst hsz
  have hD := hD0.self (sz := s.heap.size)
  have hAN := sw_AN hD0 hN0
  generalize hAe : va_A (mW hm qs qt qm cI cJ cZ th cn nw v w z hd za ta ka) s.heap.size = A at hD hAN ⊢
  have hA : ∀ q : Nat, s.heap.size ≤ q → A q := fun q h => by rw [← hAe]; exact Or.inr h
  have hS : va_S A s.heap s.heap [] := va_S.rf
  have hP : va_P D classes (mW hm qs qt qm cI cJ cZ th cn nw v w z hd za ta ka) s.heap := hP
  have hx := B.exec
  have hb := B.bytes
  have hr := B.returns
  have hg : ∀ w ∈ GW, w.before _ s = true := fun w h => atoms_spec (ws := Cond.code y_M_unmark b_M_unmark 3 (some .int) :: GW) B.pre w (List.mem_cons_of_mem _ h)
  have hown : s.vm.findClass R_M = some m.cls := findClass_of_methodNamed B.named
  have hlocks := B.notSynchronized
  have hl := lv_entry ([.ref hm]) (n := 3) (Nat.le_of_ble_eq_true rfl)
  rw [lg_entry_eq]
  generalize (lg_sl ([.ref hm]) ++ List.replicate (3 - (lg_sl ([.ref hm])).length) Slot.unset).toArray = ls at hl ⊢
  replace hl : lv_has ls 3 [(0, .ref hm)] := hl
  replace hP : va_P D classes [(hm, .inr (2, [.int th, .int (nI cn), .ref qs, .ref qt, .ref qm, .int (nI nw), .int v, .int w, .int z, .int (nI hd)])), (qs, .inl (cI, 16386, .inl za)), (qt, .inl (cJ, 16386, .inl ta)), (qm, .inl (cZ, 16386, .inl ka))] _ := hP
  replace hD : va_D A [(hm, .inr (2, [.int th, .int (nI cn), .ref qs, .ref qt, .ref qm, .int (nI nw), .int v, .int w, .int z, .int (nI hd)])), (qs, .inl (cI, 16386, .inl za)), (qt, .inl (cJ, 16386, .inl ta)), (qm, .inl (cZ, 16386, .inl ka))] := hD
  have hcn := hI.2.2.1
  refine lv_aload_n hx hb d_M_unmark_0 rfl (lv_at hl 0 rfl) ?_
  refine lv_aload_n hx hb d_M_unmark_1 rfl (lv_at hl 0 rfl) ?_
  refine va_get (D := D) (ci := 2) (v := .int (nI hd)) (C := R_M) (T := F_M) (N := 10) hx hb hg gi_M hown hK hP 0 rfl rfl 9 (by decide) (hg _ gw_361) (fun _ h9 => h9) rfl d_M_unmark_2 ?_
  refine lv_if_ne (tgt := 12) hx hb d_M_unmark_5 (by decide) (fun c_5 => ?_) (fun c_5 => ?_)
  · refine lv_iconst (v := 0) hx hb d_M_unmark_12 (by decide) ?_
    refine lv_iconst (v := 1) hx hb d_M_unmark_13 (by decide) ?_
    have hFc := sw_free hD hS hA
    refine va_calli (va_runV (As := [.int 0, .int 1]) (rest := []) ⟨hx, hb, hml, hown, hg⟩ (c_M_goes l D ty N0 _ hm qs qt qm cI cJ cZ th cn nw v w z hd za ta ka false true t0 t1 t2) (cwV 2 hg (gw_V gw_393 gw_395 gw_17 gw_28 gw_396) rfl rfl rfl (by decide +kernel) ⟨Nat.le_of_ble_eq_true rfl, Nat.le_of_ble_eq_true rfl⟩) (pre_wrV hP hK hN hD hS hAN hN0 hE (ci := 2) (k := 0) rfl rfl) rfl rfl hl.1 rfl (lv_room (Nat.le_of_ble_eq_true rfl)) d_M_unmark_14 ⟨Nat.le_of_ble_eq_true rfl, Nat.le_of_ble_eq_true rfl⟩) hS (fun q _ h => hFc q h) hFc (fun r_ u t H locs ht hvm hw hB hz1 hk1 hS => ?_)
    obtain ⟨hP, hK1, hD1⟩ := hB
    rw [ht] at hP
    have hD := hD1.weaken (fun _ _ _ h => hFc _ h)
    clear hK1 hD1 hFc hk1 hz1
    obtain ⟨rfl, rfl⟩ := hw
    replace hP : va_P D classes [(hm, .inr (2, [.int (goT false true), .int (nI cn), .ref qs, .ref qt, .ref qm, .int (nI nw), .int v, .int w, .int z, .int (nI hd)])), (qs, .inl (cI, 16386, .inl za)), (qt, .inl (cJ, 16386, .inl ta)), (qm, .inl (cZ, 16386, .inl ka))] _ := hP
    replace hD : va_D A [(hm, .inr (2, [.int (goT false true), .int (nI cn), .ref qs, .ref qt, .ref qm, .int (nI nw), .int v, .int w, .int z, .int (nI hd)])), (qs, .inl (cI, 16386, .inl za)), (qt, .inl (cJ, 16386, .inl ta)), (qm, .inl (cZ, 16386, .inl ka))] := hD
    refine lv_if_ne (tgt := 22) hx hb d_M_unmark_17 (by decide) (fun c_17 => ?_) (fun c_17 => ?_)
    · exact absurd rfl c_17
    · refine lv_iconst (v := 0) hx hb d_M_unmark_20 (by decide) ?_
      refine W.widen (k := 0) (n := 0) (Nat.le_of_ble_eq_true rfl) (Nat.le_of_ble_eq_true rfl) ?_
      exact W.iret (v := 0) hx hb hr (fun t ht hW => ⟨⟨_, _, rfl, (Or.inl ⟨fun h9 => c_5 (by rw [h9]; exact nI_0), rfl, rfl⟩), at2.of hP hK hD ht hW⟩, hS.F ht⟩) hS.2.2 d_M_unmark_21
  · refine lv_iconst (v := 1) hx hb d_M_unmark_8 (by decide) ?_
    refine lv_goto (tgt := 13) hx hb d_M_unmark_9 (by decide) ?_
    refine lv_iconst (v := 1) hx hb d_M_unmark_13 (by decide) ?_
    have hFc := sw_free hD hS hA
    refine va_calli (va_runV (As := [.int 1, .int 1]) (rest := []) ⟨hx, hb, hml, hown, hg⟩ (c_M_goes l D ty N0 _ hm qs qt qm cI cJ cZ th cn nw v w z hd za ta ka true true t0 t1 t2) (cwV 2 hg (gw_V gw_393 gw_395 gw_17 gw_28 gw_396) rfl rfl rfl (by decide +kernel) ⟨Nat.le_of_ble_eq_true rfl, Nat.le_of_ble_eq_true rfl⟩) (pre_wrV hP hK hN hD hS hAN hN0 hE (ci := 2) (k := 0) rfl rfl) rfl rfl hl.1 rfl (lv_room (Nat.le_of_ble_eq_true rfl)) d_M_unmark_14 ⟨Nat.le_of_ble_eq_true rfl, Nat.le_of_ble_eq_true rfl⟩) hS (fun q _ h => hFc q h) hFc (fun r_ u t H locs ht hvm hw hB hz1 hk1 hS => ?_)
    obtain ⟨hP, hK1, hD1⟩ := hB
    rw [ht] at hP
    have hD := hD1.weaken (fun _ _ _ h => hFc _ h)
    clear hK1 hD1 hFc hk1 hz1
    obtain ⟨rfl, rfl⟩ := hw
    replace hP : va_P D classes [(hm, .inr (2, [.int (goT true true), .int (nI cn), .ref qs, .ref qt, .ref qm, .int (nI nw), .int v, .int w, .int z, .int (nI hd)])), (qs, .inl (cI, 16386, .inl za)), (qt, .inl (cJ, 16386, .inl ta)), (qm, .inl (cZ, 16386, .inl ka))] _ := hP
    replace hD : va_D A [(hm, .inr (2, [.int (goT true true), .int (nI cn), .ref qs, .ref qt, .ref qm, .int (nI nw), .int v, .int w, .int z, .int (nI hd)])), (qs, .inl (cI, 16386, .inl za)), (qt, .inl (cJ, 16386, .inl ta)), (qm, .inl (cZ, 16386, .inl ka))] := hD
    refine lv_if_ne (tgt := 22) hx hb d_M_unmark_17 (by decide) (fun c_17 => ?_) (fun c_17 => ?_)
    · refine lv_aload_n hx hb d_M_unmark_22 rfl (lv_at hl 0 rfl) ?_
      refine vp_callSi (va_runV (As := []) (rest := []) ⟨hx, hb, hml, hown, hg⟩ (c_M_marks l D ty hm qs qt qm cI cJ cZ (goT true true) cn nw v w z hd za ta ka L f hI t0 t1 t2) (cwV 0 hg (gw_V gw_429 gw_431 gw_22 gw_28 gw_432) rfl rfl rfl (by decide +kernel) ⟨Nat.le_of_ble_eq_true rfl, Nat.le_of_ble_eq_true rfl⟩) (pre_roV hP hK hN (ci := 2) (k := 0) rfl rfl) rfl rfl hl.1 rfl (lv_room (Nat.le_of_ble_eq_true rfl)) d_M_unmark_23 ⟨Nat.le_of_ble_eq_true rfl, Nat.le_of_ble_eq_true rfl⟩).run (fun r1 hr1 => ?_)
      subst hr1
      refine lv_istore_n (lv' := [(1, .int (nI (shrS 8 L))), (0, .ref hm)]) hx hb d_M_unmark_26 rfl hl (by decide) rfl (fun ls hl => ?_)
      refine lv_iconst (v := 1) hx hb d_M_unmark_27 (by decide) ?_
      refine lv_istore_n (lv' := [(2, .int 1), (1, .int (nI (shrS 8 L))), (0, .ref hm)]) hx hb d_M_unmark_28 rfl hl (by decide) rfl (fun ls hl => ?_)
      obtain ⟨suf, hs⟩ : ∃ q, q = L := ⟨_, rfl⟩
      obtain ⟨d, hd9⟩ : ∃ q : Nat, q = 1 := ⟨_, rfl⟩
      obtain ⟨pre, hpr⟩ : ∃ q : List AP, q = [] := ⟨_, rfl⟩
      obtain ⟨kb, hkb⟩ : ∃ q, q = ka := ⟨_, rfl⟩
      replace hl := lv_sub hl [0, 1, 2] rfl
      replace hl : lv_has ls 3 [(2, .int 1), (1, .int (nI (shrS 8 L))), (0, .ref hm)] := hl
      replace hl : lv_has ls 3 [(2, .int (nI d)), (1, .int (nI (shrS 8 L))), (0, .ref hm)] := by rw [hd9]; exact hl
      rw [← hkb] at hP hD
      replace hP : va_P D classes [(hm, .inr (2, [.int (goT true true), .int (nI cn), .ref qs, .ref qt, .ref qm, .int (nI nw), .int v, .int w, .int z, .int (nI hd)])), (qs, .inl (cI, 16386, .inl za)), (qt, .inl (cJ, 16386, .inl ta)), (qm, .inl (cZ, 16386, .inl kb))] _ := hP
      replace hD : va_D A [(hm, .inr (2, [.int (goT true true), .int (nI cn), .ref qs, .ref qt, .ref qm, .int (nI nw), .int v, .int w, .int z, .int (nI hd)])), (qs, .inl (cI, 16386, .inl za)), (qt, .inl (cJ, 16386, .inl ta)), (qm, .inl (cZ, 16386, .inl kb))] := hD
      have hIk : Inv cn f nw (unmkL pre ++ suf) za ta kb := by rw [hkb, hpr, hs]; exact hI
      have hpre : L = pre ++ suf := by rw [hpr, hs]; rfl
      have hTi : Til d suf (cn + 1) := by rw [hs, hd9]; exact hI.2.1
      clear hs hd9 hpr hkb ht hvm
      revert hS
      revert hD
      revert hP
      revert hIk
      revert hpre
      revert hTi
      revert hl
      revert locs
      revert H
      revert kb
      revert pre
      revert d
      revert ls
      induction suf with
      | nil =>
        intro ls d pre kb H locs hl hTi hpre hIk hP hD hS
        replace hTi : d = cn + 1 := hTi
        subst hTi
        refine lv_iload_n hx hb d_M_unmark_29 rfl (lv_at hl 0 rfl) ?_
        refine lv_aload_n hx hb d_M_unmark_30 rfl (lv_at hl 2 rfl) ?_
        refine va_get (D := D) (ci := 2) (v := .int (nI cn)) (C := R_M) (T := F_M) (N := 10) hx hb hg gi_M hown hK hP 0 rfl rfl 1 (by decide) (hg _ gw_353) (fun _ h9 => h9) rfl d_M_unmark_31 ?_
        refine lv_icmp_gt (tgt := 55) hx hb d_M_unmark_34 (by decide) (fun c_34 => ?_) (fun c_34 => ?_)
        · refine lv_iload_n hx hb d_M_unmark_55 rfl (lv_at hl 1 rfl) ?_
          refine W.widen (k := 0) (n := 0) (Nat.le_of_ble_eq_true rfl) (Nat.le_of_ble_eq_true rfl) ?_
          exact W.iret (v := (nI (shrS 8 L))) hx hb hr (fun t ht hW => ⟨⟨_, _, rfl, (Or.inr ⟨by rw [← nI_0] at c_5; exact (nI_eq hh (by decide)).mp c_5, rfl, _, rfl, by rw [hpre, List.append_nil]; rw [List.append_nil] at hIk; exact hIk⟩), at2.of hP hK hD ht hW⟩, hS.F ht⟩) hS.2.2 d_M_unmark_56
        · exact absurd (nI_lt (by omega) (by omega)) c_34
      | cons x suf ih =>
        intro ls d pre kb H locs hl hTi hpre hIk hP hD hS
        obtain ⟨hd1, hd2, hd3⟩ := hTi
        subst hd1
        have hxL : x ∈ L := by rw [hpre]; simp
        obtain ⟨hx1, hx2, hx3, hb9, hx4, hx5, hn1, hn2, hn3⟩ := hI.x hxL
        refine lv_iload_n hx hb d_M_unmark_29 rfl (lv_at hl 0 rfl) ?_
        refine lv_aload_n hx hb d_M_unmark_30 rfl (lv_at hl 2 rfl) ?_
        refine va_get (D := D) (ci := 2) (v := .int (nI cn)) (C := R_M) (T := F_M) (N := 10) hx hb hg gi_M hown hK hP 0 rfl rfl 1 (by decide) (hg _ gw_353) (fun _ h9 => h9) rfl d_M_unmark_31 ?_
        refine lv_icmp_gt (tgt := 55) hx hb d_M_unmark_34 (by decide) (fun c_34 => ?_) (fun c_34 => ?_)
        · exact absurd ((nI_ltI (by omega) (by omega)).mp c_34) (by omega)
        · refine lv_aload_n hx hb d_M_unmark_37 rfl (lv_at hl 2 rfl) ?_
          refine va_get (D := D) (ci := 2) (v := .ref qm) (C := R_M) (T := F_M) (N := 10) hx hb hg gi_M hown hK hP 0 rfl rfl 4 (by decide) (hg _ gw_356) (fun _ h9 => h9) rfl d_M_unmark_38 ?_
          refine lv_iload_n hx hb d_M_unmark_41 rfl (lv_at hl 0 rfl) ?_
          refine lv_iconst (v := 0) hx hb d_M_unmark_42 (by decide) ?_
          refine va_zast hx hb hK hP hD hS 3 2 rfl t2 (vp_in_nI hb9 (by decide)) d_M_unmark_43 (fun H locs hP hD hS => ?_)
          rw [nI_clamp (Nat.lt_trans hb9 (by decide))] at hP hD
          replace hP : va_P D classes [(hm, .inr (2, [.int (goT true true), .int (nI cn), .ref qs, .ref qt, .ref qm, .int (nI nw), .int v, .int w, .int z, .int (nI hd)])), (qs, .inl (cI, 16386, .inl za)), (qt, .inl (cJ, 16386, .inl ta)), (qm, .inl (cZ, 16386, .inl (upd kb x.2.1 0)))] _ := hP
          replace hD : va_D A [(hm, .inr (2, [.int (goT true true), .int (nI cn), .ref qs, .ref qt, .ref qm, .int (nI nw), .int v, .int w, .int z, .int (nI hd)])), (qs, .inl (cI, 16386, .inl za)), (qt, .inl (cJ, 16386, .inl ta)), (qm, .inl (cZ, 16386, .inl (upd kb x.2.1 0)))] := hD
          refine lv_iload_n hx hb d_M_unmark_44 rfl (lv_at hl 0 rfl) ?_
          refine lv_aload_n hx hb d_M_unmark_45 rfl (lv_at hl 2 rfl) ?_
          refine lv_iload_n hx hb d_M_unmark_46 rfl (lv_at hl 0 rfl) ?_
          refine vp_callSi (va_runV (As := [.int (nI x.2.1)]) (rest := [.int (nI x.2.1)]) ⟨hx, hb, hml, hown, hg⟩ (c_M_length l D ty hm qs qt qm cI cJ cZ (goT true true) cn nw v w z hd za ta (upd kb x.2.1 0) x.2.1 t0 t1 t2 hb9) (cwV 1 hg (gw_V gw_409 gw_411 gw_20 gw_28 gw_412) rfl rfl rfl (by decide +kernel) ⟨Nat.le_of_ble_eq_true rfl, Nat.le_of_ble_eq_true rfl⟩) (pre_roV hP hK hN (ci := 2) (k := 0) rfl rfl) rfl rfl hl.1 rfl (lv_room (Nat.le_of_ble_eq_true rfl)) d_M_unmark_47 ⟨Nat.le_of_ble_eq_true rfl, Nat.le_of_ble_eq_true rfl⟩).run (fun r2 hr2 => ?_)
          replace hr2 : r2 = nI x.2.2.1 := by rw [hr2, hx1, lenF_x hn1 hn2]
          subst hr2
          refine lv_iadd hx hb d_M_unmark_50 ?_
          refine lv_topi (fun y1 ey1 => ?_)
          obtain rfl : y1 = nI (x.2.1 + x.2.2.1) := ey1.trans (nI_add _ _)
          clear ey1
          refine lv_istore_n (lv' := [(2, .int (nI (x.2.1 + x.2.2.1))), (1, .int (nI (shrS 8 L))), (0, .ref hm)]) hx hb d_M_unmark_51 rfl hl (by decide) rfl (fun ls hl => ?_)
          refine lv_goto (tgt := 29) hx hb d_M_unmark_52 (by decide) ?_
          exact ih ls (x.2.1 + x.2.2.1) (pre ++ [x]) (upd kb x.2.1 0) _ _ (lv_sub hl [0, 1, 2] rfl) hd3 (by rw [hpre, List.append_assoc]; rfl) (by rw [unmk_snoc]; exact hIk.mark false (fun h9 => by cases h9)) hP hD hS
    · exact absurd c_17 (by decide)
set_option maxHeartbeats 4000000 in
set_option maxRecDepth 100000 in
theorem c_M_take (l : Launch) (D : va_G) (ty : tyL) (N0 sz : Nat) (hm qs qt qm : Nat) (cI cJ cZ : ClassId) (th : Int32) (cn nw : Nat) (v w z : Int32) (hd : Nat) (za ta ka : Nat → Int32) (n : Int32) (L : List AP) (f : Nat) (hI : Inv cn f nw L za ta ka) (t0 : ty[0]? = some (cI, .int)) (t1 : ty[1]? = some (cJ, .int)) (t2 : ty[2]? = some (cZ, .boolean)) (hh : hd < 2 ^ 31) (hnw : nw + 1 < 2 ^ 30) : Met l y_M_take (Cond.code y_M_take b_M_take 4 (some .int) :: GW) ({ frames := 2, cells := 0, slots := 0, locals := 46 }) (va_Pc [.ref hm, .int n] (at1 D ty N0 sz (mW hm qs qt qm cI cJ cZ th cn nw v w z hd za ta ka))) (va_Qi (fun r ws' => ((n < 3 ∨ ¬ n ≤ 2000) ∧ ws' = mW hm qs qt qm cI cJ cZ 1 cn nw v w z hd za ta ka) ∨ ∃ k : Nat, 3 ≤ k ∧ k ≤ 2000 ∧ n = nI k ∧ ((wtf k L none = none ∧ r = 0 ∧ ws' = mW hm qs qt qm cI cJ cZ 0 cn nw (v + 1) w z hd za ta ka) ∨ ∃ x, wtf k L none = some x ∧ r = nI x.2.1 ∧ ((x.2.2.1 ≤ k ∧ ∃ za' ka', ws' = mW hm qs qt qm cI cJ cZ 0 cn nw v w z hd za' ta ka' ∧ ∀ l1 l2, L = l1 ++ x :: l2 → Inv cn f nw (l1 ++ (x.1, x.2.1, x.2.2.1, true, mkB hd x, x.2.2.2.2.2) :: l2) za' ta ka') ∨ (k < x.2.2.1 ∧ ∃ za' ta' ka', ws' = mW hm qs qt qm cI cJ cZ 0 cn (nw + 1) v w z hd za' ta' ka' ∧ ∀ q l1 l2, L = l1 ++ x :: l2 → Inv cn (f + 1) (nw + 1) (l1 ++ (x.1, x.2.1, k, true, mkB hd x, x.2.2.2.2.2) :: (q, x.2.1 + k, x.2.2.1 - k, false, false, f + 1) :: l2) za' ta' ka')))) (at2 D ty (va_A (mW hm qs qt qm cI cJ cZ th cn nw v w z hd za ta ka) sz)) (va_A (mW hm qs qt qm cI cJ cZ th cn nw v w z hd za ta ka) sz)) 0 0 (va_A (mW hm qs qt qm cI cJ cZ th cn nw v w z hd za ta ka) sz) := by
  refine Met.ofW (cc := b_M_take) (maxL := 4) (ret := (some .int)) (by decide) rfl ?_
  intro p e s m args below meth c s₁ B hml hv
  obtain ⟨rfl, hsz, hN0, ⟨hP, hK, hN⟩, hD0, hE⟩ := hv
  subst hsz
  have hD := hD0.self (sz := s.heap.size)
  have hAN := sw_AN hD0 hN0
  generalize hAe : va_A (mW hm qs qt qm cI cJ cZ th cn nw v w z hd za ta ka) s.heap.size = A at hD hAN ⊢
  have hA : ∀ q : Nat, s.heap.size ≤ q → A q := fun q h => by rw [← hAe]; exact Or.inr h
  have hS : va_S A s.heap s.heap [] := va_S.rf
  have hP : va_P D classes (mW hm qs qt qm cI cJ cZ th cn nw v w z hd za ta ka) s.heap := hP
  have hx := B.exec
  have hb := B.bytes
  have hr := B.returns
  have hg : ∀ w ∈ GW, w.before _ s = true := fun w h => atoms_spec (ws := Cond.code y_M_take b_M_take 4 (some .int) :: GW) B.pre w (List.mem_cons_of_mem _ h)
  have hown : s.vm.findClass R_M = some m.cls := findClass_of_methodNamed B.named
  have hlocks := B.notSynchronized
  have hl := lv_entry ([.ref hm, .int n]) (n := 4) (Nat.le_of_ble_eq_true rfl)
  rw [lg_entry_eq]
  generalize (lg_sl ([.ref hm, .int n]) ++ List.replicate (4 - (lg_sl ([.ref hm, .int n])).length) Slot.unset).toArray = ls at hl ⊢
  replace hl : lv_has ls 4 [(0, .ref hm), (1, .int n)] := hl
  replace hP : va_P D classes [(hm, .inr (2, [.int th, .int (nI cn), .ref qs, .ref qt, .ref qm, .int (nI nw), .int v, .int w, .int z, .int (nI hd)])), (qs, .inl (cI, 16386, .inl za)), (qt, .inl (cJ, 16386, .inl ta)), (qm, .inl (cZ, 16386, .inl ka))] _ := hP
  replace hD : va_D A [(hm, .inr (2, [.int th, .int (nI cn), .ref qs, .ref qt, .ref qm, .int (nI nw), .int v, .int w, .int z, .int (nI hd)])), (qs, .inl (cI, 16386, .inl za)), (qt, .inl (cJ, 16386, .inl ta)), (qm, .inl (cZ, 16386, .inl ka))] := hD
  have hcn := hI.2.2.1
  refine lv_aload_n hx hb d_M_take_0 rfl (lv_at hl 0 rfl) ?_
  refine lv_iload_n hx hb d_M_take_1 rfl (lv_at hl 1 rfl) ?_
  refine lv_iconst (v := 3) hx hb d_M_take_2 (by decide) ?_
  refine lv_icmp_lt (tgt := 17) hx hb d_M_take_3 (by decide) (fun c_3 => ?_) (fun c_3 => ?_)
  · refine lv_iconst (v := 0) hx hb d_M_take_17 (by decide) ?_
    refine lv_iconst (v := 1) hx hb d_M_take_18 (by decide) ?_
    have hFc := sw_free hD hS hA
    refine va_calli (va_runV (As := [.int 0, .int 1]) (rest := []) ⟨hx, hb, hml, hown, hg⟩ (c_M_goes l D ty N0 _ hm qs qt qm cI cJ cZ th cn nw v w z hd za ta ka false true t0 t1 t2) (cwV 2 hg (gw_V gw_393 gw_395 gw_17 gw_28 gw_396) rfl rfl rfl (by decide +kernel) ⟨Nat.le_of_ble_eq_true rfl, Nat.le_of_ble_eq_true rfl⟩) (pre_wrV hP hK hN hD hS hAN hN0 hE (ci := 2) (k := 0) rfl rfl) rfl rfl hl.1 rfl (lv_room (Nat.le_of_ble_eq_true rfl)) d_M_take_19 ⟨Nat.le_of_ble_eq_true rfl, Nat.le_of_ble_eq_true rfl⟩) hS (fun q _ h => hFc q h) hFc (fun r_ u t H locs ht hvm hw hB hz1 hk1 hS => ?_)
    obtain ⟨hP, hK1, hD1⟩ := hB
    rw [ht] at hP
    have hD := hD1.weaken (fun _ _ _ h => hFc _ h)
    clear hK1 hD1 hFc hk1 hz1
    obtain ⟨rfl, rfl⟩ := hw
    replace hP : va_P D classes [(hm, .inr (2, [.int (goT false true), .int (nI cn), .ref qs, .ref qt, .ref qm, .int (nI nw), .int v, .int w, .int z, .int (nI hd)])), (qs, .inl (cI, 16386, .inl za)), (qt, .inl (cJ, 16386, .inl ta)), (qm, .inl (cZ, 16386, .inl ka))] _ := hP
    replace hD : va_D A [(hm, .inr (2, [.int (goT false true), .int (nI cn), .ref qs, .ref qt, .ref qm, .int (nI nw), .int v, .int w, .int z, .int (nI hd)])), (qs, .inl (cI, 16386, .inl za)), (qt, .inl (cJ, 16386, .inl ta)), (qm, .inl (cZ, 16386, .inl ka))] := hD
    refine lv_if_ne (tgt := 27) hx hb d_M_take_22 (by decide) (fun c_22 => ?_) (fun c_22 => ?_)
    · exact absurd rfl c_22
    · refine lv_iconst (v := 0) hx hb d_M_take_25 (by decide) ?_
      refine W.widen (k := 0) (n := 0) (Nat.le_of_ble_eq_true rfl) (Nat.le_of_ble_eq_true rfl) ?_
      exact W.iret (v := 0) hx hb hr (fun t ht hW => ⟨⟨_, _, rfl, (Or.inl ⟨Or.inl c_3, rfl⟩), at2.of hP hK hD ht hW⟩, hS.F ht⟩) hS.2.2 d_M_take_26
  · refine lv_iload_n hx hb d_M_take_6 rfl (lv_at hl 1 rfl) ?_
    refine lv_sipush (v := 2000) hx hb d_M_take_7 (by decide) ?_
    refine lv_icmp_gt (tgt := 17) hx hb d_M_take_10 (by decide) (fun c_10 => ?_) (fun c_10 => ?_)
    · refine lv_iconst (v := 0) hx hb d_M_take_17 (by decide) ?_
      refine lv_iconst (v := 1) hx hb d_M_take_18 (by decide) ?_
      have hFc := sw_free hD hS hA
      refine va_calli (va_runV (As := [.int 0, .int 1]) (rest := []) ⟨hx, hb, hml, hown, hg⟩ (c_M_goes l D ty N0 _ hm qs qt qm cI cJ cZ th cn nw v w z hd za ta ka false true t0 t1 t2) (cwV 2 hg (gw_V gw_393 gw_395 gw_17 gw_28 gw_396) rfl rfl rfl (by decide +kernel) ⟨Nat.le_of_ble_eq_true rfl, Nat.le_of_ble_eq_true rfl⟩) (pre_wrV hP hK hN hD hS hAN hN0 hE (ci := 2) (k := 0) rfl rfl) rfl rfl hl.1 rfl (lv_room (Nat.le_of_ble_eq_true rfl)) d_M_take_19 ⟨Nat.le_of_ble_eq_true rfl, Nat.le_of_ble_eq_true rfl⟩) hS (fun q _ h => hFc q h) hFc (fun r_ u t H locs ht hvm hw hB hz1 hk1 hS => ?_)
      obtain ⟨hP, hK1, hD1⟩ := hB
      rw [ht] at hP
      have hD := hD1.weaken (fun _ _ _ h => hFc _ h)
      clear hK1 hD1 hFc hk1 hz1
      obtain ⟨rfl, rfl⟩ := hw
      replace hP : va_P D classes [(hm, .inr (2, [.int (goT false true), .int (nI cn), .ref qs, .ref qt, .ref qm, .int (nI nw), .int v, .int w, .int z, .int (nI hd)])), (qs, .inl (cI, 16386, .inl za)), (qt, .inl (cJ, 16386, .inl ta)), (qm, .inl (cZ, 16386, .inl ka))] _ := hP
      replace hD : va_D A [(hm, .inr (2, [.int (goT false true), .int (nI cn), .ref qs, .ref qt, .ref qm, .int (nI nw), .int v, .int w, .int z, .int (nI hd)])), (qs, .inl (cI, 16386, .inl za)), (qt, .inl (cJ, 16386, .inl ta)), (qm, .inl (cZ, 16386, .inl ka))] := hD
      refine lv_if_ne (tgt := 27) hx hb d_M_take_22 (by decide) (fun c_22 => ?_) (fun c_22 => ?_)
      · exact absurd rfl c_22
      · refine lv_iconst (v := 0) hx hb d_M_take_25 (by decide) ?_
        refine W.widen (k := 0) (n := 0) (Nat.le_of_ble_eq_true rfl) (Nat.le_of_ble_eq_true rfl) ?_
        exact W.iret (v := 0) hx hb hr (fun t ht hW => ⟨⟨_, _, rfl, (Or.inl ⟨Or.inr (Int32.not_le.mpr c_10), rfl⟩), at2.of hP hK hD ht hW⟩, hS.F ht⟩) hS.2.2 d_M_take_26
    · refine lv_iconst (v := 1) hx hb d_M_take_13 (by decide) ?_
      refine lv_goto (tgt := 18) hx hb d_M_take_14 (by decide) ?_
      refine lv_iconst (v := 1) hx hb d_M_take_18 (by decide) ?_
      have hFc := sw_free hD hS hA
      refine va_calli (va_runV (As := [.int 1, .int 1]) (rest := []) ⟨hx, hb, hml, hown, hg⟩ (c_M_goes l D ty N0 _ hm qs qt qm cI cJ cZ th cn nw v w z hd za ta ka true true t0 t1 t2) (cwV 2 hg (gw_V gw_393 gw_395 gw_17 gw_28 gw_396) rfl rfl rfl (by decide +kernel) ⟨Nat.le_of_ble_eq_true rfl, Nat.le_of_ble_eq_true rfl⟩) (pre_wrV hP hK hN hD hS hAN hN0 hE (ci := 2) (k := 0) rfl rfl) rfl rfl hl.1 rfl (lv_room (Nat.le_of_ble_eq_true rfl)) d_M_take_19 ⟨Nat.le_of_ble_eq_true rfl, Nat.le_of_ble_eq_true rfl⟩) hS (fun q _ h => hFc q h) hFc (fun r_ u t H locs ht hvm hw hB hz1 hk1 hS => ?_)
      obtain ⟨hP, hK1, hD1⟩ := hB
      rw [ht] at hP
      have hD := hD1.weaken (fun _ _ _ h => hFc _ h)
      clear hK1 hD1 hFc hk1 hz1
      obtain ⟨rfl, rfl⟩ := hw
      replace hP : va_P D classes [(hm, .inr (2, [.int (goT true true), .int (nI cn), .ref qs, .ref qt, .ref qm, .int (nI nw), .int v, .int w, .int z, .int (nI hd)])), (qs, .inl (cI, 16386, .inl za)), (qt, .inl (cJ, 16386, .inl ta)), (qm, .inl (cZ, 16386, .inl ka))] _ := hP
      replace hD : va_D A [(hm, .inr (2, [.int (goT true true), .int (nI cn), .ref qs, .ref qt, .ref qm, .int (nI nw), .int v, .int w, .int z, .int (nI hd)])), (qs, .inl (cI, 16386, .inl za)), (qt, .inl (cJ, 16386, .inl ta)), (qm, .inl (cZ, 16386, .inl ka))] := hD
      refine lv_if_ne (tgt := 27) hx hb d_M_take_22 (by decide) (fun c_22 => ?_) (fun c_22 => ?_)
      · refine lv_aload_n hx hb d_M_take_27 rfl (lv_at hl 0 rfl) ?_
        refine lv_iload_n hx hb d_M_take_28 rfl (lv_at hl 1 rfl) ?_
        obtain ⟨k, hk1, hk2, rfl⟩ := rng (lo := 3) (hi := 2000) c_3 (Int32.not_lt.mp c_10) (by decide) (by decide)
        replace hl : lv_has ls 4 [(0, .ref hm), (1, .int (nI k))] := hl
        refine vp_callSi (va_runV (As := [.int (nI k)]) (rest := []) ⟨hx, hb, hml, hown, hg⟩ (c_M_best l D ty hm qs qt qm cI cJ cZ (goT true true) cn nw v w z hd za ta ka L f hI k t0 t1 t2 (by omega)) (cwV 1 hg (gw_V gw_405 gw_407 gw_19 gw_28 gw_408) rfl rfl rfl (by decide +kernel) ⟨Nat.le_of_ble_eq_true rfl, Nat.le_of_ble_eq_true rfl⟩) (pre_roV hP hK hN (ci := 2) (k := 0) rfl rfl) rfl rfl hl.1 rfl (lv_room (Nat.le_of_ble_eq_true rfl)) d_M_take_29 ⟨Nat.le_of_ble_eq_true rfl, Nat.le_of_ble_eq_true rfl⟩).run (fun r1 hr1 => ?_)
        rcases hwt : wtf k L none with _ | x
        · rw [hwt] at hr1
          replace hr1 : r1 = nI 0 := hr1
          subst hr1
          refine lv_istore_n (lv' := [(2, .int (nI 0)), (0, .ref hm), (1, .int (nI k))]) hx hb d_M_take_32 rfl hl (by decide) rfl (fun ls hl => ?_)
          refine lv_iload_n hx hb d_M_take_33 rfl (lv_at hl 0 rfl) ?_
          refine lv_if_ne (tgt := 49) hx hb d_M_take_34 (by decide) (fun c_34 => ?_) (fun c_34 => ?_)
          · exact absurd nI_0 c_34
          · refine lv_aload_n hx hb d_M_take_37 rfl (lv_at hl 1 rfl) ?_
            refine lv_dup hx hb d_M_take_38 rfl ?_
            refine va_get (D := D) (ci := 2) (v := .int v) (C := R_M) (T := F_M) (N := 10) hx hb hg gi_M hown hK hP 0 rfl rfl 6 (by decide) (hg _ gw_358) (fun _ h9 => h9) rfl d_M_take_39 ?_
            refine lv_iconst (v := 1) hx hb d_M_take_42 (by decide) ?_
            refine lv_iadd hx hb d_M_take_43 ?_
            refine va_put (D := D) (ci := 2) (v := .int (v + 1)) (ty := .int) (C := R_M) (T := F_M) (N := 10) hx hb hg gi_M t_M t_M_ok n_M hown hK hP hD hS 0 rfl rfl 6 (by decide) (hg _ gw_358) (fun _ h9 => h9) rfl (by decide +kernel) rfl rfl (Nat.le_of_ble_eq_true rfl) d_M_take_44 (fun H locs hP hD hS => ?_)
            replace hP : va_P D classes [(hm, .inr (2, [.int (goT true true), .int (nI cn), .ref qs, .ref qt, .ref qm, .int (nI nw), .int (v + 1), .int w, .int z, .int (nI hd)])), (qs, .inl (cI, 16386, .inl za)), (qt, .inl (cJ, 16386, .inl ta)), (qm, .inl (cZ, 16386, .inl ka))] _ := hP
            replace hD : va_D A [(hm, .inr (2, [.int (goT true true), .int (nI cn), .ref qs, .ref qt, .ref qm, .int (nI nw), .int (v + 1), .int w, .int z, .int (nI hd)])), (qs, .inl (cI, 16386, .inl za)), (qt, .inl (cJ, 16386, .inl ta)), (qm, .inl (cZ, 16386, .inl ka))] := hD
            refine lv_iconst (v := 0) hx hb d_M_take_47 (by decide) ?_
            refine W.widen (k := 0) (n := 0) (Nat.le_of_ble_eq_true rfl) (Nat.le_of_ble_eq_true rfl) ?_
            exact W.iret (v := 0) hx hb hr (fun t ht hW => ⟨⟨_, _, rfl, (Or.inr ⟨k, hk1, hk2, rfl, Or.inl ⟨hwt, rfl, rfl⟩⟩), at2.of hP hK hD ht hW⟩, hS.F ht⟩) hS.2.2 d_M_take_48
        · rw [hwt] at hr1
          replace hr1 : r1 = nI x.2.1 := hr1
          subst hr1
          have hxL : x ∈ L := (wtf_mem hwt).resolve_right (fun h9 => by cases h9)
          obtain ⟨hwk, hwf⟩ := wtf_ok (fun y h9 => by cases h9) hwt
          have hxe := ((Til_lo hI.2.1).2 x hxL).2.1
          obtain ⟨hx1, hx2, hx3, hb9, hx4, hx5, hn1, hn2, hn3⟩ := hI.x hxL
          refine lv_istore_n (lv' := [(2, .int (nI x.2.1)), (0, .ref hm), (1, .int (nI k))]) hx hb d_M_take_32 rfl hl (by decide) rfl (fun ls hl => ?_)
          refine lv_iload_n hx hb d_M_take_33 rfl (lv_at hl 0 rfl) ?_
          refine lv_if_ne (tgt := 49) hx hb d_M_take_34 (by decide) (fun c_34 => ?_) (fun c_34 => ?_)
          · refine lv_aload_n hx hb d_M_take_49 rfl (lv_at hl 1 rfl) ?_
            refine lv_iload_n hx hb d_M_take_50 rfl (lv_at hl 0 rfl) ?_
            refine vp_callSi (va_runV (As := [.int (nI x.2.1)]) (rest := []) ⟨hx, hb, hml, hown, hg⟩ (c_M_length l D ty hm qs qt qm cI cJ cZ (goT true true) cn nw v w z hd za ta ka x.2.1 t0 t1 t2 hb9) (cwV 1 hg (gw_V gw_409 gw_411 gw_20 gw_28 gw_412) rfl rfl rfl (by decide +kernel) ⟨Nat.le_of_ble_eq_true rfl, Nat.le_of_ble_eq_true rfl⟩) (pre_roV hP hK hN (ci := 2) (k := 0) rfl rfl) rfl rfl hl.1 rfl (lv_room (Nat.le_of_ble_eq_true rfl)) d_M_take_51 ⟨Nat.le_of_ble_eq_true rfl, Nat.le_of_ble_eq_true rfl⟩).run (fun r2 hr2 => ?_)
            replace hr2 : r2 = nI x.2.2.1 := by rw [hr2, hx1, lenF_x hn1 hn2]
            subst hr2
            refine lv_iload_n hx hb d_M_take_54 rfl (lv_at hl 2 rfl) ?_
            refine lv_isub hx hb d_M_take_55 ?_
            refine lv_topi (fun y1 ey1 => ?_)
            obtain rfl : y1 = nI (x.2.2.1 - k) := ey1.trans (pk_sub hwk)
            clear ey1
            refine lv_istore_n (lv' := [(3, .int (nI (x.2.2.1 - k))), (2, .int (nI x.2.1)), (0, .ref hm), (1, .int (nI k))]) hx hb d_M_take_56 rfl hl (by decide) rfl (fun ls hl => ?_)
            refine lv_aload_n hx hb d_M_take_57 rfl (lv_at hl 2 rfl) ?_
            refine va_get (D := D) (ci := 2) (v := .ref qs) (C := R_M) (T := F_M) (N := 10) hx hb hg gi_M hown hK hP 0 rfl rfl 2 (by decide) (hg _ gw_354) (fun _ h9 => h9) rfl d_M_take_58 ?_
            refine lv_iload_n hx hb d_M_take_61 rfl (lv_at hl 1 rfl) ?_
            refine lv_iload_n hx hb d_M_take_62 rfl (lv_at hl 3 rfl) ?_
            refine va_iast hx hb hK hP hD hS 1 0 rfl t0 (vp_in_nI hb9 (by decide)) d_M_take_63 (fun H locs hP hD hS => ?_)
            rw [nI_clamp (Nat.lt_trans hb9 (by decide))] at hP hD
            replace hP : va_P D classes [(hm, .inr (2, [.int (goT true true), .int (nI cn), .ref qs, .ref qt, .ref qm, .int (nI nw), .int v, .int w, .int z, .int (nI hd)])), (qs, .inl (cI, 16386, .inl (upd za x.2.1 (nI k)))), (qt, .inl (cJ, 16386, .inl ta)), (qm, .inl (cZ, 16386, .inl ka))] _ := hP
            replace hD : va_D A [(hm, .inr (2, [.int (goT true true), .int (nI cn), .ref qs, .ref qt, .ref qm, .int (nI nw), .int v, .int w, .int z, .int (nI hd)])), (qs, .inl (cI, 16386, .inl (upd za x.2.1 (nI k)))), (qt, .inl (cJ, 16386, .inl ta)), (qm, .inl (cZ, 16386, .inl ka))] := hD
            refine lv_aload_n hx hb d_M_take_64 rfl (lv_at hl 2 rfl) ?_
            refine va_get (D := D) (ci := 2) (v := .ref qm) (C := R_M) (T := F_M) (N := 10) hx hb hg gi_M hown hK hP 0 rfl rfl 4 (by decide) (hg _ gw_356) (fun _ h9 => h9) rfl d_M_take_65 ?_
            refine lv_iload_n hx hb d_M_take_68 rfl (lv_at hl 1 rfl) ?_
            refine lv_aload_n hx hb d_M_take_69 rfl (lv_at hl 2 rfl) ?_
            refine va_get (D := D) (ci := 2) (v := .int (nI hd)) (C := R_M) (T := F_M) (N := 10) hx hb hg gi_M hown hK hP 0 rfl rfl 9 (by decide) (hg _ gw_361) (fun _ h9 => h9) rfl d_M_take_70 ?_
            refine lv_if_le (tgt := 88) hx hb d_M_take_73 (by decide) (fun c_73 => ?_) (fun c_73 => ?_)
            · refine lv_iconst (v := 0) hx hb d_M_take_88 (by decide) ?_
              refine lv_topi (fun y2 ey2 => ?_)
              obtain rfl : y2 = bI (mkB hd x) := ey2.trans (by have h9 := (nI_leI (b := 0) hh (by decide)).mp c_73; simp [mkB, bI]; omega)
              clear ey2
              refine va_zast hx hb hK hP hD hS 3 2 rfl t2 (vp_in_nI hb9 (by decide)) d_M_take_89 (fun H locs hP hD hS => ?_)
              rw [nI_clamp (Nat.lt_trans hb9 (by decide))] at hP hD
              rw [show vp_nar .boolean (bI (mkB hd x)) = (bI (mkB hd x)) from bI_vp _] at hP hD
              replace hP : va_P D classes [(hm, .inr (2, [.int (goT true true), .int (nI cn), .ref qs, .ref qt, .ref qm, .int (nI nw), .int v, .int w, .int z, .int (nI hd)])), (qs, .inl (cI, 16386, .inl (upd za x.2.1 (nI k)))), (qt, .inl (cJ, 16386, .inl ta)), (qm, .inl (cZ, 16386, .inl (upd ka x.2.1 (bI (mkB hd x)))))] _ := hP
              replace hD : va_D A [(hm, .inr (2, [.int (goT true true), .int (nI cn), .ref qs, .ref qt, .ref qm, .int (nI nw), .int v, .int w, .int z, .int (nI hd)])), (qs, .inl (cI, 16386, .inl (upd za x.2.1 (nI k)))), (qt, .inl (cJ, 16386, .inl ta)), (qm, .inl (cZ, 16386, .inl (upd ka x.2.1 (bI (mkB hd x)))))] := hD
              refine lv_iload_n hx hb d_M_take_90 rfl (lv_at hl 0 rfl) ?_
              refine lv_if_le (tgt := 102) hx hb d_M_take_91 (by decide) (fun c_91 => ?_) (fun c_91 => ?_)
              · refine lv_iload_n hx hb d_M_take_102 rfl (lv_at hl 1 rfl) ?_
                refine W.widen (k := 0) (n := 0) (Nat.le_of_ble_eq_true rfl) (Nat.le_of_ble_eq_true rfl) ?_
                exact W.iret (v := (nI x.2.1)) hx hb hr (fun t ht hW => ⟨⟨_, _, rfl, (Or.inr ⟨k, hk1, hk2, rfl, Or.inr ⟨x, hwt, rfl, Or.inl ⟨by have h9 := (nI_leI (b := 0) (by omega) (by decide)).mp c_91; omega, _, _, rfl, fun l1 l2 h9 => by have h8 : k = x.2.2.1 := (by have h7 := (nI_leI (b := 0) (by omega) (by decide)).mp c_91; omega); rw [h8]; subst h9; exact hI.take1 (mkB hd x)⟩⟩⟩), at2.of hP hK hD ht hW⟩, hS.F ht⟩) hS.2.2 d_M_take_103
              · have hlt : k < x.2.2.1 := by have h9 := Nat.not_le.mp (fun h9 => c_91 ((nI_leI (b := 0) (by omega) (by decide)).mpr h9)); omega
                refine lv_aload_n hx hb d_M_take_94 rfl (lv_at hl 2 rfl) ?_
                refine lv_iload_n hx hb d_M_take_95 rfl (lv_at hl 1 rfl) ?_
                refine lv_iload_n hx hb d_M_take_96 rfl (lv_at hl 3 rfl) ?_
                refine lv_iadd hx hb d_M_take_97 ?_
                refine lv_topi (fun y3 ey3 => ?_)
                obtain rfl : y3 = nI (x.2.1 + k) := ey3.trans (nI_add _ _)
                clear ey3
                refine lv_iload_n hx hb d_M_take_98 rfl (lv_at hl 0 rfl) ?_
                have hFc := sw_free hD hS hA
                refine va_callv (va_runV (As := [.int (nI (x.2.1 + k)), .int (nI (x.2.2.1 - k))]) (rest := []) ⟨hx, hb, hml, hown, hg⟩ (c_M_release l D ty N0 _ hm qs qt qm cI cJ cZ (goT true true) cn nw v w z hd (upd za x.2.1 (nI k)) ta (upd ka x.2.1 (bI (mkB hd x))) (x.2.1 + k) (nI (x.2.2.1 - k)) t0 t1 t2 (by omega)) (cwV 2 hg (gw_V gw_397 gw_399 gw_18 gw_28 gw_400) rfl rfl rfl (by decide +kernel) ⟨Nat.le_of_ble_eq_true rfl, Nat.le_of_ble_eq_true rfl⟩) (pre_wrV hP hK hN hD hS hAN hN0 hE (ci := 2) (k := 0) rfl rfl) rfl rfl hl.1 rfl (lv_room (Nat.le_of_ble_eq_true rfl)) d_M_take_99 ⟨Nat.le_of_ble_eq_true rfl, Nat.le_of_ble_eq_true rfl⟩) hS (fun q _ h => hFc q h) hFc (fun u t H locs ht hvm hw hB hz1 hk1 hS => ?_)
                obtain ⟨hP, hK1, hD1⟩ := hB
                rw [ht] at hP
                have hD := hD1.weaken (fun _ _ _ h => hFc _ h)
                clear hK1 hD1 hFc hk1 hz1
                subst hw
                refine lv_iload_n hx hb d_M_take_102 rfl (lv_at hl 1 rfl) ?_
                refine W.widen (k := 0) (n := 0) (Nat.le_of_ble_eq_true rfl) (Nat.le_of_ble_eq_true rfl) ?_
                exact W.iret (v := (nI x.2.1)) hx hb hr (fun t ht hW => ⟨⟨_, _, rfl, (Or.inr ⟨k, hk1, hk2, rfl, Or.inr ⟨x, hwt, rfl, Or.inr ⟨hlt, _, _, _, rfl, fun q l1 l2 h9 => by subst h9; exact hI.take2 (mkB hd x) q k (by omega) hlt hnw⟩⟩⟩), at2.of hP hK hD ht hW⟩, hS.F ht⟩) hS.2.2 d_M_take_103
            · refine lv_iload_n hx hb d_M_take_76 rfl (lv_at hl 1 rfl) ?_
              refine lv_aload_n hx hb d_M_take_77 rfl (lv_at hl 2 rfl) ?_
              refine va_get (D := D) (ci := 2) (v := .int (nI hd)) (C := R_M) (T := F_M) (N := 10) hx hb hg gi_M hown hK hP 0 rfl rfl 9 (by decide) (hg _ gw_361) (fun _ h9 => h9) rfl d_M_take_78 ?_
              refine lv_icmp_lt (tgt := 88) hx hb d_M_take_81 (by decide) (fun c_81 => ?_) (fun c_81 => ?_)
              · refine lv_iconst (v := 0) hx hb d_M_take_88 (by decide) ?_
                refine lv_topi (fun y4 ey4 => ?_)
                obtain rfl : y4 = bI (mkB hd x) := ey4.trans (by have h8 := Nat.not_le.mp (fun h9 => c_73 ((nI_leI (b := 0) hh (by decide)).mpr h9)); have h9 := (nI_ltI (by omega) hh).mp c_81; simp [mkB, bI]; omega)
                clear ey4
                refine va_zast hx hb hK hP hD hS 3 2 rfl t2 (vp_in_nI hb9 (by decide)) d_M_take_89 (fun H locs hP hD hS => ?_)
                rw [nI_clamp (Nat.lt_trans hb9 (by decide))] at hP hD
                rw [show vp_nar .boolean (bI (mkB hd x)) = (bI (mkB hd x)) from bI_vp _] at hP hD
                replace hP : va_P D classes [(hm, .inr (2, [.int (goT true true), .int (nI cn), .ref qs, .ref qt, .ref qm, .int (nI nw), .int v, .int w, .int z, .int (nI hd)])), (qs, .inl (cI, 16386, .inl (upd za x.2.1 (nI k)))), (qt, .inl (cJ, 16386, .inl ta)), (qm, .inl (cZ, 16386, .inl (upd ka x.2.1 (bI (mkB hd x)))))] _ := hP
                replace hD : va_D A [(hm, .inr (2, [.int (goT true true), .int (nI cn), .ref qs, .ref qt, .ref qm, .int (nI nw), .int v, .int w, .int z, .int (nI hd)])), (qs, .inl (cI, 16386, .inl (upd za x.2.1 (nI k)))), (qt, .inl (cJ, 16386, .inl ta)), (qm, .inl (cZ, 16386, .inl (upd ka x.2.1 (bI (mkB hd x)))))] := hD
                refine lv_iload_n hx hb d_M_take_90 rfl (lv_at hl 0 rfl) ?_
                refine lv_if_le (tgt := 102) hx hb d_M_take_91 (by decide) (fun c_91 => ?_) (fun c_91 => ?_)
                · refine lv_iload_n hx hb d_M_take_102 rfl (lv_at hl 1 rfl) ?_
                  refine W.widen (k := 0) (n := 0) (Nat.le_of_ble_eq_true rfl) (Nat.le_of_ble_eq_true rfl) ?_
                  exact W.iret (v := (nI x.2.1)) hx hb hr (fun t ht hW => ⟨⟨_, _, rfl, (Or.inr ⟨k, hk1, hk2, rfl, Or.inr ⟨x, hwt, rfl, Or.inl ⟨by have h9 := (nI_leI (b := 0) (by omega) (by decide)).mp c_91; omega, _, _, rfl, fun l1 l2 h9 => by have h8 : k = x.2.2.1 := (by have h7 := (nI_leI (b := 0) (by omega) (by decide)).mp c_91; omega); rw [h8]; subst h9; exact hI.take1 (mkB hd x)⟩⟩⟩), at2.of hP hK hD ht hW⟩, hS.F ht⟩) hS.2.2 d_M_take_103
                · have hlt : k < x.2.2.1 := by have h9 := Nat.not_le.mp (fun h9 => c_91 ((nI_leI (b := 0) (by omega) (by decide)).mpr h9)); omega
                  refine lv_aload_n hx hb d_M_take_94 rfl (lv_at hl 2 rfl) ?_
                  refine lv_iload_n hx hb d_M_take_95 rfl (lv_at hl 1 rfl) ?_
                  refine lv_iload_n hx hb d_M_take_96 rfl (lv_at hl 3 rfl) ?_
                  refine lv_iadd hx hb d_M_take_97 ?_
                  refine lv_topi (fun y5 ey5 => ?_)
                  obtain rfl : y5 = nI (x.2.1 + k) := ey5.trans (nI_add _ _)
                  clear ey5
                  refine lv_iload_n hx hb d_M_take_98 rfl (lv_at hl 0 rfl) ?_
                  have hFc := sw_free hD hS hA
                  refine va_callv (va_runV (As := [.int (nI (x.2.1 + k)), .int (nI (x.2.2.1 - k))]) (rest := []) ⟨hx, hb, hml, hown, hg⟩ (c_M_release l D ty N0 _ hm qs qt qm cI cJ cZ (goT true true) cn nw v w z hd (upd za x.2.1 (nI k)) ta (upd ka x.2.1 (bI (mkB hd x))) (x.2.1 + k) (nI (x.2.2.1 - k)) t0 t1 t2 (by omega)) (cwV 2 hg (gw_V gw_397 gw_399 gw_18 gw_28 gw_400) rfl rfl rfl (by decide +kernel) ⟨Nat.le_of_ble_eq_true rfl, Nat.le_of_ble_eq_true rfl⟩) (pre_wrV hP hK hN hD hS hAN hN0 hE (ci := 2) (k := 0) rfl rfl) rfl rfl hl.1 rfl (lv_room (Nat.le_of_ble_eq_true rfl)) d_M_take_99 ⟨Nat.le_of_ble_eq_true rfl, Nat.le_of_ble_eq_true rfl⟩) hS (fun q _ h => hFc q h) hFc (fun u t H locs ht hvm hw hB hz1 hk1 hS => ?_)
                  obtain ⟨hP, hK1, hD1⟩ := hB
                  rw [ht] at hP
                  have hD := hD1.weaken (fun _ _ _ h => hFc _ h)
                  clear hK1 hD1 hFc hk1 hz1
                  subst hw
                  refine lv_iload_n hx hb d_M_take_102 rfl (lv_at hl 1 rfl) ?_
                  refine W.widen (k := 0) (n := 0) (Nat.le_of_ble_eq_true rfl) (Nat.le_of_ble_eq_true rfl) ?_
                  exact W.iret (v := (nI x.2.1)) hx hb hr (fun t ht hW => ⟨⟨_, _, rfl, (Or.inr ⟨k, hk1, hk2, rfl, Or.inr ⟨x, hwt, rfl, Or.inr ⟨hlt, _, _, _, rfl, fun q l1 l2 h9 => by subst h9; exact hI.take2 (mkB hd x) q k (by omega) hlt hnw⟩⟩⟩), at2.of hP hK hD ht hW⟩, hS.F ht⟩) hS.2.2 d_M_take_103
              · refine lv_iconst (v := 1) hx hb d_M_take_84 (by decide) ?_
                refine lv_goto (tgt := 89) hx hb d_M_take_85 (by decide) ?_
                refine lv_topi (fun y6 ey6 => ?_)
                obtain rfl : y6 = bI (mkB hd x) := ey6.trans (by have h8 := Nat.not_le.mp (fun h9 => c_73 ((nI_leI (b := 0) hh (by decide)).mpr h9)); have h9 := Nat.not_lt.mp (fun h9 => c_81 ((nI_ltI (by omega) hh).mpr h9)); simp [mkB, bI, h8, h9])
                clear ey6
                refine va_zast hx hb hK hP hD hS 3 2 rfl t2 (vp_in_nI hb9 (by decide)) d_M_take_89 (fun H locs hP hD hS => ?_)
                rw [nI_clamp (Nat.lt_trans hb9 (by decide))] at hP hD
                rw [show vp_nar .boolean (bI (mkB hd x)) = (bI (mkB hd x)) from bI_vp _] at hP hD
                replace hP : va_P D classes [(hm, .inr (2, [.int (goT true true), .int (nI cn), .ref qs, .ref qt, .ref qm, .int (nI nw), .int v, .int w, .int z, .int (nI hd)])), (qs, .inl (cI, 16386, .inl (upd za x.2.1 (nI k)))), (qt, .inl (cJ, 16386, .inl ta)), (qm, .inl (cZ, 16386, .inl (upd ka x.2.1 (bI (mkB hd x)))))] _ := hP
                replace hD : va_D A [(hm, .inr (2, [.int (goT true true), .int (nI cn), .ref qs, .ref qt, .ref qm, .int (nI nw), .int v, .int w, .int z, .int (nI hd)])), (qs, .inl (cI, 16386, .inl (upd za x.2.1 (nI k)))), (qt, .inl (cJ, 16386, .inl ta)), (qm, .inl (cZ, 16386, .inl (upd ka x.2.1 (bI (mkB hd x)))))] := hD
                refine lv_iload_n hx hb d_M_take_90 rfl (lv_at hl 0 rfl) ?_
                refine lv_if_le (tgt := 102) hx hb d_M_take_91 (by decide) (fun c_91 => ?_) (fun c_91 => ?_)
                · refine lv_iload_n hx hb d_M_take_102 rfl (lv_at hl 1 rfl) ?_
                  refine W.widen (k := 0) (n := 0) (Nat.le_of_ble_eq_true rfl) (Nat.le_of_ble_eq_true rfl) ?_
                  exact W.iret (v := (nI x.2.1)) hx hb hr (fun t ht hW => ⟨⟨_, _, rfl, (Or.inr ⟨k, hk1, hk2, rfl, Or.inr ⟨x, hwt, rfl, Or.inl ⟨by have h9 := (nI_leI (b := 0) (by omega) (by decide)).mp c_91; omega, _, _, rfl, fun l1 l2 h9 => by have h8 : k = x.2.2.1 := (by have h7 := (nI_leI (b := 0) (by omega) (by decide)).mp c_91; omega); rw [h8]; subst h9; exact hI.take1 (mkB hd x)⟩⟩⟩), at2.of hP hK hD ht hW⟩, hS.F ht⟩) hS.2.2 d_M_take_103
                · have hlt : k < x.2.2.1 := by have h9 := Nat.not_le.mp (fun h9 => c_91 ((nI_leI (b := 0) (by omega) (by decide)).mpr h9)); omega
                  refine lv_aload_n hx hb d_M_take_94 rfl (lv_at hl 2 rfl) ?_
                  refine lv_iload_n hx hb d_M_take_95 rfl (lv_at hl 1 rfl) ?_
                  refine lv_iload_n hx hb d_M_take_96 rfl (lv_at hl 3 rfl) ?_
                  refine lv_iadd hx hb d_M_take_97 ?_
                  refine lv_topi (fun y7 ey7 => ?_)
                  obtain rfl : y7 = nI (x.2.1 + k) := ey7.trans (nI_add _ _)
                  clear ey7
                  refine lv_iload_n hx hb d_M_take_98 rfl (lv_at hl 0 rfl) ?_
                  have hFc := sw_free hD hS hA
                  refine va_callv (va_runV (As := [.int (nI (x.2.1 + k)), .int (nI (x.2.2.1 - k))]) (rest := []) ⟨hx, hb, hml, hown, hg⟩ (c_M_release l D ty N0 _ hm qs qt qm cI cJ cZ (goT true true) cn nw v w z hd (upd za x.2.1 (nI k)) ta (upd ka x.2.1 (bI (mkB hd x))) (x.2.1 + k) (nI (x.2.2.1 - k)) t0 t1 t2 (by omega)) (cwV 2 hg (gw_V gw_397 gw_399 gw_18 gw_28 gw_400) rfl rfl rfl (by decide +kernel) ⟨Nat.le_of_ble_eq_true rfl, Nat.le_of_ble_eq_true rfl⟩) (pre_wrV hP hK hN hD hS hAN hN0 hE (ci := 2) (k := 0) rfl rfl) rfl rfl hl.1 rfl (lv_room (Nat.le_of_ble_eq_true rfl)) d_M_take_99 ⟨Nat.le_of_ble_eq_true rfl, Nat.le_of_ble_eq_true rfl⟩) hS (fun q _ h => hFc q h) hFc (fun u t H locs ht hvm hw hB hz1 hk1 hS => ?_)
                  obtain ⟨hP, hK1, hD1⟩ := hB
                  rw [ht] at hP
                  have hD := hD1.weaken (fun _ _ _ h => hFc _ h)
                  clear hK1 hD1 hFc hk1 hz1
                  subst hw
                  refine lv_iload_n hx hb d_M_take_102 rfl (lv_at hl 1 rfl) ?_
                  refine W.widen (k := 0) (n := 0) (Nat.le_of_ble_eq_true rfl) (Nat.le_of_ble_eq_true rfl) ?_
                  exact W.iret (v := (nI x.2.1)) hx hb hr (fun t ht hW => ⟨⟨_, _, rfl, (Or.inr ⟨k, hk1, hk2, rfl, Or.inr ⟨x, hwt, rfl, Or.inr ⟨hlt, _, _, _, rfl, fun q l1 l2 h9 => by subst h9; exact hI.take2 (mkB hd x) q k (by omega) hlt hnw⟩⟩⟩), at2.of hP hK hD ht hW⟩, hS.F ht⟩) hS.2.2 d_M_take_103
          · exact absurd c_34 (nI_ne0 (by omega) (by omega))
      · exact absurd c_22 (by decide)
