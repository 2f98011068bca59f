set_option maxHeartbeats 4000000 in
set_option maxRecDepth 100000 in
theorem c_M_sweep (l : Launch) (D : va_G) (ty : tyL) (N0 sz : Nat) (hm qs qt qm : Nat) (cI cJ cZ : ClassId) (th : Int32) (cn nw : Nat) (v w z : Int32) (hd : Nat) (za ta ka : Nat → Int32) (n : Int32) (p0 s0 : List AP) (f : Nat) (hI : Inv cn f nw (p0 ++ s0) za ta ka) (t0 : ty[0]? = some (cI, .int)) (t1 : ty[1]? = some (cJ, .int)) (t2 : ty[2]? = some (cZ, .boolean)) (hh : hd = hdB s0) (hnw : nw + 5001 < 2 ^ 30) : Met l y_M_sweep (Cond.code y_M_sweep b_M_sweep 3 (some .int) :: GW) ({ frames := 2, cells := 0, slots := 0, locals := 47 }) (va_Pc [.ref hm, .int n] (at1 D ty N0 sz (mW hm qs qt qm cI cJ cZ th cn nw v w z hd za ta ka))) (va_Qi (fun r ws' => ((n < 0 ∨ ¬ n ≤ 5000) ∧ ws' = mW hm qs qt qm cI cJ cZ 1 cn nw v w z hd za ta ka) ∨ ∃ k : Nat, k ≤ 5000 ∧ n = nI k ∧ r = nI (swR k p0 s0 f w z).1 ∧ ∃ (nw' : Nat) (za' ta' ka' : Nat → Int32), nw' + f = nw + (swR k p0 s0 f w z).2.2.2.1 ∧ nw' ≤ nw + 5000 ∧ ws' = mW hm qs qt qm cI cJ cZ 0 cn nw' v ((swR k p0 s0 f w z).2.2.2.2.1) ((swR k p0 s0 f w z).2.2.2.2.2) (hdB (swR k p0 s0 f w z).2.2.1) za' ta' ka' ∧ Inv cn (swR k p0 s0 f w z).2.2.2.1 nw' ((swR k p0 s0 f w z).2.1 ++ (swR k p0 s0 f w z).2.2.1) za' ta' ka') (at2 D ty (va_A (mW hm qs qt qm cI cJ cZ th cn nw v w z hd za ta ka) sz)) (va_A (mW hm qs qt qm cI cJ cZ th cn nw v w z hd za ta ka) sz)) 0 0 (va_A (mW hm qs qt qm cI cJ cZ th cn nw v w z hd za ta ka) sz) := by
  refine Met.ofW (cc := b_M_sweep) (maxL := 3) (ret := (some .int)) (by decide) rfl ?_
  intro p e s m args below meth c s₁ B hml hv
  obtain ⟨rfl, hsz, hN0, ⟨hP, hK, hN⟩, hD0, hE⟩ := hv
  subst hsz
  have hD := hD0.self (sz := s.heap.size)
  have hAN := sw_AN hD0 hN0
  generalize hAe : va_A (mW hm qs qt qm cI cJ cZ th cn nw v w z hd za ta ka) s.heap.size = A at hD hAN ⊢
  have hA : ∀ q : Nat, s.heap.size ≤ q → A q := fun q h => by rw [← hAe]; exact Or.inr h
  have hS : va_S A s.heap s.heap [] := va_S.rf
  have hP : va_P D classes (mW hm qs qt qm cI cJ cZ th cn nw v w z hd za ta ka) s.heap := hP
  have hx := B.exec
  have hb := B.bytes
  have hr := B.returns
  have hg : ∀ w ∈ GW, w.before _ s = true := fun w h => atoms_spec (ws := Cond.code y_M_sweep b_M_sweep 3 (some .int) :: GW) B.pre w (List.mem_cons_of_mem _ h)
  have hown : s.vm.findClass R_M = some m.cls := findClass_of_methodNamed B.named
  have hlocks := B.notSynchronized
  have hl := lv_entry ([.ref hm, .int n]) (n := 3) (Nat.le_of_ble_eq_true rfl)
  rw [lg_entry_eq]
  generalize (lg_sl ([.ref hm, .int n]) ++ List.replicate (3 - (lg_sl ([.ref hm, .int n])).length) Slot.unset).toArray = ls at hl ⊢
  replace hl : lv_has ls 3 [(0, .ref hm), (1, .int n)] := hl
  replace hP : va_P D classes [(hm, .inr (2, [.int th, .int (nI cn), .ref qs, .ref qt, .ref qm, .int (nI nw), .int v, .int w, .int z, .int (nI hd)])), (qs, .inl (cI, 16386, .inl za)), (qt, .inl (cJ, 16386, .inl ta)), (qm, .inl (cZ, 16386, .inl ka))] _ := hP
  replace hD : va_D A [(hm, .inr (2, [.int th, .int (nI cn), .ref qs, .ref qt, .ref qm, .int (nI nw), .int v, .int w, .int z, .int (nI hd)])), (qs, .inl (cI, 16386, .inl za)), (qt, .inl (cJ, 16386, .inl ta)), (qm, .inl (cZ, 16386, .inl ka))] := hD
  subst hh
  replace hP : va_P D classes [(hm, .inr (2, [.int th, .int (nI cn), .ref qs, .ref qt, .ref qm, .int (nI nw), .int v, .int w, .int z, .int (nI (hdB s0))])), (qs, .inl (cI, 16386, .inl za)), (qt, .inl (cJ, 16386, .inl ta)), (qm, .inl (cZ, 16386, .inl ka))] _ := hP
  replace hD : va_D A [(hm, .inr (2, [.int th, .int (nI cn), .ref qs, .ref qt, .ref qm, .int (nI nw), .int v, .int w, .int z, .int (nI (hdB s0))])), (qs, .inl (cI, 16386, .inl za)), (qt, .inl (cJ, 16386, .inl ta)), (qm, .inl (cZ, 16386, .inl ka))] := hD
  have hcn := hI.2.2.1
  refine lv_aload_n hx hb d_M_sweep_0 rfl (lv_at hl 0 rfl) ?_
  refine lv_iload_n hx hb d_M_sweep_1 rfl (lv_at hl 1 rfl) ?_
  refine lv_if_lt (tgt := 16) hx hb d_M_sweep_2 (by decide) (fun c_2 => ?_) (fun c_2 => ?_)
  · refine lv_iconst (v := 0) hx hb d_M_sweep_16 (by decide) ?_
    refine lv_iconst (v := 1) hx hb d_M_sweep_17 (by decide) ?_
    have hFc := sw_free hD hS hA
    refine va_calli (va_runV (As := [.int 0, .int 1]) (rest := []) ⟨hx, hb, hml, hown, hg⟩ (c_M_goes l D ty N0 _ hm qs qt qm cI cJ cZ th cn nw v w z (hdB s0) za ta ka false true t0 t1 t2) (cwV 2 hg (gw_V gw_393 gw_395 gw_17 gw_28 gw_396) rfl rfl rfl (by decide +kernel) ⟨Nat.le_of_ble_eq_true rfl, Nat.le_of_ble_eq_true rfl⟩) (pre_wrV hP hK hN hD hS hAN hN0 hE (ci := 2) (k := 0) rfl rfl) rfl rfl hl.1 rfl (lv_room (Nat.le_of_ble_eq_true rfl)) d_M_sweep_18 ⟨Nat.le_of_ble_eq_true rfl, Nat.le_of_ble_eq_true rfl⟩) hS (fun q _ h => hFc q h) hFc (fun r_ u t H locs ht hvm hw hB hz1 hk1 hS => ?_)
    obtain ⟨hP, hK1, hD1⟩ := hB
    rw [ht] at hP
    have hD := hD1.weaken (fun _ _ _ h => hFc _ h)
    clear hK1 hD1 hFc hk1 hz1
    obtain ⟨rfl, rfl⟩ := hw
    replace hP : va_P D classes [(hm, .inr (2, [.int (goT false true), .int (nI cn), .ref qs, .ref qt, .ref qm, .int (nI nw), .int v, .int w, .int z, .int (nI (hdB s0))])), (qs, .inl (cI, 16386, .inl za)), (qt, .inl (cJ, 16386, .inl ta)), (qm, .inl (cZ, 16386, .inl ka))] _ := hP
    replace hD : va_D A [(hm, .inr (2, [.int (goT false true), .int (nI cn), .ref qs, .ref qt, .ref qm, .int (nI nw), .int v, .int w, .int z, .int (nI (hdB s0))])), (qs, .inl (cI, 16386, .inl za)), (qt, .inl (cJ, 16386, .inl ta)), (qm, .inl (cZ, 16386, .inl ka))] := hD
    refine lv_if_ne (tgt := 26) hx hb d_M_sweep_21 (by decide) (fun c_21 => ?_) (fun c_21 => ?_)
    · exact absurd rfl c_21
    · refine lv_iconst (v := 0) hx hb d_M_sweep_24 (by decide) ?_
      refine W.widen (k := 0) (n := 0) (Nat.le_of_ble_eq_true rfl) (Nat.le_of_ble_eq_true rfl) ?_
      exact W.iret (v := 0) hx hb hr (fun t ht hW => ⟨⟨_, _, rfl, (Or.inl ⟨Or.inl c_2, rfl⟩), at2.of hP hK hD ht hW⟩, hS.F ht⟩) hS.2.2 d_M_sweep_25
  · refine lv_iload_n hx hb d_M_sweep_5 rfl (lv_at hl 1 rfl) ?_
    refine lv_sipush (v := 5000) hx hb d_M_sweep_6 (by decide) ?_
    refine lv_icmp_gt (tgt := 16) hx hb d_M_sweep_9 (by decide) (fun c_9 => ?_) (fun c_9 => ?_)
    · refine lv_iconst (v := 0) hx hb d_M_sweep_16 (by decide) ?_
      refine lv_iconst (v := 1) hx hb d_M_sweep_17 (by decide) ?_
      have hFc := sw_free hD hS hA
      refine va_calli (va_runV (As := [.int 0, .int 1]) (rest := []) ⟨hx, hb, hml, hown, hg⟩ (c_M_goes l D ty N0 _ hm qs qt qm cI cJ cZ th cn nw v w z (hdB s0) za ta ka false true t0 t1 t2) (cwV 2 hg (gw_V gw_393 gw_395 gw_17 gw_28 gw_396) rfl rfl rfl (by decide +kernel) ⟨Nat.le_of_ble_eq_true rfl, Nat.le_of_ble_eq_true rfl⟩) (pre_wrV hP hK hN hD hS hAN hN0 hE (ci := 2) (k := 0) rfl rfl) rfl rfl hl.1 rfl (lv_room (Nat.le_of_ble_eq_true rfl)) d_M_sweep_18 ⟨Nat.le_of_ble_eq_true rfl, Nat.le_of_ble_eq_true rfl⟩) hS (fun q _ h => hFc q h) hFc (fun r_ u t H locs ht hvm hw hB hz1 hk1 hS => ?_)
      obtain ⟨hP, hK1, hD1⟩ := hB
      rw [ht] at hP
      have hD := hD1.weaken (fun _ _ _ h => hFc _ h)
      clear hK1 hD1 hFc hk1 hz1
      obtain ⟨rfl, rfl⟩ := hw
      replace hP : va_P D classes [(hm, .inr (2, [.int (goT false true), .int (nI cn), .ref qs, .ref qt, .ref qm, .int (nI nw), .int v, .int w, .int z, .int (nI (hdB s0))])), (qs, .inl (cI, 16386, .inl za)), (qt, .inl (cJ, 16386, .inl ta)), (qm, .inl (cZ, 16386, .inl ka))] _ := hP
      replace hD : va_D A [(hm, .inr (2, [.int (goT false true), .int (nI cn), .ref qs, .ref qt, .ref qm, .int (nI nw), .int v, .int w, .int z, .int (nI (hdB s0))])), (qs, .inl (cI, 16386, .inl za)), (qt, .inl (cJ, 16386, .inl ta)), (qm, .inl (cZ, 16386, .inl ka))] := hD
      refine lv_if_ne (tgt := 26) hx hb d_M_sweep_21 (by decide) (fun c_21 => ?_) (fun c_21 => ?_)
      · exact absurd rfl c_21
      · refine lv_iconst (v := 0) hx hb d_M_sweep_24 (by decide) ?_
        refine W.widen (k := 0) (n := 0) (Nat.le_of_ble_eq_true rfl) (Nat.le_of_ble_eq_true rfl) ?_
        exact W.iret (v := 0) hx hb hr (fun t ht hW => ⟨⟨_, _, rfl, (Or.inl ⟨Or.inr (Int32.not_le.mpr c_9), rfl⟩), at2.of hP hK hD ht hW⟩, hS.F ht⟩) hS.2.2 d_M_sweep_25
    · refine lv_iconst (v := 1) hx hb d_M_sweep_12 (by decide) ?_
      refine lv_goto (tgt := 17) hx hb d_M_sweep_13 (by decide) ?_
      refine lv_iconst (v := 1) hx hb d_M_sweep_17 (by decide) ?_
      have hFc := sw_free hD hS hA
      refine va_calli (va_runV (As := [.int 1, .int 1]) (rest := []) ⟨hx, hb, hml, hown, hg⟩ (c_M_goes l D ty N0 _ hm qs qt qm cI cJ cZ th cn nw v w z (hdB s0) za ta ka true true t0 t1 t2) (cwV 2 hg (gw_V gw_393 gw_395 gw_17 gw_28 gw_396) rfl rfl rfl (by decide +kernel) ⟨Nat.le_of_ble_eq_true rfl, Nat.le_of_ble_eq_true rfl⟩) (pre_wrV hP hK hN hD hS hAN hN0 hE (ci := 2) (k := 0) rfl rfl) rfl rfl hl.1 rfl (lv_room (Nat.le_of_ble_eq_true rfl)) d_M_sweep_18 ⟨Nat.le_of_ble_eq_true rfl, Nat.le_of_ble_eq_true rfl⟩) hS (fun q _ h => hFc q h) hFc (fun r_ u t H locs ht hvm hw hB hz1 hk1 hS => ?_)
      obtain ⟨hP, hK1, hD1⟩ := hB
      rw [ht] at hP
      have hD := hD1.weaken (fun _ _ _ h => hFc _ h)
      clear hK1 hD1 hFc hk1 hz1
      obtain ⟨rfl, rfl⟩ := hw
      replace hP : va_P D classes [(hm, .inr (2, [.int (goT true true), .int (nI cn), .ref qs, .ref qt, .ref qm, .int (nI nw), .int v, .int w, .int z, .int (nI (hdB s0))])), (qs, .inl (cI, 16386, .inl za)), (qt, .inl (cJ, 16386, .inl ta)), (qm, .inl (cZ, 16386, .inl ka))] _ := hP
      replace hD : va_D A [(hm, .inr (2, [.int (goT true true), .int (nI cn), .ref qs, .ref qt, .ref qm, .int (nI nw), .int v, .int w, .int z, .int (nI (hdB s0))])), (qs, .inl (cI, 16386, .inl za)), (qt, .inl (cJ, 16386, .inl ta)), (qm, .inl (cZ, 16386, .inl ka))] := hD
      refine lv_if_ne (tgt := 26) hx hb d_M_sweep_21 (by decide) (fun c_21 => ?_) (fun c_21 => ?_)
      · obtain ⟨k, hk1, hk2, rfl⟩ := rng (lo := 0) (hi := 5000) c_2 (Int32.not_lt.mp c_9) (by decide) (by decide)
        replace hl : lv_has ls 3 [(0, .ref hm), (1, .int (nI k))] := hl
        refine lv_iconst (v := 0) hx hb d_M_sweep_26 (by decide) ?_
        refine lv_istore_n (lv' := [(2, .int 0), (0, .ref hm), (1, .int (nI k))]) hx hb d_M_sweep_27 rfl hl (by decide) rfl (fun ls hl => ?_)
        obtain ⟨i, hii⟩ : ∃ q : Nat, q = 0 := ⟨_, rfl⟩
        obtain ⟨d, hdd⟩ : ∃ q : Nat, q = k := ⟨_, rfl⟩
        have hik : i + d = k := by rw [hii, hdd, Nat.zero_add]
        obtain ⟨p1, s1, f1, w1, z1, hst⟩ : ∃ (p1 s1 : List AP) (f1 : Nat) (w1 z1 : Int32), (p1, s1, f1, w1, z1) = (p0, s0, f, w, z) := ⟨_, _, _, _, _, rfl⟩
        obtain ⟨nw1, hnw1⟩ : ∃ q : Nat, q = nw := ⟨_, rfl⟩
        obtain ⟨zb, tb, kb, hzb⟩ : ∃ (zb tb kb : Nat → Int32), (zb, tb, kb) = (za, ta, ka) := ⟨_, _, _, rfl⟩
        have hq : swR k p0 s0 f w z = ((swR d p1 s1 f1 w1 z1).1 + i, (swR d p1 s1 f1 w1 z1).2) := by cases hst; rw [hii, hdd]; rfl
        have hI1 : Inv cn f1 nw1 (p1 ++ s1) zb tb kb := by cases hst; cases hzb; rw [hnw1]; exact hI
        have hn1 : nw1 + f = nw + f1 := by cases hst; rw [hnw1]
        have hn2 : nw1 ≤ nw + i := by rw [hnw1]; omega
        replace hl := lv_sub hl [0, 1, 2] rfl
        replace hl : lv_has ls 3 [(2, .int 0), (0, .ref hm), (1, .int (nI k))] := hl
        replace hl : lv_has ls 3 [(2, .int (nI i)), (0, .ref hm), (1, .int (nI k))] := by rw [hii, nI_0]; exact hl
        replace hP : va_P D classes [(hm, .inr (2, [.int (goT true true), .int (nI cn), .ref qs, .ref qt, .ref qm, .int (nI nw1), .int v, .int w1, .int z1, .int (nI (hdB s1))])), (qs, .inl (cI, 16386, .inl zb)), (qt, .inl (cJ, 16386, .inl tb)), (qm, .inl (cZ, 16386, .inl kb))] H := by cases hst; cases hzb; rw [hnw1]; exact hP
        replace hD : va_D A [(hm, .inr (2, [.int (goT true true), .int (nI cn), .ref qs, .ref qt, .ref qm, .int (nI nw1), .int v, .int w1, .int z1, .int (nI (hdB s1))])), (qs, .inl (cI, 16386, .inl zb)), (qt, .inl (cJ, 16386, .inl tb)), (qm, .inl (cZ, 16386, .inl kb))] := by cases hst; cases hzb; rw [hnw1]; exact hD
        clear hst hzb hii hdd hnw1 ht hvm
        revert hS
        revert hD
        revert hP
        revert hn2
        revert hn1
        revert hI1
        revert hq
        revert hik
        revert hl
        revert locs
        revert H
        revert kb
        revert tb
        revert zb
        revert nw1
        revert z1
        revert w1
        revert f1
        revert s1
        revert p1
        revert i
        revert ls
        induction d with
        | zero =>
          intro ls i p1 s1 f1 w1 z1 nw1 zb tb kb H locs hl hik hq hI1 hn1 hn2 hP hD hS
          refine lv_iload_n hx hb d_M_sweep_28 rfl (lv_at hl 0 rfl) ?_
          refine lv_iload_n hx hb d_M_sweep_29 rfl (lv_at hl 2 rfl) ?_
          refine lv_icmp_ge (tgt := 76) hx hb d_M_sweep_30 (by decide) (fun c_30 => ?_) (fun c_30 => ?_)
          · refine lv_iload_n hx hb d_M_sweep_76 rfl (lv_at hl 0 rfl) ?_
            refine W.widen (k := 0) (n := 0) (Nat.le_of_ble_eq_true rfl) (Nat.le_of_ble_eq_true rfl) ?_
            exact W.iret (v := (nI i)) hx hb hr (fun t ht hW => ⟨⟨_, _, rfl, (Or.inr ⟨k, hk2, rfl, by rw [hq]; exact congrArg nI (Nat.zero_add i).symm, nw1, zb, tb, kb, by rw [hq]; exact hn1, by omega, by rw [hq]; rfl, by rw [hq]; exact hI1⟩), at2.of hP hK hD ht hW⟩, hS.F ht⟩) hS.2.2 d_M_sweep_77
          · exact absurd (nI_le (by omega) (by omega)) c_30
        | succ d ih =>
          intro ls i p1 s1 f1 w1 z1 nw1 zb tb kb H locs hl hik hq hI1 hn1 hn2 hP hD hS
          refine lv_iload_n hx hb d_M_sweep_28 rfl (lv_at hl 0 rfl) ?_
          refine lv_iload_n hx hb d_M_sweep_29 rfl (lv_at hl 2 rfl) ?_
          refine lv_icmp_ge (tgt := 76) hx hb d_M_sweep_30 (by decide) (fun c_30 => ?_) (fun c_30 => ?_)
          · exact absurd ((nI_leI (by omega) (by omega)).mp c_30) (by omega)
          · rcases s1 with _ | ⟨x, s1⟩
            · replace hP : va_P D classes [(hm, .inr (2, [.int (goT true true), .int (nI cn), .ref qs, .ref qt, .ref qm, .int (nI nw1), .int v, .int w1, .int z1, .int (nI 0)])), (qs, .inl (cI, 16386, .inl zb)), (qt, .inl (cJ, 16386, .inl tb)), (qm, .inl (cZ, 16386, .inl kb))] _ := hP
              replace hD : va_D A [(hm, .inr (2, [.int (goT true true), .int (nI cn), .ref qs, .ref qt, .ref qm, .int (nI nw1), .int v, .int w1, .int z1, .int (nI 0)])), (qs, .inl (cI, 16386, .inl zb)), (qt, .inl (cJ, 16386, .inl tb)), (qm, .inl (cZ, 16386, .inl kb))] := hD
              refine lv_aload_n hx hb d_M_sweep_33 rfl (lv_at hl 1 rfl) ?_
              refine va_get (D := D) (ci := 2) (v := .int (nI 0)) (C := R_M) (T := F_M) (N := 10) hx hb hg gi_M hown hK hP 0 rfl rfl 9 (by decide) (hg _ gw_361) (fun _ h9 => h9) rfl d_M_sweep_34 ?_
              refine lv_if_le (tgt := 76) hx hb d_M_sweep_37 (by decide) (fun c_37 => ?_) (fun c_37 => ?_)
              · refine lv_iload_n hx hb d_M_sweep_76 rfl (lv_at hl 0 rfl) ?_
                refine W.widen (k := 0) (n := 0) (Nat.le_of_ble_eq_true rfl) (Nat.le_of_ble_eq_true rfl) ?_
                exact W.iret (v := (nI i)) hx hb hr (fun t ht hW => ⟨⟨_, _, rfl, (Or.inr ⟨k, hk2, rfl, by rw [hq, swR]; exact congrArg nI (Nat.zero_add i).symm, nw1, zb, tb, kb, by rw [hq, swR]; exact hn1, by omega, by rw [hq, swR]; rfl, by rw [hq, swR]; exact hI1⟩), at2.of hP hK hD ht hW⟩, hS.F ht⟩) hS.2.2 d_M_sweep_77
              · exact absurd (by rw [nI_0]; decide) c_37
            · replace hP : va_P D classes [(hm, .inr (2, [.int (goT true true), .int (nI cn), .ref qs, .ref qt, .ref qm, .int (nI nw1), .int v, .int w1, .int z1, .int (nI x.2.1)])), (qs, .inl (cI, 16386, .inl zb)), (qt, .inl (cJ, 16386, .inl tb)), (qm, .inl (cZ, 16386, .inl kb))] _ := hP
              replace hD : va_D A [(hm, .inr (2, [.int (goT true true), .int (nI cn), .ref qs, .ref qt, .ref qm, .int (nI nw1), .int v, .int w1, .int z1, .int (nI x.2.1)])), (qs, .inl (cI, 16386, .inl zb)), (qt, .inl (cJ, 16386, .inl tb)), (qm, .inl (cZ, 16386, .inl kb))] := hD
              have hxL : x ∈ p1 ++ x :: s1 := by simp
              obtain ⟨-, -, -, hb9, hx4, hx5, -, -, -⟩ := hI1.x hxL
              refine lv_aload_n hx hb d_M_sweep_33 rfl (lv_at hl 1 rfl) ?_
              refine va_get (D := D) (ci := 2) (v := .int (nI x.2.1)) (C := R_M) (T := F_M) (N := 10) hx hb hg gi_M hown hK hP 0 rfl rfl 9 (by decide) (hg _ gw_361) (fun _ h9 => h9) rfl d_M_sweep_34 ?_
              refine lv_if_le (tgt := 76) hx hb d_M_sweep_37 (by decide) (fun c_37 => ?_) (fun c_37 => ?_)
              · exact absurd c_37 (nI_nle (by omega) (by omega))
              · refine lv_aload_n hx hb d_M_sweep_40 rfl (lv_at hl 1 rfl) ?_
                have hFc := sw_free hD hS hA
                refine va_callv (va_runV (As := []) (rest := []) ⟨hx, hb, hml, hown, hg⟩ (c_M_step l D ty N0 _ hm qs qt qm cI cJ cZ (goT true true) cn nw1 v w1 z1 x.2.1 zb tb kb p1 s1 x f1 hI1 t0 t1 t2 rfl (by omega)) (cwV 0 hg (gw_V gw_441 gw_443 gw_23 gw_28 gw_444) rfl rfl rfl (by decide +kernel) ⟨Nat.le_of_ble_eq_true rfl, Nat.le_of_ble_eq_true rfl⟩) (pre_wrV hP hK hN hD hS hAN hN0 hE (ci := 2) (k := 0) rfl rfl) rfl rfl hl.1 rfl (lv_room (Nat.le_of_ble_eq_true rfl)) d_M_sweep_41 ⟨Nat.le_of_ble_eq_true rfl, Nat.le_of_ble_eq_true rfl⟩) hS (fun q _ h => hFc q h) hFc (fun u t H locs ht hvm hw hB hz1 hk1 hS => ?_)
                obtain ⟨hP, hK1, hD1⟩ := hB
                rw [ht] at hP
                have hD := hD1.weaken (fun _ _ _ h => hFc _ h)
                clear hK1 hD1 hFc hk1 hz1
                obtain ⟨nw2, z9, t9, k9, hq2, hq3, rfl, hq4⟩ := hw
                replace hP : va_P D classes [(hm, .inr (2, [.int (goT true true), .int (nI cn), .ref qs, .ref qt, .ref qm, .int (nI nw2), .int v, .int (w1 + nI (stW x s1)), .int z1, .int (nI (hdE (stS x s1) (cn + 1)))])), (qs, .inl (cI, 16386, .inl z9)), (qt, .inl (cJ, 16386, .inl t9)), (qm, .inl (cZ, 16386, .inl k9))] _ := hP
                replace hD : va_D A [(hm, .inr (2, [.int (goT true true), .int (nI cn), .ref qs, .ref qt, .ref qm, .int (nI nw2), .int v, .int (w1 + nI (stW x s1)), .int z1, .int (nI (hdE (stS x s1) (cn + 1)))])), (qs, .inl (cI, 16386, .inl z9)), (qt, .inl (cJ, 16386, .inl t9)), (qm, .inl (cZ, 16386, .inl k9))] := hD
                obtain ⟨j1, ej1⟩ : ∃ y : Int32, y = (nI i) + 1 := ⟨_, rfl⟩
                refine lv_iinc (v := j1) (lv' := [(2, .int j1), (0, .ref hm), (1, .int (nI k))]) hx hb d_M_sweep_44 hl (k := 0) rfl (by rw [ej1]; rfl) (by decide) rfl (fun ls hl => ?_)
                refine lv_aload_n hx hb d_M_sweep_47 rfl (lv_at hl 1 rfl) ?_
                refine va_get (D := D) (ci := 2) (v := .int (nI (hdE (stS x s1) (cn + 1)))) (C := R_M) (T := F_M) (N := 10) hx hb hg gi_M hown hK hP 0 rfl rfl 9 (by decide) (hg _ gw_361) (fun _ h9 => h9) rfl d_M_sweep_48 ?_
                refine lv_aload_n hx hb d_M_sweep_51 rfl (lv_at hl 1 rfl) ?_
                refine va_get (D := D) (ci := 2) (v := .int (nI cn)) (C := R_M) (T := F_M) (N := 10) hx hb hg gi_M hown hK hP 0 rfl rfl 1 (by decide) (hg _ gw_353) (fun _ h9 => h9) rfl d_M_sweep_52 ?_
                by_cases hne : stS x s1 = []
                · have hhe : hdE (stS x s1) (cn + 1) = cn + 1 := by rw [hne]; rfl
                  refine lv_icmp_le (tgt := 28) hx hb d_M_sweep_55 (by decide) (fun c_55 => ?_) (fun c_55 => ?_)
                  · exact absurd ((nI_leI (by omega) (by omega)).mp c_55) (by omega)
                  · refine lv_aload_n hx hb d_M_sweep_58 rfl (lv_at hl 1 rfl) ?_
                    refine lv_iconst (v := 0) hx hb d_M_sweep_59 (by decide) ?_
                    refine va_put (D := D) (ci := 2) (v := .int 0) (ty := .int) (C := R_M) (T := F_M) (N := 10) hx hb hg gi_M t_M t_M_ok n_M hown hK hP hD hS 0 rfl rfl 9 (by decide) (hg _ gw_361) (fun _ h9 => h9) rfl (by decide +kernel) rfl rfl (Nat.le_of_ble_eq_true rfl) d_M_sweep_60 (fun H locs hP hD hS => ?_)
                    replace hP : va_P D classes [(hm, .inr (2, [.int (goT true true), .int (nI cn), .ref qs, .ref qt, .ref qm, .int (nI nw2), .int v, .int (w1 + nI (stW x s1)), .int z1, .int 0])), (qs, .inl (cI, 16386, .inl z9)), (qt, .inl (cJ, 16386, .inl t9)), (qm, .inl (cZ, 16386, .inl k9))] _ := hP
                    replace hD : va_D A [(hm, .inr (2, [.int (goT true true), .int (nI cn), .ref qs, .ref qt, .ref qm, .int (nI nw2), .int v, .int (w1 + nI (stW x s1)), .int z1, .int 0])), (qs, .inl (cI, 16386, .inl z9)), (qt, .inl (cJ, 16386, .inl t9)), (qm, .inl (cZ, 16386, .inl k9))] := hD
                    refine lv_aload_n hx hb d_M_sweep_63 rfl (lv_at hl 1 rfl) ?_
                    refine lv_dup hx hb d_M_sweep_64 rfl ?_
                    refine va_get (D := D) (ci := 2) (v := .int z1) (C := R_M) (T := F_M) (N := 10) hx hb hg gi_M hown hK hP 0 rfl rfl 8 (by decide) (hg _ gw_360) (fun _ h9 => h9) rfl d_M_sweep_65 ?_
                    refine lv_iconst (v := 1) hx hb d_M_sweep_68 (by decide) ?_
                    refine lv_iadd hx hb d_M_sweep_69 ?_
                    refine va_put (D := D) (ci := 2) (v := .int (z1 + 1)) (ty := .int) (C := R_M) (T := F_M) (N := 10) hx hb hg gi_M t_M t_M_ok n_M hown hK hP hD hS 0 rfl rfl 8 (by decide) (hg _ gw_360) (fun _ h9 => h9) rfl (by decide +kernel) rfl rfl (Nat.le_of_ble_eq_true rfl) d_M_sweep_70 (fun H locs hP hD hS => ?_)
                    replace hP : va_P D classes [(hm, .inr (2, [.int (goT true true), .int (nI cn), .ref qs, .ref qt, .ref qm, .int (nI nw2), .int v, .int (w1 + nI (stW x s1)), .int (z1 + 1), .int 0])), (qs, .inl (cI, 16386, .inl z9)), (qt, .inl (cJ, 16386, .inl t9)), (qm, .inl (cZ, 16386, .inl k9))] _ := hP
                    replace hD : va_D A [(hm, .inr (2, [.int (goT true true), .int (nI cn), .ref qs, .ref qt, .ref qm, .int (nI nw2), .int v, .int (w1 + nI (stW x s1)), .int (z1 + 1), .int 0])), (qs, .inl (cI, 16386, .inl z9)), (qt, .inl (cJ, 16386, .inl t9)), (qm, .inl (cZ, 16386, .inl k9))] := hD
                    refine lv_goto (tgt := 28) hx hb d_M_sweep_73 (by decide) ?_
                    rw [nI_1] at ej1
                    subst ej1
                    have hhz : hdB (stS x s1) = 0 := by rw [hne]; rfl
                    have hzz : (if stS x s1 = [] then z1 + 1 else z1) = z1 + 1 := if_pos hne
                    replace hP : va_P D classes [(hm, .inr (2, [.int (goT true true), .int (nI cn), .ref qs, .ref qt, .ref qm, .int (nI nw2), .int v, .int (w1 + nI (stW x s1)), .int (if stS x s1 = [] then z1 + 1 else z1), .int (nI (hdB (stS x s1)))])), (qs, .inl (cI, 16386, .inl z9)), (qt, .inl (cJ, 16386, .inl t9)), (qm, .inl (cZ, 16386, .inl k9))] H := by rw [hhz, hzz]; exact hP
                    replace hD : va_D A [(hm, .inr (2, [.int (goT true true), .int (nI cn), .ref qs, .ref qt, .ref qm, .int (nI nw2), .int v, .int (w1 + nI (stW x s1)), .int (if stS x s1 = [] then z1 + 1 else z1), .int (nI (hdB (stS x s1)))])), (qs, .inl (cI, 16386, .inl z9)), (qt, .inl (cJ, 16386, .inl t9)), (qm, .inl (cZ, 16386, .inl k9))] := by rw [hhz, hzz]; exact hD
                    exact ih ls (i + 1) (p1 ++ [stX f1 x s1]) (stS x s1) (stF f1 x s1) (w1 + nI (stW x s1)) (if stS x s1 = [] then z1 + 1 else z1) nw2 z9 t9 k9 _ _ (lv_sub hl [0, 1, 2] rfl) (by omega) (by rw [hq, swR, Nat.add_assoc, Nat.add_comm 1 i]) (by rw [List.append_assoc]; exact hq4) (by omega) (by omega) hP hD hS
                · have hhe : hdE (stS x s1) (cn + 1) ≤ cn := by
                    cases hc9 : stS x s1 with
                    | nil => exact absurd hc9 hne
                    | cons y9 r9 => exact (hq4.x (x := y9) (by rw [hc9]; simp)).2.2.2.2.2.1
                  refine lv_icmp_le (tgt := 28) hx hb d_M_sweep_55 (by decide) (fun c_55 => ?_) (fun c_55 => ?_)
                  · rw [nI_1] at ej1
                    subst ej1
                    have hhz : hdB (stS x s1) = hdE (stS x s1) (cn + 1) := by cases hc9 : stS x s1 with | nil => exact absurd hc9 hne | cons y9 r9 => rfl
                    have hzz : (if stS x s1 = [] then z1 + 1 else z1) = z1 := if_neg hne
                    replace hP : va_P D classes [(hm, .inr (2, [.int (goT true true), .int (nI cn), .ref qs, .ref qt, .ref qm, .int (nI nw2), .int v, .int (w1 + nI (stW x s1)), .int (if stS x s1 = [] then z1 + 1 else z1), .int (nI (hdB (stS x s1)))])), (qs, .inl (cI, 16386, .inl z9)), (qt, .inl (cJ, 16386, .inl t9)), (qm, .inl (cZ, 16386, .inl k9))] H := by rw [hhz, hzz]; exact hP
                    replace hD : va_D A [(hm, .inr (2, [.int (goT true true), .int (nI cn), .ref qs, .ref qt, .ref qm, .int (nI nw2), .int v, .int (w1 + nI (stW x s1)), .int (if stS x s1 = [] then z1 + 1 else z1), .int (nI (hdB (stS x s1)))])), (qs, .inl (cI, 16386, .inl z9)), (qt, .inl (cJ, 16386, .inl t9)), (qm, .inl (cZ, 16386, .inl k9))] := by rw [hhz, hzz]; exact hD
                    exact ih ls (i + 1) (p1 ++ [stX f1 x s1]) (stS x s1) (stF f1 x s1) (w1 + nI (stW x s1)) (if stS x s1 = [] then z1 + 1 else z1) nw2 z9 t9 k9 _ _ (lv_sub hl [0, 1, 2] rfl) (by omega) (by rw [hq, swR, Nat.add_assoc, Nat.add_comm 1 i]) (by rw [List.append_assoc]; exact hq4) (by omega) (by omega) hP hD hS
                  · exact absurd (nI_le hhe (by omega)) c_55
      · exact absurd c_21 (by decide)
