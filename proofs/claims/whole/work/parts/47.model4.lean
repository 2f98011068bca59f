theorem inv_new {zb ta kb : Nat → Int32} {b k nw q : Nat} (h : ∀ a, 1 ≤ a → a < b → zb a = 0 ∧ kb a = 0) (hb : b + 0 = 16385) (hk1 : 16 ≤ k) (hk2 : k ≤ 16384) (hn : nw + 1 < 2 ^ 30) : Inv k 1 (nw + 1) [(q, 1, k, false, false, 1)] (upd zb 1 (0 - nI k)) (upd ta 1 (nI (nw + 1))) (upd kb 1 0) := by
  refine ⟨⟨fun x hx => ?_, fun a h1 h2 h3 => ?_⟩, ⟨rfl, by show 1 ≤ k; omega, by show 1 + k = k + 1; omega⟩, hk2, hn, fun x hx => ?_⟩
  · cases List.mem_singleton.mp hx
    exact ⟨by show upd zb 1 _ 1 = -nI k; rw [upd_s, Int32.zero_sub], upd_s _ _ _, fun _ => ⟨nw + 1, upd_s _ _ _, rfl, Nat.le_refl _⟩⟩
  · have h4 := h3 _ (List.mem_singleton.mpr rfl)
    have h4 : 1 ≠ a := h4
    rw [upd_n _ _ (Ne.symm h4), upd_n _ _ (Ne.symm h4)]
    exact h a h1 (by omega)
  · cases List.mem_singleton.mp hx
    intro q; cases q
theorem inv_first (q : Nat) : Inv 1024 1 0 [(q, 1, 1024, false, false, 1)] (upd (fun _ => 0) 1 (-1024)) (fun _ => 0) (fun _ => 0) := by
  refine ⟨⟨fun x hx => ?_, fun a h1 h2 h3 => ?_⟩, ⟨rfl, by show 1 ≤ 1024; decide, rfl⟩, by decide, by decide, fun x hx => ?_⟩
  · cases List.mem_singleton.mp hx
    exact ⟨by show upd (fun _ => 0) 1 _ 1 = -nI 1024; rw [upd_s]; rfl, rfl, fun _ => ⟨0, rfl, rfl, Nat.le_refl _⟩⟩
  · have h4 := h3 _ (List.mem_singleton.mpr rfl)
    have h4 : 1 ≠ a := h4
    rw [upd_n _ _ (Ne.symm h4)]
    exact ⟨rfl, rfl⟩
  · cases List.mem_singleton.mp hx
    intro q; cases q
set_option maxHeartbeats 4000000 in
set_option maxRecDepth 100000 in
theorem c_M_space (l : Launch) (D : va_G) (ty : tyL) (N0 sz : Nat) (hm qs qt qm : Nat) (cI cJ cZ : ClassId) (th : Int32) (cn nw : Nat) (v w z : Int32) (hd : Nat) (za ta ka : Nat → Int32) (n : Int32) (t0 : ty[0]? = some (cI, .int)) (t1 : ty[1]? = some (cJ, .int)) (t2 : ty[2]? = some (cZ, .boolean)) (hnw : nw + 1 < 2 ^ 30) : Met l y_M_space (Cond.code y_M_space b_M_space 4 (some .int) :: GW) ({ frames := 1, cells := 0, slots := 0, locals := 22 }) (va_Pc [.ref hm, .int n] (at1 D ty N0 sz (mW hm qs qt qm cI cJ cZ th cn nw v w z hd za ta ka))) (va_Qi (fun r ws' => ((n < 16 ∨ ¬ n ≤ 16384) ∧ ws' = mW hm qs qt qm cI cJ cZ 1 cn nw v w z hd za ta ka) ∨ ∃ k : Nat, 16 ≤ k ∧ k ≤ 16384 ∧ n = nI k ∧ r = nI cn ∧ ∃ za' ta' ka', ws' = mW hm qs qt qm cI cJ cZ 0 k (nw + 1) 0 0 0 0 za' ta' ka' ∧ ∀ q : Nat, Inv k 1 (nw + 1) [(q, 1, k, false, false, 1)] za' ta' ka') (at2 D ty (va_A (mW hm qs qt qm cI cJ cZ th cn nw v w z hd za ta ka) sz)) (va_A (mW hm qs qt qm cI cJ cZ th cn nw v w z hd za ta ka) sz)) 0 0 (va_A (mW hm qs qt qm cI cJ cZ th cn nw v w z hd za ta ka) sz) := by
  refine Met.ofW (cc := b_M_space) (maxL := 4) (ret := (some .int)) (by decide) rfl ?_
  intro p e s m args below meth c s₁ B hml hv
  obtain ⟨rfl, hsz, hN0, ⟨hP, hK, hN⟩, hD0, hE⟩ := hv
  subst hsz
  have hD := hD0.self (sz := s.heap.size)
  have hAN := sw_AN hD0 hN0
  generalize hAe : va_A (mW hm qs qt qm cI cJ cZ th cn nw v w z hd za ta ka) s.heap.size = A at hD hAN ⊢
  have hA : ∀ q : Nat, s.heap.size ≤ q → A q := fun q h => by rw [← hAe]; exact Or.inr h
  have hS : va_S A s.heap s.heap [] := va_S.rf
  have hP : va_P D classes (mW hm qs qt qm cI cJ cZ th cn nw v w z hd za ta ka) s.heap := hP
  have hx := B.exec
  have hb := B.bytes
  have hr := B.returns
  have hg : ∀ w ∈ GW, w.before _ s = true := fun w h => atoms_spec (ws := Cond.code y_M_space b_M_space 4 (some .int) :: GW) B.pre w (List.mem_cons_of_mem _ h)
  have hown : s.vm.findClass R_M = some m.cls := findClass_of_methodNamed B.named
  have hlocks := B.notSynchronized
  have hl := lv_entry ([.ref hm, .int n]) (n := 4) (Nat.le_of_ble_eq_true rfl)
  rw [lg_entry_eq]
  generalize (lg_sl ([.ref hm, .int n]) ++ List.replicate (4 - (lg_sl ([.ref hm, .int n])).length) Slot.unset).toArray = ls at hl ⊢
  replace hl : lv_has ls 4 [(0, .ref hm), (1, .int n)] := hl
  replace hP : va_P D classes [(hm, .inr (2, [.int th, .int (nI cn), .ref qs, .ref qt, .ref qm, .int (nI nw), .int v, .int w, .int z, .int (nI hd)])), (qs, .inl (cI, 16386, .inl za)), (qt, .inl (cJ, 16386, .inl ta)), (qm, .inl (cZ, 16386, .inl ka))] _ := hP
  replace hD : va_D A [(hm, .inr (2, [.int th, .int (nI cn), .ref qs, .ref qt, .ref qm, .int (nI nw), .int v, .int w, .int z, .int (nI hd)])), (qs, .inl (cI, 16386, .inl za)), (qt, .inl (cJ, 16386, .inl ta)), (qm, .inl (cZ, 16386, .inl ka))] := hD
  refine lv_aload_n hx hb d_M_space_0 rfl (lv_at hl 0 rfl) ?_
  refine lv_iload_n hx hb d_M_space_1 rfl (lv_at hl 1 rfl) ?_
  refine lv_bipush (v := 16) hx hb d_M_space_2 (by decide) ?_
  refine lv_icmp_lt (tgt := 18) hx hb d_M_space_4 (by decide) (fun c_4 => ?_) (fun c_4 => ?_)
  · refine lv_iconst (v := 0) hx hb d_M_space_18 (by decide) ?_
    refine lv_iconst (v := 1) hx hb d_M_space_19 (by decide) ?_
    have hFc := sw_free hD hS hA
    refine va_calli (va_runV (As := [.int 0, .int 1]) (rest := []) ⟨hx, hb, hml, hown, hg⟩ (c_M_goes l D ty N0 _ hm qs qt qm cI cJ cZ th cn nw v w z hd za ta ka false true t0 t1 t2) (cwV 2 hg (gw_V gw_393 gw_395 gw_17 gw_28 gw_396) rfl rfl rfl (by decide +kernel) ⟨Nat.le_of_ble_eq_true rfl, Nat.le_of_ble_eq_true rfl⟩) (pre_wrV hP hK hN hD hS hAN hN0 hE (ci := 2) (k := 0) rfl rfl) rfl rfl hl.1 rfl (lv_room (Nat.le_of_ble_eq_true rfl)) d_M_space_20 ⟨Nat.le_of_ble_eq_true rfl, Nat.le_of_ble_eq_true rfl⟩) hS (fun q _ h => hFc q h) hFc (fun r_ u t H locs ht hvm hw hB hz1 hk1 hS => ?_)
    obtain ⟨hP, hK1, hD1⟩ := hB
    rw [ht] at hP
    have hD := hD1.weaken (fun _ _ _ h => hFc _ h)
    clear hK1 hD1 hFc hk1 hz1
    obtain ⟨rfl, rfl⟩ := hw
    replace hP : va_P D classes [(hm, .inr (2, [.int (goT false true), .int (nI cn), .ref qs, .ref qt, .ref qm, .int (nI nw), .int v, .int w, .int z, .int (nI hd)])), (qs, .inl (cI, 16386, .inl za)), (qt, .inl (cJ, 16386, .inl ta)), (qm, .inl (cZ, 16386, .inl ka))] _ := hP
    replace hD : va_D A [(hm, .inr (2, [.int (goT false true), .int (nI cn), .ref qs, .ref qt, .ref qm, .int (nI nw), .int v, .int w, .int z, .int (nI hd)])), (qs, .inl (cI, 16386, .inl za)), (qt, .inl (cJ, 16386, .inl ta)), (qm, .inl (cZ, 16386, .inl ka))] := hD
    refine lv_if_ne (tgt := 28) hx hb d_M_space_23 (by decide) (fun c_23 => ?_) (fun c_23 => ?_)
    · exact absurd rfl c_23
    · refine lv_iconst (v := 0) hx hb d_M_space_26 (by decide) ?_
      refine W.widen (k := 0) (n := 0) (Nat.le_of_ble_eq_true rfl) (Nat.le_of_ble_eq_true rfl) ?_
      exact W.iret (v := 0) hx hb hr (fun t ht hW => ⟨⟨_, _, rfl, (Or.inl ⟨Or.inl c_4, rfl⟩), at2.of hP hK hD ht hW⟩, hS.F ht⟩) hS.2.2 d_M_space_27
  · refine lv_iload_n hx hb d_M_space_7 rfl (lv_at hl 1 rfl) ?_
    refine lv_sipush (v := 16384) hx hb d_M_space_8 (by decide) ?_
    refine lv_icmp_gt (tgt := 18) hx hb d_M_space_11 (by decide) (fun c_11 => ?_) (fun c_11 => ?_)
    · refine lv_iconst (v := 0) hx hb d_M_space_18 (by decide) ?_
      refine lv_iconst (v := 1) hx hb d_M_space_19 (by decide) ?_
      have hFc := sw_free hD hS hA
      refine va_calli (va_runV (As := [.int 0, .int 1]) (rest := []) ⟨hx, hb, hml, hown, hg⟩ (c_M_goes l D ty N0 _ hm qs qt qm cI cJ cZ th cn nw v w z hd za ta ka false true t0 t1 t2) (cwV 2 hg (gw_V gw_393 gw_395 gw_17 gw_28 gw_396) rfl rfl rfl (by decide +kernel) ⟨Nat.le_of_ble_eq_true rfl, Nat.le_of_ble_eq_true rfl⟩) (pre_wrV hP hK hN hD hS hAN hN0 hE (ci := 2) (k := 0) rfl rfl) rfl rfl hl.1 rfl (lv_room (Nat.le_of_ble_eq_true rfl)) d_M_space_20 ⟨Nat.le_of_ble_eq_true rfl, Nat.le_of_ble_eq_true rfl⟩) hS (fun q _ h => hFc q h) hFc (fun r_ u t H locs ht hvm hw hB hz1 hk1 hS => ?_)
      obtain ⟨hP, hK1, hD1⟩ := hB
      rw [ht] at hP
      have hD := hD1.weaken (fun _ _ _ h => hFc _ h)
      clear hK1 hD1 hFc hk1 hz1
      obtain ⟨rfl, rfl⟩ := hw
      replace hP : va_P D classes [(hm, .inr (2, [.int (goT false true), .int (nI cn), .ref qs, .ref qt, .ref qm, .int (nI nw), .int v, .int w, .int z, .int (nI hd)])), (qs, .inl (cI, 16386, .inl za)), (qt, .inl (cJ, 16386, .inl ta)), (qm, .inl (cZ, 16386, .inl ka))] _ := hP
      replace hD : va_D A [(hm, .inr (2, [.int (goT false true), .int (nI cn), .ref qs, .ref qt, .ref qm, .int (nI nw), .int v, .int w, .int z, .int (nI hd)])), (qs, .inl (cI, 16386, .inl za)), (qt, .inl (cJ, 16386, .inl ta)), (qm, .inl (cZ, 16386, .inl ka))] := hD
      refine lv_if_ne (tgt := 28) hx hb d_M_space_23 (by decide) (fun c_23 => ?_) (fun c_23 => ?_)
      · exact absurd rfl c_23
      · refine lv_iconst (v := 0) hx hb d_M_space_26 (by decide) ?_
        refine W.widen (k := 0) (n := 0) (Nat.le_of_ble_eq_true rfl) (Nat.le_of_ble_eq_true rfl) ?_
        exact W.iret (v := 0) hx hb hr (fun t ht hW => ⟨⟨_, _, rfl, (Or.inl ⟨Or.inr (Int32.not_le.mpr c_11), rfl⟩), at2.of hP hK hD ht hW⟩, hS.F ht⟩) hS.2.2 d_M_space_27
    · refine lv_iconst (v := 1) hx hb d_M_space_14 (by decide) ?_
      refine lv_goto (tgt := 19) hx hb d_M_space_15 (by decide) ?_
      refine lv_iconst (v := 1) hx hb d_M_space_19 (by decide) ?_
      have hFc := sw_free hD hS hA
      refine va_calli (va_runV (As := [.int 1, .int 1]) (rest := []) ⟨hx, hb, hml, hown, hg⟩ (c_M_goes l D ty N0 _ hm qs qt qm cI cJ cZ th cn nw v w z hd za ta ka true true t0 t1 t2) (cwV 2 hg (gw_V gw_393 gw_395 gw_17 gw_28 gw_396) rfl rfl rfl (by decide +kernel) ⟨Nat.le_of_ble_eq_true rfl, Nat.le_of_ble_eq_true rfl⟩) (pre_wrV hP hK hN hD hS hAN hN0 hE (ci := 2) (k := 0) rfl rfl) rfl rfl hl.1 rfl (lv_room (Nat.le_of_ble_eq_true rfl)) d_M_space_20 ⟨Nat.le_of_ble_eq_true rfl, Nat.le_of_ble_eq_true rfl⟩) hS (fun q _ h => hFc q h) hFc (fun r_ u t H locs ht hvm hw hB hz1 hk1 hS => ?_)
      obtain ⟨hP, hK1, hD1⟩ := hB
      rw [ht] at hP
      have hD := hD1.weaken (fun _ _ _ h => hFc _ h)
      clear hK1 hD1 hFc hk1 hz1
      obtain ⟨rfl, rfl⟩ := hw
      replace hP : va_P D classes [(hm, .inr (2, [.int (goT true true), .int (nI cn), .ref qs, .ref qt, .ref qm, .int (nI nw), .int v, .int w, .int z, .int (nI hd)])), (qs, .inl (cI, 16386, .inl za)), (qt, .inl (cJ, 16386, .inl ta)), (qm, .inl (cZ, 16386, .inl ka))] _ := hP
      replace hD : va_D A [(hm, .inr (2, [.int (goT true true), .int (nI cn), .ref qs, .ref qt, .ref qm, .int (nI nw), .int v, .int w, .int z, .int (nI hd)])), (qs, .inl (cI, 16386, .inl za)), (qt, .inl (cJ, 16386, .inl ta)), (qm, .inl (cZ, 16386, .inl ka))] := hD
      refine lv_if_ne (tgt := 28) hx hb d_M_space_23 (by decide) (fun c_23 => ?_) (fun c_23 => ?_)
      · refine lv_aload_n hx hb d_M_space_28 rfl (lv_at hl 0 rfl) ?_
        refine va_get (D := D) (ci := 2) (v := .int (nI cn)) (C := R_M) (T := F_M) (N := 10) hx hb hg gi_M hown hK hP 0 rfl rfl 1 (by decide) (hg _ gw_353) (fun _ h9 => h9) rfl d_M_space_29 ?_
        refine lv_istore_n (lv' := [(2, .int (nI cn)), (0, .ref hm), (1, .int n)]) hx hb d_M_space_32 rfl hl (by decide) rfl (fun ls hl => ?_)
        refine lv_iconst (v := 1) hx hb d_M_space_33 (by decide) ?_
        refine lv_istore_n (lv' := [(3, .int 1), (2, .int (nI cn)), (0, .ref hm), (1, .int n)]) hx hb d_M_space_34 rfl hl (by decide) rfl (fun ls hl => ?_)
        obtain ⟨k, hk1, hk2, rfl⟩ := rng (lo := 16) (hi := 16384) c_4 (Int32.not_lt.mp c_11) (by decide) (by decide)
        obtain ⟨d, hd9⟩ : ∃ q : Nat, q = 16384 := ⟨_, rfl⟩
        obtain ⟨b, hb8⟩ : ∃ q : Nat, q = 1 := ⟨_, rfl⟩
        have hbd : b + d = 16385 := by rw [hb8, hd9]
        have hb1 : 1 ≤ b := by rw [hb8]; decide
        obtain ⟨zb, hzb⟩ : ∃ q, q = za := ⟨_, rfl⟩
        obtain ⟨kb, hkb⟩ : ∃ q, q = ka := ⟨_, rfl⟩
        replace hl : lv_has ls 4 [(3, .int 1), (2, .int (nI cn)), (0, .ref hm), (1, .int (nI k))] := hl
        replace hl := lv_sub hl [0, 1, 2, 3] rfl
        replace hl : lv_has ls 4 [(3, .int 1), (2, .int (nI cn)), (0, .ref hm), (1, .int (nI k))] := hl
        replace hl : lv_has ls 4 [(3, .int (nI b)), (2, .int (nI cn)), (0, .ref hm), (1, .int (nI k))] := by rw [hb8]; exact hl
        rw [← hzb, ← hkb] at hP hD
        replace hP : va_P D classes [(hm, .inr (2, [.int (goT true true), .int (nI cn), .ref qs, .ref qt, .ref qm, .int (nI nw), .int v, .int w, .int z, .int (nI hd)])), (qs, .inl (cI, 16386, .inl zb)), (qt, .inl (cJ, 16386, .inl ta)), (qm, .inl (cZ, 16386, .inl kb))] _ := hP
        replace hD : va_D A [(hm, .inr (2, [.int (goT true true), .int (nI cn), .ref qs, .ref qt, .ref qm, .int (nI nw), .int v, .int w, .int z, .int (nI hd)])), (qs, .inl (cI, 16386, .inl zb)), (qt, .inl (cJ, 16386, .inl ta)), (qm, .inl (cZ, 16386, .inl kb))] := hD
        have hzz : ∀ a, 1 ≤ a → a < b → zb a = 0 ∧ kb a = 0 := fun a h1 h2 => by omega
        clear hd9 hb8 hzb hkb ht hvm
        revert hS
        revert hD
        revert hP
        revert hzz
        revert hb1
        revert hbd
        revert hl
        revert locs
        revert H
        revert kb
        revert zb
        revert b
        revert ls
        induction d with
        | zero =>
          intro ls b zb kb H locs hl hbd hb1 hzz hP hD hS
          refine lv_iload_n hx hb d_M_space_35 rfl (lv_at hl 0 rfl) ?_
          refine lv_sipush (v := 16384) hx hb d_M_space_36 (by decide) ?_
          refine lv_icmp_gt (tgt := 62) hx hb d_M_space_39 (by decide) (fun c_39 => ?_) (fun c_39 => ?_)
          · refine lv_aload_n hx hb d_M_space_62 rfl (lv_at hl 2 rfl) ?_
            refine lv_iload_n hx hb d_M_space_63 rfl (lv_at hl 3 rfl) ?_
            refine va_put (D := D) (ci := 2) (v := .int (nI k)) (ty := .int) (C := R_M) (T := F_M) (N := 10) hx hb hg gi_M t_M t_M_ok n_M hown hK hP hD hS 0 rfl rfl 1 (by decide) (hg _ gw_353) (fun _ h9 => h9) rfl (by decide +kernel) rfl rfl (Nat.le_of_ble_eq_true rfl) d_M_space_64 (fun H locs hP hD hS => ?_)
            replace hP : va_P D classes [(hm, .inr (2, [.int (goT true true), .int (nI k), .ref qs, .ref qt, .ref qm, .int (nI nw), .int v, .int w, .int z, .int (nI hd)])), (qs, .inl (cI, 16386, .inl zb)), (qt, .inl (cJ, 16386, .inl ta)), (qm, .inl (cZ, 16386, .inl kb))] _ := hP
            replace hD : va_D A [(hm, .inr (2, [.int (goT true true), .int (nI k), .ref qs, .ref qt, .ref qm, .int (nI nw), .int v, .int w, .int z, .int (nI hd)])), (qs, .inl (cI, 16386, .inl zb)), (qt, .inl (cJ, 16386, .inl ta)), (qm, .inl (cZ, 16386, .inl kb))] := hD
            refine lv_aload_n hx hb d_M_space_67 rfl (lv_at hl 2 rfl) ?_
            refine lv_iconst (v := 0) hx hb d_M_space_68 (by decide) ?_
            refine va_put (D := D) (ci := 2) (v := .int 0) (ty := .int) (C := R_M) (T := F_M) (N := 10) hx hb hg gi_M t_M t_M_ok n_M hown hK hP hD hS 0 rfl rfl 6 (by decide) (hg _ gw_358) (fun _ h9 => h9) rfl (by decide +kernel) rfl rfl (Nat.le_of_ble_eq_true rfl) d_M_space_69 (fun H locs hP hD hS => ?_)
            replace hP : va_P D classes [(hm, .inr (2, [.int (goT true true), .int (nI k), .ref qs, .ref qt, .ref qm, .int (nI nw), .int 0, .int w, .int z, .int (nI hd)])), (qs, .inl (cI, 16386, .inl zb)), (qt, .inl (cJ, 16386, .inl ta)), (qm, .inl (cZ, 16386, .inl kb))] _ := hP
            replace hD : va_D A [(hm, .inr (2, [.int (goT true true), .int (nI k), .ref qs, .ref qt, .ref qm, .int (nI nw), .int 0, .int w, .int z, .int (nI hd)])), (qs, .inl (cI, 16386, .inl zb)), (qt, .inl (cJ, 16386, .inl ta)), (qm, .inl (cZ, 16386, .inl kb))] := hD
            refine lv_aload_n hx hb d_M_space_72 rfl (lv_at hl 2 rfl) ?_
            refine lv_iconst (v := 0) hx hb d_M_space_73 (by decide) ?_
            refine va_put (D := D) (ci := 2) (v := .int 0) (ty := .int) (C := R_M) (T := F_M) (N := 10) hx hb hg gi_M t_M t_M_ok n_M hown hK hP hD hS 0 rfl rfl 7 (by decide) (hg _ gw_359) (fun _ h9 => h9) rfl (by decide +kernel) rfl rfl (Nat.le_of_ble_eq_true rfl) d_M_space_74 (fun H locs hP hD hS => ?_)
            replace hP : va_P D classes [(hm, .inr (2, [.int (goT true true), .int (nI k), .ref qs, .ref qt, .ref qm, .int (nI nw), .int 0, .int 0, .int z, .int (nI hd)])), (qs, .inl (cI, 16386, .inl zb)), (qt, .inl (cJ, 16386, .inl ta)), (qm, .inl (cZ, 16386, .inl kb))] _ := hP
            replace hD : va_D A [(hm, .inr (2, [.int (goT true true), .int (nI k), .ref qs, .ref qt, .ref qm, .int (nI nw), .int 0, .int 0, .int z, .int (nI hd)])), (qs, .inl (cI, 16386, .inl zb)), (qt, .inl (cJ, 16386, .inl ta)), (qm, .inl (cZ, 16386, .inl kb))] := hD
            refine lv_aload_n hx hb d_M_space_77 rfl (lv_at hl 2 rfl) ?_
            refine lv_iconst (v := 0) hx hb d_M_space_78 (by decide) ?_
            refine va_put (D := D) (ci := 2) (v := .int 0) (ty := .int) (C := R_M) (T := F_M) (N := 10) hx hb hg gi_M t_M t_M_ok n_M hown hK hP hD hS 0 rfl rfl 8 (by decide) (hg _ gw_360) (fun _ h9 => h9) rfl (by decide +kernel) rfl rfl (Nat.le_of_ble_eq_true rfl) d_M_space_79 (fun H locs hP hD hS => ?_)
            replace hP : va_P D classes [(hm, .inr (2, [.int (goT true true), .int (nI k), .ref qs, .ref qt, .ref qm, .int (nI nw), .int 0, .int 0, .int 0, .int (nI hd)])), (qs, .inl (cI, 16386, .inl zb)), (qt, .inl (cJ, 16386, .inl ta)), (qm, .inl (cZ, 16386, .inl kb))] _ := hP
            replace hD : va_D A [(hm, .inr (2, [.int (goT true true), .int (nI k), .ref qs, .ref qt, .ref qm, .int (nI nw), .int 0, .int 0, .int 0, .int (nI hd)])), (qs, .inl (cI, 16386, .inl zb)), (qt, .inl (cJ, 16386, .inl ta)), (qm, .inl (cZ, 16386, .inl kb))] := hD
            refine lv_aload_n hx hb d_M_space_82 rfl (lv_at hl 2 rfl) ?_
            refine lv_iconst (v := 0) hx hb d_M_space_83 (by decide) ?_
            refine va_put (D := D) (ci := 2) (v := .int 0) (ty := .int) (C := R_M) (T := F_M) (N := 10) hx hb hg gi_M t_M t_M_ok n_M hown hK hP hD hS 0 rfl rfl 9 (by decide) (hg _ gw_361) (fun _ h9 => h9) rfl (by decide +kernel) rfl rfl (Nat.le_of_ble_eq_true rfl) d_M_space_84 (fun H locs hP hD hS => ?_)
            replace hP : va_P D classes [(hm, .inr (2, [.int (goT true true), .int (nI k), .ref qs, .ref qt, .ref qm, .int (nI nw), .int 0, .int 0, .int 0, .int 0])), (qs, .inl (cI, 16386, .inl zb)), (qt, .inl (cJ, 16386, .inl ta)), (qm, .inl (cZ, 16386, .inl kb))] _ := hP
            replace hD : va_D A [(hm, .inr (2, [.int (goT true true), .int (nI k), .ref qs, .ref qt, .ref qm, .int (nI nw), .int 0, .int 0, .int 0, .int 0])), (qs, .inl (cI, 16386, .inl zb)), (qt, .inl (cJ, 16386, .inl ta)), (qm, .inl (cZ, 16386, .inl kb))] := hD
            refine lv_aload_n hx hb d_M_space_87 rfl (lv_at hl 2 rfl) ?_
            refine lv_iconst (v := 1) hx hb d_M_space_88 (by decide) ?_
            refine lv_iload_n hx hb d_M_space_89 rfl (lv_at hl 3 rfl) ?_
            replace hP : va_P D classes [(hm, .inr (2, [.int (goT true true), .int (nI k), .ref qs, .ref qt, .ref qm, .int (nI nw), .int 0, .int 0, .int 0, .int (nI 0)])), (qs, .inl (cI, 16386, .inl zb)), (qt, .inl (cJ, 16386, .inl ta)), (qm, .inl (cZ, 16386, .inl kb))] _ := hP
            replace hD : va_D A [(hm, .inr (2, [.int (goT true true), .int (nI k), .ref qs, .ref qt, .ref qm, .int (nI nw), .int 0, .int 0, .int 0, .int (nI 0)])), (qs, .inl (cI, 16386, .inl zb)), (qt, .inl (cJ, 16386, .inl ta)), (qm, .inl (cZ, 16386, .inl kb))] := hD
            have hFc := sw_free hD hS hA
            refine va_callv (va_runV (As := [.int 1, .int (nI k)]) (rest := []) ⟨hx, hb, hml, hown, hg⟩ (c_M_release l D ty N0 _ hm qs qt qm cI cJ cZ (goT true true) k nw 0 0 0 0 zb ta kb 1 (nI k) t0 t1 t2 (by decide)) (cwV 2 hg (gw_V gw_397 gw_399 gw_18 gw_28 gw_400) rfl rfl rfl (by decide +kernel) ⟨Nat.le_of_ble_eq_true rfl, Nat.le_of_ble_eq_true rfl⟩) (pre_wrV hP hK hN hD hS hAN hN0 hE (ci := 2) (k := 0) rfl rfl) rfl rfl hl.1 rfl (lv_room (Nat.le_of_ble_eq_true rfl)) d_M_space_90 ⟨Nat.le_of_ble_eq_true rfl, Nat.le_of_ble_eq_true rfl⟩) hS (fun q _ h => hFc q h) hFc (fun u t H locs ht hvm hw hB hz1 hk1 hS => ?_)
            obtain ⟨hP, hK1, hD1⟩ := hB
            rw [ht] at hP
            have hD := hD1.weaken (fun _ _ _ h => hFc _ h)
            clear hK1 hD1 hFc hk1 hz1
            subst hw
            refine lv_iload_n hx hb d_M_space_93 rfl (lv_at hl 1 rfl) ?_
            refine W.widen (k := 0) (n := 0) (Nat.le_of_ble_eq_true rfl) (Nat.le_of_ble_eq_true rfl) ?_
            exact W.iret (v := (nI cn)) hx hb hr (fun t ht hW => ⟨⟨_, _, rfl, (Or.inr ⟨k, hk1, hk2, rfl, rfl, _, _, _, rfl, fun q => inv_new hzz hbd hk1 hk2 hnw⟩), at2.of hP hK hD ht hW⟩, hS.F ht⟩) hS.2.2 d_M_space_94
          · exact absurd (nI_lt (a := 16384) (by omega) (by omega)) c_39
        | succ d ih =>
          intro ls b zb kb H locs hl hbd hb1 hzz hP hD hS
          have hb9 : b < 16386 := by omega
          refine lv_iload_n hx hb d_M_space_35 rfl (lv_at hl 0 rfl) ?_
          refine lv_sipush (v := 16384) hx hb d_M_space_36 (by decide) ?_
          refine lv_icmp_gt (tgt := 62) hx hb d_M_space_39 (by decide) (fun c_39 => ?_) (fun c_39 => ?_)
          · exact absurd ((nI_ltI (a := 16384) (by decide) (by omega)).mp c_39) (by omega)
          · refine lv_aload_n hx hb d_M_space_42 rfl (lv_at hl 2 rfl) ?_
            refine va_get (D := D) (ci := 2) (v := .ref qs) (C := R_M) (T := F_M) (N := 10) hx hb hg gi_M hown hK hP 0 rfl rfl 2 (by decide) (hg _ gw_354) (fun _ h9 => h9) rfl d_M_space_43 ?_
            refine lv_iload_n hx hb d_M_space_46 rfl (lv_at hl 0 rfl) ?_
            refine lv_iconst (v := 0) hx hb d_M_space_47 (by decide) ?_
            refine va_iast hx hb hK hP hD hS 1 0 rfl t0 (vp_in_nI hb9 (by decide)) d_M_space_48 (fun H locs hP hD hS => ?_)
            rw [nI_clamp (Nat.lt_trans hb9 (by decide))] at hP hD
            replace hP : va_P D classes [(hm, .inr (2, [.int (goT true true), .int (nI cn), .ref qs, .ref qt, .ref qm, .int (nI nw), .int v, .int w, .int z, .int (nI hd)])), (qs, .inl (cI, 16386, .inl (upd zb b 0))), (qt, .inl (cJ, 16386, .inl ta)), (qm, .inl (cZ, 16386, .inl kb))] _ := hP
            replace hD : va_D A [(hm, .inr (2, [.int (goT true true), .int (nI cn), .ref qs, .ref qt, .ref qm, .int (nI nw), .int v, .int w, .int z, .int (nI hd)])), (qs, .inl (cI, 16386, .inl (upd zb b 0))), (qt, .inl (cJ, 16386, .inl ta)), (qm, .inl (cZ, 16386, .inl kb))] := hD
            refine lv_aload_n hx hb d_M_space_49 rfl (lv_at hl 2 rfl) ?_
            refine va_get (D := D) (ci := 2) (v := .ref qm) (C := R_M) (T := F_M) (N := 10) hx hb hg gi_M hown hK hP 0 rfl rfl 4 (by decide) (hg _ gw_356) (fun _ h9 => h9) rfl d_M_space_50 ?_
            refine lv_iload_n hx hb d_M_space_53 rfl (lv_at hl 0 rfl) ?_
            refine lv_iconst (v := 0) hx hb d_M_space_54 (by decide) ?_
            refine va_zast hx hb hK hP hD hS 3 2 rfl t2 (vp_in_nI hb9 (by decide)) d_M_space_55 (fun H locs hP hD hS => ?_)
            rw [nI_clamp (Nat.lt_trans hb9 (by decide))] at hP hD
            replace hP : va_P D classes [(hm, .inr (2, [.int (goT true true), .int (nI cn), .ref qs, .ref qt, .ref qm, .int (nI nw), .int v, .int w, .int z, .int (nI hd)])), (qs, .inl (cI, 16386, .inl (upd zb b 0))), (qt, .inl (cJ, 16386, .inl ta)), (qm, .inl (cZ, 16386, .inl (upd kb b 0)))] _ := hP
            replace hD : va_D A [(hm, .inr (2, [.int (goT true true), .int (nI cn), .ref qs, .ref qt, .ref qm, .int (nI nw), .int v, .int w, .int z, .int (nI hd)])), (qs, .inl (cI, 16386, .inl (upd zb b 0))), (qt, .inl (cJ, 16386, .inl ta)), (qm, .inl (cZ, 16386, .inl (upd kb b 0)))] := hD
            obtain ⟨j1, ej1⟩ : ∃ y : Int32, y = (nI b) + 1 := ⟨_, rfl⟩
            refine lv_iinc (v := j1) (lv' := [(3, .int j1), (2, .int (nI cn)), (0, .ref hm), (1, .int (nI k))]) hx hb d_M_space_56 hl (k := 0) rfl (by rw [ej1]; rfl) (by decide) rfl (fun ls hl => ?_)
            refine lv_goto (tgt := 35) hx hb d_M_space_59 (by decide) ?_
            rw [nI_1] at ej1
            subst ej1
            exact ih ls (b + 1) (upd zb b 0) (upd kb b 0) _ _ (lv_sub hl [0, 1, 2, 3] rfl) (by omega) (by omega) (fun a h1 h2 => by
              by_cases h3 : a = b
              · rw [h3, upd_s, upd_s]; exact ⟨rfl, rfl⟩
              · rw [upd_n _ _ h3, upd_n _ _ h3]; exact hzz a h1 (by omega)) hP hD hS
      · exact absurd c_23 (by decide)
set_option maxHeartbeats 4000000 in
set_option maxRecDepth 100000 in
theorem c_M_init (l : Launch) (D : va_G) (N0 sz : Nat) (hm : Nat) : Met l y_M_init (Cond.code y_M_init b_M_init 1 none :: GW) ({ frames := 1, cells := 3, slots := 49158, locals := 12 }) (va_Pc [.ref hm] (at1 D [] N0 sz [(hm, .inr (2, [.int 0, .int 0, .null, .null, .null, .int 0, .int 0, .int 0, .int 0, .int 0]))])) (va_Qv (fun z : (Nat × Nat × Nat) × (ClassId × ClassId × ClassId) × (Nat → Int32) × (Nat → Int32) × (Nat → Int32) => ∀ q : Nat, Inv 1024 1 0 [(q, 1, 1024, false, false, 1)] z.2.2.1 z.2.2.2.1 z.2.2.2.2) (fun z t => at2 D [(z.2.1.1, .int), (z.2.1.2.1, .int), (z.2.1.2.2, .boolean)] (va_A [(hm, .inr (2, [.int 0, .int 0, .null, .null, .null, .int 0, .int 0, .int 0, .int 0, .int 0]))] sz) (mW hm z.1.1 z.1.2.1 z.1.2.2 z.2.1.1 z.2.1.2.1 z.2.1.2.2 0 1024 0 0 0 0 0 z.2.2.1 z.2.2.2.1 z.2.2.2.2) t) (va_A [(hm, .inr (2, [.int 0, .int 0, .null, .null, .null, .int 0, .int 0, .int 0, .int 0, .int 0]))] sz)) 3 49158 (va_A [(hm, .inr (2, [.int 0, .int 0, .null, .null, .null, .int 0, .int 0, .int 0, .int 0, .int 0]))] sz) := by
  refine Met.ofW (cc := b_M_init) (maxL := 1) (ret := none) (by decide) rfl ?_
  intro p e s m args below meth c s₁ B hml hv
  obtain ⟨rfl, hsz, hN0, ⟨hP, hK, hN⟩, hD0, hE⟩ := hv
  subst hsz
  have hD := hD0.self (sz := s.heap.size)
  have hAN := sw_AN hD0 hN0
  generalize hAe : va_A [(hm, .inr (2, [.int 0, .int 0, .null, .null, .null, .int 0, .int 0, .int 0, .int 0, .int 0]))] s.heap.size = A at hD hAN ⊢
  have hA : ∀ q : Nat, s.heap.size ≤ q → A q := fun q h => by rw [← hAe]; exact Or.inr h
  have hS : va_S A s.heap s.heap [] := va_S.rf
  have hP : va_P D classes [(hm, .inr (2, [.int 0, .int 0, .null, .null, .null, .int 0, .int 0, .int 0, .int 0, .int 0]))] s.heap := hP
  have hx := B.exec
  have hb := B.bytes
  have hr := B.returns
  have hg : ∀ w ∈ GW, w.before _ s = true := fun w h => atoms_spec (ws := Cond.code y_M_init b_M_init 1 none :: GW) B.pre w (List.mem_cons_of_mem _ h)
  have hown : s.vm.findClass R_M = some m.cls := findClass_of_methodNamed B.named
  have hlocks := B.notSynchronized
  have hin : meth.name = "<init>" := (name_of_methodNamed B.named B.method).1
  have hl := lv_entry ([.ref hm]) (n := 1) (Nat.le_of_ble_eq_true rfl)
  rw [lg_entry_eq]
  generalize (lg_sl ([.ref hm]) ++ List.replicate (1 - (lg_sl ([.ref hm])).length) Slot.unset).toArray = ls at hl ⊢
  replace hl : lv_has ls 1 [(0, .ref hm)] := hl
  refine lv_aload_n hx hb d_M_init_0 rfl (lv_at hl 0 rfl) ?_
  refine W.objInit hx hb hown (hg _ gw_351) (hg _ gw_41) (hg _ gw_42) rfl (by rw [hml]; exact hl.1) rfl d_M_init_1 (Nat.le_of_ble_eq_true rfl) (Nat.le_of_ble_eq_true rfl) ?_
  refine W.eq (g2 := F0 m 4 ls []) rfl ?_
  refine lv_aload_n hx hb d_M_init_4 rfl (lv_at hl 0 rfl) ?_
  refine lv_sipush (v := 1024) hx hb d_M_init_5 (by decide) ?_
  refine va_put (D := D) (ci := 2) (v := .int 1024) (ty := .int) (C := R_M) (T := F_M) (N := 10) hx hb hg gi_M t_M t_M_ok n_M hown hK hP hD hS 0 rfl rfl 1 (by decide) (hg _ gw_353) (fun _ h9 => h9) rfl (by decide +kernel) rfl rfl (Nat.le_of_ble_eq_true rfl) d_M_init_8 (fun H locs hP hD hS => ?_)
  replace hP : va_P D classes [(hm, .inr (2, [.int 0, .int 1024, .null, .null, .null, .int 0, .int 0, .int 0, .int 0, .int 0]))] _ := hP
  replace hD : va_D A [(hm, .inr (2, [.int 0, .int 1024, .null, .null, .null, .int 0, .int 0, .int 0, .int 0, .int 0]))] := hD
  refine lv_aload_n hx hb d_M_init_11 rfl (lv_at hl 0 rfl) ?_
  refine lv_sipush (v := 16386) hx hb d_M_init_12 (by decide) ?_
  refine va_newa (atype := .int) (ty := .int) (a0 := (16386, .inl (fun _ => 0))) (N' := 16386) hx hb (hg _ gw_383) rfl hK hP hD hS hA (fun _ => rfl) (by decide) (by decide) (by decide) (Nat.le_of_ble_eq_true rfl) (Nat.le_of_ble_eq_true rfl) d_M_init_15 (fun qs cI H hK hP hD hS => ?_)
  replace hP : va_P D classes [(hm, .inr (2, [.int 0, .int 1024, .null, .null, .null, .int 0, .int 0, .int 0, .int 0, .int 0])), (qs, .inl (cI, 16386, .inl (fun _ => 0)))] _ := hP
  replace hD : va_D A [(hm, .inr (2, [.int 0, .int 1024, .null, .null, .null, .int 0, .int 0, .int 0, .int 0, .int 0])), (qs, .inl (cI, 16386, .inl (fun _ => 0)))] := hD
  replace hK : va_K D classes [(cI, .int)] s := hK
  refine W.widen (k := 1) (n := 16386) (Nat.le_of_ble_eq_true rfl) (Nat.le_of_ble_eq_true rfl) ?_
  refine va_putF (D := D) (ci := 2) (v := .ref qs) (ty := .array .int) (C := R_M) (T := F_M) (N := 10) hx hb hg gi_M t_M t_M_ok n_M hown hK hP hD hS 0 rfl rfl 2 (by decide) (hg _ gw_354) (fun _ h9 => h9) rfl hin rfl (by decide +kernel) rfl rfl (Nat.le_of_ble_eq_true rfl) d_M_init_17 (fun H locs hP hD hS => ?_)
  replace hP : va_P D classes [(hm, .inr (2, [.int 0, .int 1024, .ref qs, .null, .null, .int 0, .int 0, .int 0, .int 0, .int 0])), (qs, .inl (cI, 16386, .inl (fun _ => 0)))] _ := hP
  replace hD : va_D A [(hm, .inr (2, [.int 0, .int 1024, .ref qs, .null, .null, .int 0, .int 0, .int 0, .int 0, .int 0])), (qs, .inl (cI, 16386, .inl (fun _ => 0)))] := hD
  refine lv_aload_n hx hb d_M_init_20 rfl (lv_at hl 0 rfl) ?_
  refine lv_sipush (v := 16386) hx hb d_M_init_21 (by decide) ?_
  refine va_newa (atype := .int) (ty := .int) (a0 := (16386, .inl (fun _ => 0))) (N' := 16386) hx hb (hg _ gw_383) rfl hK hP hD hS hA (fun _ => rfl) (by decide) (by decide) (by decide) (Nat.le_of_ble_eq_true rfl) (Nat.le_of_ble_eq_true rfl) d_M_init_24 (fun qt cJ H hK hP hD hS => ?_)
  replace hP : va_P D classes [(hm, .inr (2, [.int 0, .int 1024, .ref qs, .null, .null, .int 0, .int 0, .int 0, .int 0, .int 0])), (qs, .inl (cI, 16386, .inl (fun _ => 0))), (qt, .inl (cJ, 16386, .inl (fun _ => 0)))] _ := hP
  replace hD : va_D A [(hm, .inr (2, [.int 0, .int 1024, .ref qs, .null, .null, .int 0, .int 0, .int 0, .int 0, .int 0])), (qs, .inl (cI, 16386, .inl (fun _ => 0))), (qt, .inl (cJ, 16386, .inl (fun _ => 0)))] := hD
  replace hK : va_K D classes [(cI, .int), (cJ, .int)] s := hK
  refine W.widen (k := 2) (n := 32772) (Nat.le_of_ble_eq_true rfl) (Nat.le_of_ble_eq_true rfl) ?_
  refine va_putF (D := D) (ci := 2) (v := .ref qt) (ty := .array .int) (C := R_M) (T := F_M) (N := 10) hx hb hg gi_M t_M t_M_ok n_M hown hK hP hD hS 0 rfl rfl 3 (by decide) (hg _ gw_355) (fun _ h9 => h9) rfl hin rfl (by decide +kernel) rfl rfl (Nat.le_of_ble_eq_true rfl) d_M_init_26 (fun H locs hP hD hS => ?_)
  replace hP : va_P D classes [(hm, .inr (2, [.int 0, .int 1024, .ref qs, .ref qt, .null, .int 0, .int 0, .int 0, .int 0, .int 0])), (qs, .inl (cI, 16386, .inl (fun _ => 0))), (qt, .inl (cJ, 16386, .inl (fun _ => 0)))] _ := hP
  replace hD : va_D A [(hm, .inr (2, [.int 0, .int 1024, .ref qs, .ref qt, .null, .int 0, .int 0, .int 0, .int 0, .int 0])), (qs, .inl (cI, 16386, .inl (fun _ => 0))), (qt, .inl (cJ, 16386, .inl (fun _ => 0)))] := hD
  refine lv_aload_n hx hb d_M_init_29 rfl (lv_at hl 0 rfl) ?_
  refine lv_sipush (v := 16386) hx hb d_M_init_30 (by decide) ?_
  refine va_newa (atype := .boolean) (ty := .boolean) (a0 := (16386, .inl (fun _ => 0))) (N' := 16386) hx hb (hg _ gw_384) rfl hK hP hD hS hA (fun _ => rfl) (by decide) (by decide) (by decide) (Nat.le_of_ble_eq_true rfl) (Nat.le_of_ble_eq_true rfl) d_M_init_33 (fun qm cZ H hK hP hD hS => ?_)
  replace hP : va_P D classes [(hm, .inr (2, [.int 0, .int 1024, .ref qs, .ref qt, .null, .int 0, .int 0, .int 0, .int 0, .int 0])), (qs, .inl (cI, 16386, .inl (fun _ => 0))), (qt, .inl (cJ, 16386, .inl (fun _ => 0))), (qm, .inl (cZ, 16386, .inl (fun _ => 0)))] _ := hP
  replace hD : va_D A [(hm, .inr (2, [.int 0, .int 1024, .ref qs, .ref qt, .null, .int 0, .int 0, .int 0, .int 0, .int 0])), (qs, .inl (cI, 16386, .inl (fun _ => 0))), (qt, .inl (cJ, 16386, .inl (fun _ => 0))), (qm, .inl (cZ, 16386, .inl (fun _ => 0)))] := hD
  replace hK : va_K D classes [(cI, .int), (cJ, .int), (cZ, .boolean)] s := hK
  refine W.widen (k := 3) (n := 49158) (Nat.le_of_ble_eq_true rfl) (Nat.le_of_ble_eq_true rfl) ?_
  refine va_putF (D := D) (ci := 2) (v := .ref qm) (ty := .array .boolean) (C := R_M) (T := F_M) (N := 10) hx hb hg gi_M t_M t_M_ok n_M hown hK hP hD hS 0 rfl rfl 4 (by decide) (hg _ gw_356) (fun _ h9 => h9) rfl hin rfl (by decide +kernel) rfl rfl (Nat.le_of_ble_eq_true rfl) d_M_init_35 (fun H locs hP hD hS => ?_)
  replace hP : va_P D classes [(hm, .inr (2, [.int 0, .int 1024, .ref qs, .ref qt, .ref qm, .int 0, .int 0, .int 0, .int 0, .int 0])), (qs, .inl (cI, 16386, .inl (fun _ => 0))), (qt, .inl (cJ, 16386, .inl (fun _ => 0))), (qm, .inl (cZ, 16386, .inl (fun _ => 0)))] _ := hP
  replace hD : va_D A [(hm, .inr (2, [.int 0, .int 1024, .ref qs, .ref qt, .ref qm, .int 0, .int 0, .int 0, .int 0, .int 0])), (qs, .inl (cI, 16386, .inl (fun _ => 0))), (qt, .inl (cJ, 16386, .inl (fun _ => 0))), (qm, .inl (cZ, 16386, .inl (fun _ => 0)))] := hD
  refine lv_aload_n hx hb d_M_init_38 rfl (lv_at hl 0 rfl) ?_
  refine va_get (D := D) (ci := 2) (v := .ref qs) (C := R_M) (T := F_M) (N := 10) hx hb hg gi_M hown hK hP 0 rfl rfl 2 (by decide) (hg _ gw_354) (fun _ h9 => h9) rfl d_M_init_39 ?_
  refine lv_iconst (v := 1) hx hb d_M_init_42 (by decide) ?_
  refine lv_sipush (v := (-1024)) hx hb d_M_init_43 (by decide) ?_
  refine va_iast hx hb hK hP hD hS 1 0 rfl rfl (vp_in_nI (n := 1) (by decide) (by decide)) d_M_init_46 (fun H locs hP hD hS => ?_)
  rw [show (1 : Int32).toNatClampNeg = 1 from by decide] at hP hD
  replace hP : va_P D classes [(hm, .inr (2, [.int 0, .int 1024, .ref qs, .ref qt, .ref qm, .int 0, .int 0, .int 0, .int 0, .int 0])), (qs, .inl (cI, 16386, .inl (upd (fun _ => 0) 1 (-1024)))), (qt, .inl (cJ, 16386, .inl (fun _ => 0))), (qm, .inl (cZ, 16386, .inl (fun _ => 0)))] _ := hP
  replace hD : va_D A [(hm, .inr (2, [.int 0, .int 1024, .ref qs, .ref qt, .ref qm, .int 0, .int 0, .int 0, .int 0, .int 0])), (qs, .inl (cI, 16386, .inl (upd (fun _ => 0) 1 (-1024)))), (qt, .inl (cJ, 16386, .inl (fun _ => 0))), (qm, .inl (cZ, 16386, .inl (fun _ => 0)))] := hD
  exact W.vret hx hb hr (fun t ht hW => ⟨⟨((qs, qt, qm), (cI, cJ, cZ), upd (fun _ => 0) 1 (-1024), (fun _ => 0), (fun _ => 0)), rfl, inv_first, at2.of hP hK hD ht hW⟩, hS.F ht⟩) hS.2.2 d_M_init_47
