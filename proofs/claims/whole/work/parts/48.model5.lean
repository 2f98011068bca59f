set_option maxHeartbeats 4000000 in
set_option maxRecDepth 100000 in
theorem c_M_count (l : Launch) (D : va_G) (ty : tyL) (N0 sz : Nat) (hm qs qt qm : Nat) (cI cJ cZ : ClassId) (th : Int32) (cn nw : Nat) (v w z : Int32) (hd : Nat) (za ta ka : Nat → Int32) (n : Int32) (L : List AP) (f : Nat) (hI : Inv cn f nw L za ta ka) (t0 : ty[0]? = some (cI, .int)) (t1 : ty[1]? = some (cJ, .int)) (t2 : ty[2]? = some (cZ, .boolean))  : Met l y_M_count (Cond.code y_M_count b_M_count 8 (some .int) :: GW) ({ frames := 2, cells := 0, slots := 0, locals := 43 }) (va_Pc [.ref hm, .int n] (at1 D ty N0 sz (mW hm qs qt qm cI cJ cZ th cn nw v w z hd za ta ka))) (va_Qi (fun r ws' => ((n < 0 ∨ ¬ n ≤ 10) ∧ ws' = mW hm qs qt qm cI cJ cZ 1 cn nw v w z hd za ta ka) ∨ ∃ k : Nat, k ≤ 10 ∧ n = nI k ∧ r = cntV cn v w z L k ∧ ws' = mW hm qs qt qm cI cJ cZ 0 cn nw v w z hd za ta ka) (at2 D ty (va_A (mW hm qs qt qm cI cJ cZ th cn nw v w z hd za ta ka) sz)) (va_A (mW hm qs qt qm cI cJ cZ th cn nw v w z hd za ta ka) sz)) 0 0 (va_A (mW hm qs qt qm cI cJ cZ th cn nw v w z hd za ta ka) sz) := by
  refine Met.ofW (cc := b_M_count) (maxL := 8) (ret := (some .int)) (by decide) rfl ?_
  intro p e s m args below meth c s₁ B hml hv
  obtain ⟨rfl, hsz, hN0, ⟨hP, hK, hN⟩, hD0, hE⟩ := hv
  subst hsz
  have hD := hD0.self (sz := s.heap.size)
  have hAN := sw_AN hD0 hN0
  generalize hAe : va_A (mW hm qs qt qm cI cJ cZ th cn nw v w z hd za ta ka) s.heap.size = A at hD hAN ⊢
  have hA : ∀ q : Nat, s.heap.size ≤ q → A q := fun q h => by rw [← hAe]; exact Or.inr h
  have hS : va_S A s.heap s.heap [] := va_S.rf
  have hP : va_P D classes (mW hm qs qt qm cI cJ cZ th cn nw v w z hd za ta ka) s.heap := hP
  have hx := B.exec
  have hb := B.bytes
  have hr := B.returns
  have hg : ∀ w ∈ GW, w.before _ s = true := fun w h => atoms_spec (ws := Cond.code y_M_count b_M_count 8 (some .int) :: GW) B.pre w (List.mem_cons_of_mem _ h)
  have hown : s.vm.findClass R_M = some m.cls := findClass_of_methodNamed B.named
  have hlocks := B.notSynchronized
  have hl := lv_entry ([.ref hm, .int n]) (n := 8) (Nat.le_of_ble_eq_true rfl)
  rw [lg_entry_eq]
  generalize (lg_sl ([.ref hm, .int n]) ++ List.replicate (8 - (lg_sl ([.ref hm, .int n])).length) Slot.unset).toArray = ls at hl ⊢
  replace hl : lv_has ls 8 [(0, .ref hm), (1, .int n)] := hl
  replace hP : va_P D classes [(hm, .inr (2, [.int th, .int (nI cn), .ref qs, .ref qt, .ref qm, .int (nI nw), .int v, .int w, .int z, .int (nI hd)])), (qs, .inl (cI, 16386, .inl za)), (qt, .inl (cJ, 16386, .inl ta)), (qm, .inl (cZ, 16386, .inl ka))] _ := hP
  replace hD : va_D A [(hm, .inr (2, [.int th, .int (nI cn), .ref qs, .ref qt, .ref qm, .int (nI nw), .int v, .int w, .int z, .int (nI hd)])), (qs, .inl (cI, 16386, .inl za)), (qt, .inl (cJ, 16386, .inl ta)), (qm, .inl (cZ, 16386, .inl ka))] := hD
  have hcn := hI.2.2.1
  refine lv_aload_n hx hb d_M_count_0 rfl (lv_at hl 0 rfl) ?_
  refine lv_iload_n hx hb d_M_count_1 rfl (lv_at hl 1 rfl) ?_
  refine lv_if_lt (tgt := 15) hx hb d_M_count_2 (by decide) (fun c_2 => ?_) (fun c_2 => ?_)
  · refine lv_iconst (v := 0) hx hb d_M_count_15 (by decide) ?_
    refine lv_iconst (v := 1) hx hb d_M_count_16 (by decide) ?_
    have hFc := sw_free hD hS hA
    refine va_calli (va_runV (As := [.int 0, .int 1]) (rest := []) ⟨hx, hb, hml, hown, hg⟩ (c_M_goes l D ty N0 _ hm qs qt qm cI cJ cZ th cn nw v w z hd za ta ka false true t0 t1 t2) (cwV 2 hg (gw_V gw_393 gw_395 gw_17 gw_28 gw_396) rfl rfl rfl (by decide +kernel) ⟨Nat.le_of_ble_eq_true rfl, Nat.le_of_ble_eq_true rfl⟩) (pre_wrV hP hK hN hD hS hAN hN0 hE (ci := 2) (k := 0) rfl rfl) rfl rfl hl.1 rfl (lv_room (Nat.le_of_ble_eq_true rfl)) d_M_count_17 ⟨Nat.le_of_ble_eq_true rfl, Nat.le_of_ble_eq_true rfl⟩) hS (fun q _ h => hFc q h) hFc (fun r_ u t H locs ht hvm hw hB hz1 hk1 hS => ?_)
    obtain ⟨hP, hK1, hD1⟩ := hB
    rw [ht] at hP
    have hD := hD1.weaken (fun _ _ _ h => hFc _ h)
    clear hK1 hD1 hFc hk1 hz1
    obtain ⟨rfl, rfl⟩ := hw
    replace hP : va_P D classes [(hm, .inr (2, [.int (goT false true), .int (nI cn), .ref qs, .ref qt, .ref qm, .int (nI nw), .int v, .int w, .int z, .int (nI hd)])), (qs, .inl (cI, 16386, .inl za)), (qt, .inl (cJ, 16386, .inl ta)), (qm, .inl (cZ, 16386, .inl ka))] _ := hP
    replace hD : va_D A [(hm, .inr (2, [.int (goT false true), .int (nI cn), .ref qs, .ref qt, .ref qm, .int (nI nw), .int v, .int w, .int z, .int (nI hd)])), (qs, .inl (cI, 16386, .inl za)), (qt, .inl (cJ, 16386, .inl ta)), (qm, .inl (cZ, 16386, .inl ka))] := hD
    refine lv_if_ne (tgt := 25) hx hb d_M_count_20 (by decide) (fun c_20 => ?_) (fun c_20 => ?_)
    · exact absurd rfl c_20
    · refine lv_iconst (v := 0) hx hb d_M_count_23 (by decide) ?_
      refine W.widen (k := 0) (n := 0) (Nat.le_of_ble_eq_true rfl) (Nat.le_of_ble_eq_true rfl) ?_
      exact W.iret (v := 0) hx hb hr (fun t ht hW => ⟨⟨_, _, rfl, (Or.inl ⟨Or.inl c_2, rfl⟩), at2.of hP hK hD ht hW⟩, hS.F ht⟩) hS.2.2 d_M_count_24
  · refine lv_iload_n hx hb d_M_count_5 rfl (lv_at hl 1 rfl) ?_
    refine lv_bipush (v := 10) hx hb d_M_count_6 (by decide) ?_
    refine lv_icmp_gt (tgt := 15) hx hb d_M_count_8 (by decide) (fun c_8 => ?_) (fun c_8 => ?_)
    · refine lv_iconst (v := 0) hx hb d_M_count_15 (by decide) ?_
      refine lv_iconst (v := 1) hx hb d_M_count_16 (by decide) ?_
      have hFc := sw_free hD hS hA
      refine va_calli (va_runV (As := [.int 0, .int 1]) (rest := []) ⟨hx, hb, hml, hown, hg⟩ (c_M_goes l D ty N0 _ hm qs qt qm cI cJ cZ th cn nw v w z hd za ta ka false true t0 t1 t2) (cwV 2 hg (gw_V gw_393 gw_395 gw_17 gw_28 gw_396) rfl rfl rfl (by decide +kernel) ⟨Nat.le_of_ble_eq_true rfl, Nat.le_of_ble_eq_true rfl⟩) (pre_wrV hP hK hN hD hS hAN hN0 hE (ci := 2) (k := 0) rfl rfl) rfl rfl hl.1 rfl (lv_room (Nat.le_of_ble_eq_true rfl)) d_M_count_17 ⟨Nat.le_of_ble_eq_true rfl, Nat.le_of_ble_eq_true rfl⟩) hS (fun q _ h => hFc q h) hFc (fun r_ u t H locs ht hvm hw hB hz1 hk1 hS => ?_)
      obtain ⟨hP, hK1, hD1⟩ := hB
      rw [ht] at hP
      have hD := hD1.weaken (fun _ _ _ h => hFc _ h)
      clear hK1 hD1 hFc hk1 hz1
      obtain ⟨rfl, rfl⟩ := hw
      replace hP : va_P D classes [(hm, .inr (2, [.int (goT false true), .int (nI cn), .ref qs, .ref qt, .ref qm, .int (nI nw), .int v, .int w, .int z, .int (nI hd)])), (qs, .inl (cI, 16386, .inl za)), (qt, .inl (cJ, 16386, .inl ta)), (qm, .inl (cZ, 16386, .inl ka))] _ := hP
      replace hD : va_D A [(hm, .inr (2, [.int (goT false true), .int (nI cn), .ref qs, .ref qt, .ref qm, .int (nI nw), .int v, .int w, .int z, .int (nI hd)])), (qs, .inl (cI, 16386, .inl za)), (qt, .inl (cJ, 16386, .inl ta)), (qm, .inl (cZ, 16386, .inl ka))] := hD
      refine lv_if_ne (tgt := 25) hx hb d_M_count_20 (by decide) (fun c_20 => ?_) (fun c_20 => ?_)
      · exact absurd rfl c_20
      · refine lv_iconst (v := 0) hx hb d_M_count_23 (by decide) ?_
        refine W.widen (k := 0) (n := 0) (Nat.le_of_ble_eq_true rfl) (Nat.le_of_ble_eq_true rfl) ?_
        exact W.iret (v := 0) hx hb hr (fun t ht hW => ⟨⟨_, _, rfl, (Or.inl ⟨Or.inr (Int32.not_le.mpr c_8), rfl⟩), at2.of hP hK hD ht hW⟩, hS.F ht⟩) hS.2.2 d_M_count_24
    · refine lv_iconst (v := 1) hx hb d_M_count_11 (by decide) ?_
      refine lv_goto (tgt := 16) hx hb d_M_count_12 (by decide) ?_
      refine lv_iconst (v := 1) hx hb d_M_count_16 (by decide) ?_
      have hFc := sw_free hD hS hA
      refine va_calli (va_runV (As := [.int 1, .int 1]) (rest := []) ⟨hx, hb, hml, hown, hg⟩ (c_M_goes l D ty N0 _ hm qs qt qm cI cJ cZ th cn nw v w z hd za ta ka true true t0 t1 t2) (cwV 2 hg (gw_V gw_393 gw_395 gw_17 gw_28 gw_396) rfl rfl rfl (by decide +kernel) ⟨Nat.le_of_ble_eq_true rfl, Nat.le_of_ble_eq_true rfl⟩) (pre_wrV hP hK hN hD hS hAN hN0 hE (ci := 2) (k := 0) rfl rfl) rfl rfl hl.1 rfl (lv_room (Nat.le_of_ble_eq_true rfl)) d_M_count_17 ⟨Nat.le_of_ble_eq_true rfl, Nat.le_of_ble_eq_true rfl⟩) hS (fun q _ h => hFc q h) hFc (fun r_ u t H locs ht hvm hw hB hz1 hk1 hS => ?_)
      obtain ⟨hP, hK1, hD1⟩ := hB
      rw [ht] at hP
      have hD := hD1.weaken (fun _ _ _ h => hFc _ h)
      clear hK1 hD1 hFc hk1 hz1
      obtain ⟨rfl, rfl⟩ := hw
      replace hP : va_P D classes [(hm, .inr (2, [.int (goT true true), .int (nI cn), .ref qs, .ref qt, .ref qm, .int (nI nw), .int v, .int w, .int z, .int (nI hd)])), (qs, .inl (cI, 16386, .inl za)), (qt, .inl (cJ, 16386, .inl ta)), (qm, .inl (cZ, 16386, .inl ka))] _ := hP
      replace hD : va_D A [(hm, .inr (2, [.int (goT true true), .int (nI cn), .ref qs, .ref qt, .ref qm, .int (nI nw), .int v, .int w, .int z, .int (nI hd)])), (qs, .inl (cI, 16386, .inl za)), (qt, .inl (cJ, 16386, .inl ta)), (qm, .inl (cZ, 16386, .inl ka))] := hD
      refine lv_if_ne (tgt := 25) hx hb d_M_count_20 (by decide) (fun c_20 => ?_) (fun c_20 => ?_)
      · obtain ⟨k, hk1, hk2, rfl⟩ := rng (lo := 0) (hi := 10) c_2 (Int32.not_lt.mp c_8) (by decide) (by decide)
        replace hl : lv_has ls 8 [(0, .ref hm), (1, .int (nI k))] := hl
        refine lv_iconst (v := 0) hx hb d_M_count_25 (by decide) ?_
        refine lv_istore_n (lv' := [(2, .int 0), (0, .ref hm), (1, .int (nI k))]) hx hb d_M_count_26 rfl hl (by decide) rfl (fun ls hl => ?_)
        refine lv_iconst (v := 0) hx hb d_M_count_27 (by decide) ?_
        refine lv_istore_n (lv' := [(3, .int 0), (2, .int 0), (0, .ref hm), (1, .int (nI k))]) hx hb d_M_count_28 rfl hl (by decide) rfl (fun ls hl => ?_)
        refine lv_iconst (v := 0) hx hb d_M_count_29 (by decide) ?_
        refine lv_istore (lv' := [(4, .int 0), (3, .int 0), (2, .int 0), (0, .ref hm), (1, .int (nI k))]) hx hb d_M_count_30 hl (by decide) rfl (fun ls hl => ?_)
        refine lv_iconst (v := 0) hx hb d_M_count_32 (by decide) ?_
        refine lv_istore (lv' := [(5, .int 0), (4, .int 0), (3, .int 0), (2, .int 0), (0, .ref hm), (1, .int (nI k))]) hx hb d_M_count_33 hl (by decide) rfl (fun ls hl => ?_)
        refine lv_iconst (v := 0) hx hb d_M_count_35 (by decide) ?_
        refine lv_istore (lv' := [(6, .int 0), (5, .int 0), (4, .int 0), (3, .int 0), (2, .int 0), (0, .ref hm), (1, .int (nI k))]) hx hb d_M_count_36 hl (by decide) rfl (fun ls hl => ?_)
        refine lv_iconst (v := 1) hx hb d_M_count_38 (by decide) ?_
        refine lv_istore (lv' := [(7, .int 1), (6, .int 0), (5, .int 0), (4, .int 0), (3, .int 0), (2, .int 0), (0, .ref hm), (1, .int (nI k))]) hx hb d_M_count_39 hl (by decide) rfl (fun ls hl => ?_)
        obtain ⟨g2, hg2⟩ : ∃ q : Nat, q = 0 := ⟨_, rfl⟩
        obtain ⟨g3, hg3⟩ : ∃ q : Nat, q = 0 := ⟨_, rfl⟩
        obtain ⟨g4, hg4⟩ : ∃ q : Nat, q = 0 := ⟨_, rfl⟩
        obtain ⟨g5, hg5⟩ : ∃ q : Nat, q = 0 := ⟨_, rfl⟩
        obtain ⟨g6, hg6⟩ : ∃ q : Nat, q = 0 := ⟨_, rfl⟩
        obtain ⟨suf, hs⟩ : ∃ q, q = L := ⟨_, rfl⟩
        obtain ⟨d, hd9⟩ : ∃ q : Nat, q = 1 := ⟨_, rfl⟩
        replace hl := lv_sub hl [0, 5, 4, 3, 2, 1, 6, 7] rfl
        replace hl : lv_has ls 8 [(7, .int 1), (2, .int 0), (3, .int 0), (4, .int 0), (5, .int 0), (6, .int 0), (0, .ref hm), (1, .int (nI k))] := hl
        replace hl : lv_has ls 8 [(7, .int (nI d)), (2, .int (nI g2)), (3, .int (nI g3)), (4, .int (nI g4)), (5, .int (nI g5)), (6, .int (nI g6)), (0, .ref hm), (1, .int (nI k))] := by rw [hd9, hg2, nI_0, hg3, hg4, hg5, hg6]; exact hl
        have hpre : ∃ pre, L = pre ++ suf := ⟨[], hs.symm⟩
        have hTi : Til d suf (cn + 1) := by rw [hs, hd9]; exact hI.2.1
        have h0 : shrS 0 L = g2 + shrS 0 suf := by rw [hs, hg2, Nat.zero_add]
        have h2 : shrS 2 L = g3 + shrS 2 suf := by rw [hs, hg3, Nat.zero_add]
        have h3 : shrS 3 L = g4 + shrS 3 suf := by rw [hs, hg4, Nat.zero_add]
        have h4 : shrS 4 L = g5 + shrS 4 suf := by rw [hs, hg5, Nat.zero_add]
        have h1 : shrS 1 L = g6 + shrS 1 suf := by rw [hs, hg6, Nat.zero_add]
        clear hs hd9 hg2 hg3 hg4 hg5 hg6
        revert h1
        revert h4
        revert h3
        revert h2
        revert h0
        revert hTi
        revert hpre
        revert hl
        revert d
        revert g6
        revert g5
        revert g4
        revert g3
        revert g2
        revert ls
        induction suf with
        | nil =>
          intro ls g2 g3 g4 g5 g6 d hl hpre hTi h0 h2 h3 h4 h1
          replace hTi : d = cn + 1 := hTi
          subst hTi
          refine lv_iload hx hb d_M_count_41 (lv_at hl 0 rfl) ?_
          refine lv_aload_n hx hb d_M_count_43 rfl (lv_at hl 6 rfl) ?_
          refine va_get (D := D) (ci := 2) (v := .int (nI cn)) (C := R_M) (T := F_M) (N := 10) hx hb hg gi_M hown hK hP 0 rfl rfl 1 (by decide) (hg _ gw_353) (fun _ h9 => h9) rfl d_M_count_44 ?_
          refine lv_icmp_gt (tgt := 199) hx hb d_M_count_47 (by decide) (fun c_47 => ?_) (fun c_47 => ?_)
          · refine lv_iload_n hx hb d_M_count_199 rfl (lv_at hl 7 rfl) ?_
            rcases (show k = 0 ∨ k = 1 ∨ k = 2 ∨ k = 3 ∨ k = 4 ∨ k = 5 ∨ k = 6 ∨ k = 7 ∨ k = 8 ∨ k = 9 ∨ k = 10 by omega) with rfl | rfl | rfl | rfl | rfl | rfl | rfl | rfl | rfl | rfl | rfl
            · refine lv_tableIn (off := 56) (tgt := 256) hx hb d_M_count_200 (by decide +kernel) (by decide +kernel) (by decide +kernel) (by decide) ?_
              refine lv_iload_n hx hb d_M_count_256 rfl (lv_at hl 1 rfl) ?_
              refine W.widen (k := 0) (n := 0) (Nat.le_of_ble_eq_true rfl) (Nat.le_of_ble_eq_true rfl) ?_
              exact W.iret (v := (nI g2)) hx hb hr (fun t ht hW => ⟨⟨_, _, rfl, (Or.inr ⟨0, by decide, rfl, by show _ = nI (shrS 0 L); rw [h0]; rfl, rfl⟩), at2.of hP hK hD ht hW⟩, hS.F ht⟩) hS.2.2 d_M_count_257
            · refine lv_tableIn (off := 58) (tgt := 258) hx hb d_M_count_200 (by decide +kernel) (by decide +kernel) (by decide +kernel) (by decide) ?_
              refine lv_iload hx hb d_M_count_258 (lv_at hl 5 rfl) ?_
              refine W.widen (k := 0) (n := 0) (Nat.le_of_ble_eq_true rfl) (Nat.le_of_ble_eq_true rfl) ?_
              exact W.iret (v := (nI g6)) hx hb hr (fun t ht hW => ⟨⟨_, _, rfl, (Or.inr ⟨1, by decide, rfl, by show _ = nI (shrS 1 L); rw [h1]; rfl, rfl⟩), at2.of hP hK hD ht hW⟩, hS.F ht⟩) hS.2.2 d_M_count_260
            · refine lv_tableIn (off := 61) (tgt := 261) hx hb d_M_count_200 (by decide +kernel) (by decide +kernel) (by decide +kernel) (by decide) ?_
              refine lv_iload_n hx hb d_M_count_261 rfl (lv_at hl 2 rfl) ?_
              refine W.widen (k := 0) (n := 0) (Nat.le_of_ble_eq_true rfl) (Nat.le_of_ble_eq_true rfl) ?_
              exact W.iret (v := (nI g3)) hx hb hr (fun t ht hW => ⟨⟨_, _, rfl, (Or.inr ⟨2, by decide, rfl, by show _ = nI (shrS 2 L); rw [h2]; rfl, rfl⟩), at2.of hP hK hD ht hW⟩, hS.F ht⟩) hS.2.2 d_M_count_262
            · refine lv_tableIn (off := 63) (tgt := 263) hx hb d_M_count_200 (by decide +kernel) (by decide +kernel) (by decide +kernel) (by decide) ?_
              refine lv_iload hx hb d_M_count_263 (lv_at hl 3 rfl) ?_
              refine W.widen (k := 0) (n := 0) (Nat.le_of_ble_eq_true rfl) (Nat.le_of_ble_eq_true rfl) ?_
              exact W.iret (v := (nI g4)) hx hb hr (fun t ht hW => ⟨⟨_, _, rfl, (Or.inr ⟨3, by decide, rfl, by show _ = nI (shrS 3 L); rw [h3]; rfl, rfl⟩), at2.of hP hK hD ht hW⟩, hS.F ht⟩) hS.2.2 d_M_count_265
            · refine lv_tableIn (off := 66) (tgt := 266) hx hb d_M_count_200 (by decide +kernel) (by decide +kernel) (by decide +kernel) (by decide) ?_
              refine lv_iload hx hb d_M_count_266 (lv_at hl 4 rfl) ?_
              refine W.widen (k := 0) (n := 0) (Nat.le_of_ble_eq_true rfl) (Nat.le_of_ble_eq_true rfl) ?_
              exact W.iret (v := (nI g5)) hx hb hr (fun t ht hW => ⟨⟨_, _, rfl, (Or.inr ⟨4, by decide, rfl, by show _ = nI (shrS 4 L); rw [h4]; rfl, rfl⟩), at2.of hP hK hD ht hW⟩, hS.F ht⟩) hS.2.2 d_M_count_268
            · refine lv_tableIn (off := 69) (tgt := 269) hx hb d_M_count_200 (by decide +kernel) (by decide +kernel) (by decide +kernel) (by decide) ?_
              refine lv_aload_n hx hb d_M_count_269 rfl (lv_at hl 6 rfl) ?_
              refine vp_callSi (va_runV (As := []) (rest := []) ⟨hx, hb, hml, hown, hg⟩ (c_M_greatest l D ty hm qs qt qm cI cJ cZ (goT true true) cn nw v w z hd za ta ka L f hI t0 t1 t2) (cwV 0 hg (gw_V gw_461 gw_463 gw_24 gw_28 gw_464) rfl rfl rfl (by decide +kernel) ⟨Nat.le_of_ble_eq_true rfl, Nat.le_of_ble_eq_true rfl⟩) (pre_roV hP hK hN (ci := 2) (k := 0) rfl rfl) rfl rfl hl.1 rfl (lv_room (Nat.le_of_ble_eq_true rfl)) d_M_count_270 ⟨Nat.le_of_ble_eq_true rfl, Nat.le_of_ble_eq_true rfl⟩).run (fun r5 hr5 => ?_)
              refine W.widen (k := 0) (n := 0) (Nat.le_of_ble_eq_true rfl) (Nat.le_of_ble_eq_true rfl) ?_
              exact W.iret (v := r5) hx hb hr (fun t ht hW => ⟨⟨_, _, rfl, (Or.inr ⟨5, by decide, rfl, hr5, rfl⟩), at2.of hP hK hD ht hW⟩, hS.F ht⟩) hS.2.2 d_M_count_273
            · refine lv_tableIn (off := 74) (tgt := 274) hx hb d_M_count_200 (by decide +kernel) (by decide +kernel) (by decide +kernel) (by decide) ?_
              refine lv_aload_n hx hb d_M_count_274 rfl (lv_at hl 6 rfl) ?_
              refine va_get (D := D) (ci := 2) (v := .int v) (C := R_M) (T := F_M) (N := 10) hx hb hg gi_M hown hK hP 0 rfl rfl 6 (by decide) (hg _ gw_358) (fun _ h9 => h9) rfl d_M_count_275 ?_
              refine W.widen (k := 0) (n := 0) (Nat.le_of_ble_eq_true rfl) (Nat.le_of_ble_eq_true rfl) ?_
              exact W.iret (v := v) hx hb hr (fun t ht hW => ⟨⟨_, _, rfl, (Or.inr ⟨6, by decide, rfl, rfl, rfl⟩), at2.of hP hK hD ht hW⟩, hS.F ht⟩) hS.2.2 d_M_count_278
            · refine lv_tableIn (off := 79) (tgt := 279) hx hb d_M_count_200 (by decide +kernel) (by decide +kernel) (by decide +kernel) (by decide) ?_
              refine lv_aload_n hx hb d_M_count_279 rfl (lv_at hl 6 rfl) ?_
              refine va_get (D := D) (ci := 2) (v := .int (nI cn)) (C := R_M) (T := F_M) (N := 10) hx hb hg gi_M hown hK hP 0 rfl rfl 1 (by decide) (hg _ gw_353) (fun _ h9 => h9) rfl d_M_count_280 ?_
              refine W.widen (k := 0) (n := 0) (Nat.le_of_ble_eq_true rfl) (Nat.le_of_ble_eq_true rfl) ?_
              exact W.iret (v := (nI cn)) hx hb hr (fun t ht hW => ⟨⟨_, _, rfl, (Or.inr ⟨7, by decide, rfl, rfl, rfl⟩), at2.of hP hK hD ht hW⟩, hS.F ht⟩) hS.2.2 d_M_count_283
            · refine lv_tableIn (off := 84) (tgt := 284) hx hb d_M_count_200 (by decide +kernel) (by decide +kernel) (by decide +kernel) (by decide) ?_
              refine lv_aload_n hx hb d_M_count_284 rfl (lv_at hl 6 rfl) ?_
              refine vp_callSi (va_runV (As := []) (rest := []) ⟨hx, hb, hml, hown, hg⟩ (c_M_marks l D ty hm qs qt qm cI cJ cZ (goT true true) cn nw v w z hd za ta ka L f hI t0 t1 t2) (cwV 0 hg (gw_V gw_429 gw_431 gw_22 gw_28 gw_432) rfl rfl rfl (by decide +kernel) ⟨Nat.le_of_ble_eq_true rfl, Nat.le_of_ble_eq_true rfl⟩) (pre_roV hP hK hN (ci := 2) (k := 0) rfl rfl) rfl rfl hl.1 rfl (lv_room (Nat.le_of_ble_eq_true rfl)) d_M_count_285 ⟨Nat.le_of_ble_eq_true rfl, Nat.le_of_ble_eq_true rfl⟩).run (fun r5 hr5 => ?_)
              refine W.widen (k := 0) (n := 0) (Nat.le_of_ble_eq_true rfl) (Nat.le_of_ble_eq_true rfl) ?_
              exact W.iret (v := r5) hx hb hr (fun t ht hW => ⟨⟨_, _, rfl, (Or.inr ⟨8, by decide, rfl, hr5, rfl⟩), at2.of hP hK hD ht hW⟩, hS.F ht⟩) hS.2.2 d_M_count_288
            · refine lv_tableIn (off := 89) (tgt := 289) hx hb d_M_count_200 (by decide +kernel) (by decide +kernel) (by decide +kernel) (by decide) ?_
              refine lv_aload_n hx hb d_M_count_289 rfl (lv_at hl 6 rfl) ?_
              refine va_get (D := D) (ci := 2) (v := .int w) (C := R_M) (T := F_M) (N := 10) hx hb hg gi_M hown hK hP 0 rfl rfl 7 (by decide) (hg _ gw_359) (fun _ h9 => h9) rfl d_M_count_290 ?_
              refine W.widen (k := 0) (n := 0) (Nat.le_of_ble_eq_true rfl) (Nat.le_of_ble_eq_true rfl) ?_
              exact W.iret (v := w) hx hb hr (fun t ht hW => ⟨⟨_, _, rfl, (Or.inr ⟨9, by decide, rfl, rfl, rfl⟩), at2.of hP hK hD ht hW⟩, hS.F ht⟩) hS.2.2 d_M_count_293
            · refine lv_tableOut (tgt := 294) hx hb d_M_count_200 (Or.inr (by decide +kernel)) (by decide) ?_
              refine lv_aload_n hx hb d_M_count_294 rfl (lv_at hl 6 rfl) ?_
              refine va_get (D := D) (ci := 2) (v := .int z) (C := R_M) (T := F_M) (N := 10) hx hb hg gi_M hown hK hP 0 rfl rfl 8 (by decide) (hg _ gw_360) (fun _ h9 => h9) rfl d_M_count_295 ?_
              refine W.widen (k := 0) (n := 0) (Nat.le_of_ble_eq_true rfl) (Nat.le_of_ble_eq_true rfl) ?_
              exact W.iret (v := z) hx hb hr (fun t ht hW => ⟨⟨_, _, rfl, (Or.inr ⟨10, by decide, rfl, rfl, rfl⟩), at2.of hP hK hD ht hW⟩, hS.F ht⟩) hS.2.2 d_M_count_298
          · exact absurd (nI_lt (by omega) (by omega)) c_47
        | cons x suf ih =>
          intro ls g2 g3 g4 g5 g6 d hl hpre hTi h0 h2 h3 h4 h1
          obtain ⟨pre, hpre⟩ := hpre
          obtain ⟨hd1, hd2, hd3⟩ := hTi
          subst hd1
          have hxL : x ∈ L := by rw [hpre]; simp
          obtain ⟨hx1, hx2, hx3, hb9, hx4, hx5, hn1, hn2, hn3⟩ := hI.x hxL
          rcases (show x.2.2.2.1 = true ∨ (x.2.2.2.1 = false ∧ 2 < x.2.2.1) ∨ (x.2.2.2.1 = false ∧ x.2.2.1 ≤ 2) by cases x.2.2.2.1 <;> simp <;> omega) with hu | ⟨hu, h33⟩ | ⟨hu, h33⟩
          · have hle : ¬ szV x ≤ 0 := fun h9 => by rw [(szV_pos hn1 hn2).mp h9] at hu; cases hu
            have hng : ¬ szV x < 0 := fun h9 => by rw [(szV_neg hn1 hn2).mp h9] at hu; cases hu
            have hft : isFT x = false := by simp [isFT, hu]
            have hcr : isCr x = false := by simp [isCr, hu]
            have hm3 : ¬ szV x ≤ -3 := fun h9 => by rw [(szV_m3 hn1 hn2).mp h9] at hft; cases hft
            refine lv_iload hx hb d_M_count_41 (lv_at hl 0 rfl) ?_
            refine lv_aload_n hx hb d_M_count_43 rfl (lv_at hl 6 rfl) ?_
            refine va_get (D := D) (ci := 2) (v := .int (nI cn)) (C := R_M) (T := F_M) (N := 10) hx hb hg gi_M hown hK hP 0 rfl rfl 1 (by decide) (hg _ gw_353) (fun _ h9 => h9) rfl d_M_count_44 ?_
            refine lv_icmp_gt (tgt := 199) hx hb d_M_count_47 (by decide) (fun c_47 => ?_) (fun c_47 => ?_)
            · exact absurd ((nI_ltI (by omega) (by omega)).mp c_47) (by omega)
            · refine lv_aload_n hx hb d_M_count_50 rfl (lv_at hl 6 rfl) ?_
              refine va_get (D := D) (ci := 2) (v := .ref qs) (C := R_M) (T := F_M) (N := 10) hx hb hg gi_M hown hK hP 0 rfl rfl 2 (by decide) (hg _ gw_354) (fun _ h9 => h9) rfl d_M_count_51 ?_
              refine lv_iload hx hb d_M_count_54 (lv_at hl 0 rfl) ?_
              refine va_iald hx hb hK hP 1 0 rfl t0 (vp_in_nI hb9 (by decide)) d_M_count_56 ?_
              refine lv_topi (fun y1 ey1 => ?_)
              obtain rfl : y1 = za x.2.1 := ey1.trans (congrArg za (nI_clamp (Nat.lt_trans hb9 (by decide))))
              clear ey1
              refine lv_topi (fun y2 ey2 => ?_)
              obtain rfl : y2 = szV x := ey2.trans hx1
              clear ey2
              refine lv_if_le (tgt := 66) hx hb d_M_count_57 (by decide) (fun c_57 => ?_) (fun c_57 => ?_)
              · exact absurd c_57 hle
              · refine lv_iload_n hx hb d_M_count_60 rfl (lv_at hl 2 rfl) ?_
                refine lv_iconst (v := 1) hx hb d_M_count_61 (by decide) ?_
                refine lv_iadd hx hb d_M_count_62 ?_
                refine lv_goto (tgt := 67) hx hb d_M_count_63 (by decide) ?_
                refine lv_topi (fun y3 ey3 => ?_)
                obtain rfl : y3 = nI (g3 + 1) := ey3.trans (nI_1 g3)
                clear ey3
                refine lv_istore_n (lv' := [(3, .int (nI (g3 + 1))), (7, .int (nI x.2.1)), (2, .int (nI g2)), (4, .int (nI g4)), (5, .int (nI g5)), (6, .int (nI g6)), (0, .ref hm), (1, .int (nI k))]) hx hb d_M_count_67 rfl hl (by decide) rfl (fun ls hl => ?_)
                refine lv_aload_n hx hb d_M_count_68 rfl (lv_at hl 6 rfl) ?_
                refine va_get (D := D) (ci := 2) (v := .ref qs) (C := R_M) (T := F_M) (N := 10) hx hb hg gi_M hown hK hP 0 rfl rfl 2 (by decide) (hg _ gw_354) (fun _ h9 => h9) rfl d_M_count_69 ?_
                refine lv_iload hx hb d_M_count_72 (lv_at hl 1 rfl) ?_
                refine va_iald hx hb hK hP 1 0 rfl t0 (vp_in_nI hb9 (by decide)) d_M_count_74 ?_
                refine lv_topi (fun y4 ey4 => ?_)
                obtain rfl : y4 = za x.2.1 := ey4.trans (congrArg za (nI_clamp (Nat.lt_trans hb9 (by decide))))
                clear ey4
                refine lv_topi (fun y5 ey5 => ?_)
                obtain rfl : y5 = szV x := ey5.trans hx1
                clear ey5
                refine lv_if_ge (tgt := 89) hx hb d_M_count_75 (by decide) (fun c_75 => ?_) (fun c_75 => ?_)
                · refine lv_iload_n hx hb d_M_count_89 rfl (lv_at hl 2 rfl) ?_
                  refine lv_istore_n (lv' := [(2, .int (nI g2)), (3, .int (nI (g3 + 1))), (7, .int (nI x.2.1)), (4, .int (nI g4)), (5, .int (nI g5)), (6, .int (nI g6)), (0, .ref hm), (1, .int (nI k))]) hx hb d_M_count_90 rfl hl (by decide) rfl (fun ls hl => ?_)
                  refine lv_aload_n hx hb d_M_count_91 rfl (lv_at hl 6 rfl) ?_
                  refine va_get (D := D) (ci := 2) (v := .ref qs) (C := R_M) (T := F_M) (N := 10) hx hb hg gi_M hown hK hP 0 rfl rfl 2 (by decide) (hg _ gw_354) (fun _ h9 => h9) rfl d_M_count_92 ?_
                  refine lv_iload hx hb d_M_count_95 (lv_at hl 2 rfl) ?_
                  refine va_iald hx hb hK hP 1 0 rfl t0 (vp_in_nI hb9 (by decide)) d_M_count_97 ?_
                  refine lv_topi (fun y6 ey6 => ?_)
                  obtain rfl : y6 = za x.2.1 := ey6.trans (congrArg za (nI_clamp (Nat.lt_trans hb9 (by decide))))
                  clear ey6
                  refine lv_topi (fun y7 ey7 => ?_)
                  obtain rfl : y7 = szV x := ey7.trans hx1
                  clear ey7
                  refine lv_bipush (v := (-3)) hx hb d_M_count_98 (by decide) ?_
                  refine lv_icmp_gt (tgt := 110) hx hb d_M_count_100 (by decide) (fun c_100 => ?_) (fun c_100 => ?_)
                  · refine lv_iload hx hb d_M_count_110 (lv_at hl 3 rfl) ?_
                    refine lv_istore (lv' := [(4, .int (nI g4)), (2, .int (nI g2)), (3, .int (nI (g3 + 1))), (7, .int (nI x.2.1)), (5, .int (nI g5)), (6, .int (nI g6)), (0, .ref hm), (1, .int (nI k))]) hx hb d_M_count_112 hl (by decide) rfl (fun ls hl => ?_)
                    refine lv_aload_n hx hb d_M_count_114 rfl (lv_at hl 6 rfl) ?_
                    refine va_get (D := D) (ci := 2) (v := .ref qs) (C := R_M) (T := F_M) (N := 10) hx hb hg gi_M hown hK hP 0 rfl rfl 2 (by decide) (hg _ gw_354) (fun _ h9 => h9) rfl d_M_count_115 ?_
                    refine lv_iload hx hb d_M_count_118 (lv_at hl 3 rfl) ?_
                    refine va_iald hx hb hK hP 1 0 rfl t0 (vp_in_nI hb9 (by decide)) d_M_count_120 ?_
                    refine lv_topi (fun y8 ey8 => ?_)
                    obtain rfl : y8 = za x.2.1 := ey8.trans (congrArg za (nI_clamp (Nat.lt_trans hb9 (by decide))))
                    clear ey8
                    refine lv_topi (fun y9 ey9 => ?_)
                    obtain rfl : y9 = szV x := ey9.trans hx1
                    clear ey9
                    refine lv_if_ge (tgt := 143) hx hb d_M_count_121 (by decide) (fun c_121 => ?_) (fun c_121 => ?_)
                    · refine lv_iload hx hb d_M_count_143 (lv_at hl 4 rfl) ?_
                      refine lv_istore (lv' := [(5, .int (nI g5)), (4, .int (nI g4)), (2, .int (nI g2)), (3, .int (nI (g3 + 1))), (7, .int (nI x.2.1)), (6, .int (nI g6)), (0, .ref hm), (1, .int (nI k))]) hx hb d_M_count_145 hl (by decide) rfl (fun ls hl => ?_)
                      refine lv_aload_n hx hb d_M_count_147 rfl (lv_at hl 6 rfl) ?_
                      refine va_get (D := D) (ci := 2) (v := .ref qs) (C := R_M) (T := F_M) (N := 10) hx hb hg gi_M hown hK hP 0 rfl rfl 2 (by decide) (hg _ gw_354) (fun _ h9 => h9) rfl d_M_count_148 ?_
                      refine lv_iload hx hb d_M_count_151 (lv_at hl 4 rfl) ?_
                      refine va_iald hx hb hK hP 1 0 rfl t0 (vp_in_nI hb9 (by decide)) d_M_count_153 ?_
                      refine lv_topi (fun y10 ey10 => ?_)
                      obtain rfl : y10 = za x.2.1 := ey10.trans (congrArg za (nI_clamp (Nat.lt_trans hb9 (by decide))))
                      clear ey10
                      refine lv_topi (fun y11 ey11 => ?_)
                      obtain rfl : y11 = szV x := ey11.trans hx1
                      clear ey11
                      refine lv_if_ge (tgt := 181) hx hb d_M_count_154 (by decide) (fun c_154 => ?_) (fun c_154 => ?_)
                      · refine lv_iload hx hb d_M_count_181 (lv_at hl 5 rfl) ?_
                        refine lv_istore (lv' := [(6, .int (nI g6)), (5, .int (nI g5)), (4, .int (nI g4)), (2, .int (nI g2)), (3, .int (nI (g3 + 1))), (7, .int (nI x.2.1)), (0, .ref hm), (1, .int (nI k))]) hx hb d_M_count_183 hl (by decide) rfl (fun ls hl => ?_)
                        refine lv_iload hx hb d_M_count_185 (lv_at hl 5 rfl) ?_
                        refine lv_aload_n hx hb d_M_count_187 rfl (lv_at hl 6 rfl) ?_
                        refine lv_iload hx hb d_M_count_188 (lv_at hl 5 rfl) ?_
                        refine vp_callSi (va_runV (As := [.int (nI x.2.1)]) (rest := [.int (nI x.2.1)]) ⟨hx, hb, hml, hown, hg⟩ (c_M_length l D ty hm qs qt qm cI cJ cZ (goT true true) cn nw v w z hd za ta ka x.2.1 t0 t1 t2 hb9) (cwV 1 hg (gw_V gw_409 gw_411 gw_20 gw_28 gw_412) rfl rfl rfl (by decide +kernel) ⟨Nat.le_of_ble_eq_true rfl, Nat.le_of_ble_eq_true rfl⟩) (pre_roV hP hK hN (ci := 2) (k := 0) rfl rfl) rfl rfl hl.1 rfl (lv_room (Nat.le_of_ble_eq_true rfl)) d_M_count_190 ⟨Nat.le_of_ble_eq_true rfl, Nat.le_of_ble_eq_true rfl⟩).run (fun r4 hr4 => ?_)
                        replace hr4 : r4 = nI x.2.2.1 := by rw [hr4, hx1, lenF_x hn1 hn2]
                        subst hr4
                        refine lv_iadd hx hb d_M_count_193 ?_
                        refine lv_topi (fun y12 ey12 => ?_)
                        obtain rfl : y12 = nI (x.2.1 + x.2.2.1) := ey12.trans (nI_add _ _)
                        clear ey12
                        refine lv_istore (lv' := [(7, .int (nI (x.2.1 + x.2.2.1))), (6, .int (nI g6)), (5, .int (nI g5)), (4, .int (nI g4)), (2, .int (nI g2)), (3, .int (nI (g3 + 1))), (0, .ref hm), (1, .int (nI k))]) hx hb d_M_count_194 hl (by decide) rfl (fun ls hl => ?_)
                        refine lv_goto (tgt := 41) hx hb d_M_count_196 (by decide) ?_
                        exact ih ls g2 (g3 + 1) g4 g5 g6 (x.2.1 + x.2.2.1) (lv_sub hl [0, 4, 5, 3, 2, 1, 6, 7] rfl) ⟨pre ++ [x], by rw [hpre, List.append_assoc]; rfl⟩ hd3 (by rw [h0, shrS]; simp [shr, hu, hft, hcr]) (by rw [h2, shrS]; simp [shr, hu, hft, hcr]; omega) (by rw [h3, shrS]; simp [shr, hu, hft, hcr]) (by rw [h4, shrS]; simp [shr, hu, hft, hcr]) (by rw [h1, shrS]; simp [shr, hu, hft, hcr])
                      · exact absurd (Int32.not_le.mp c_154) hng
                    · exact absurd (Int32.not_le.mp c_121) hng
                  · exact absurd (Int32.not_lt.mp c_100) hm3
                · exact absurd (Int32.not_le.mp c_75) hng
          · have hle : szV x ≤ 0 := (szV_pos hn1 hn2).mpr hu
            have hng : szV x < 0 := (szV_neg hn1 hn2).mpr hu
            have hft : isFT x = true := by simp [isFT, hu, h33]
            have hcr : isCr x = false := by simp [isCr, hu]; omega
            have hm3 : szV x ≤ -3 := (szV_m3 hn1 hn2).mpr hft
            refine lv_iload hx hb d_M_count_41 (lv_at hl 0 rfl) ?_
            refine lv_aload_n hx hb d_M_count_43 rfl (lv_at hl 6 rfl) ?_
            refine va_get (D := D) (ci := 2) (v := .int (nI cn)) (C := R_M) (T := F_M) (N := 10) hx hb hg gi_M hown hK hP 0 rfl rfl 1 (by decide) (hg _ gw_353) (fun _ h9 => h9) rfl d_M_count_44 ?_
            refine lv_icmp_gt (tgt := 199) hx hb d_M_count_47 (by decide) (fun c_47 => ?_) (fun c_47 => ?_)
            · exact absurd ((nI_ltI (by omega) (by omega)).mp c_47) (by omega)
            · refine lv_aload_n hx hb d_M_count_50 rfl (lv_at hl 6 rfl) ?_
              refine va_get (D := D) (ci := 2) (v := .ref qs) (C := R_M) (T := F_M) (N := 10) hx hb hg gi_M hown hK hP 0 rfl rfl 2 (by decide) (hg _ gw_354) (fun _ h9 => h9) rfl d_M_count_51 ?_
              refine lv_iload hx hb d_M_count_54 (lv_at hl 0 rfl) ?_
              refine va_iald hx hb hK hP 1 0 rfl t0 (vp_in_nI hb9 (by decide)) d_M_count_56 ?_
              refine lv_topi (fun y13 ey13 => ?_)
              obtain rfl : y13 = za x.2.1 := ey13.trans (congrArg za (nI_clamp (Nat.lt_trans hb9 (by decide))))
              clear ey13
              refine lv_topi (fun y14 ey14 => ?_)
              obtain rfl : y14 = szV x := ey14.trans hx1
              clear ey14
              refine lv_if_le (tgt := 66) hx hb d_M_count_57 (by decide) (fun c_57 => ?_) (fun c_57 => ?_)
              · refine lv_iload_n hx hb d_M_count_66 rfl (lv_at hl 2 rfl) ?_
                refine lv_istore_n (lv' := [(3, .int (nI g3)), (7, .int (nI x.2.1)), (2, .int (nI g2)), (4, .int (nI g4)), (5, .int (nI g5)), (6, .int (nI g6)), (0, .ref hm), (1, .int (nI k))]) hx hb d_M_count_67 rfl hl (by decide) rfl (fun ls hl => ?_)
                refine lv_aload_n hx hb d_M_count_68 rfl (lv_at hl 6 rfl) ?_
                refine va_get (D := D) (ci := 2) (v := .ref qs) (C := R_M) (T := F_M) (N := 10) hx hb hg gi_M hown hK hP 0 rfl rfl 2 (by decide) (hg _ gw_354) (fun _ h9 => h9) rfl d_M_count_69 ?_
                refine lv_iload hx hb d_M_count_72 (lv_at hl 1 rfl) ?_
                refine va_iald hx hb hK hP 1 0 rfl t0 (vp_in_nI hb9 (by decide)) d_M_count_74 ?_
                refine lv_topi (fun y15 ey15 => ?_)
                obtain rfl : y15 = za x.2.1 := ey15.trans (congrArg za (nI_clamp (Nat.lt_trans hb9 (by decide))))
                clear ey15
                refine lv_topi (fun y16 ey16 => ?_)
                obtain rfl : y16 = szV x := ey16.trans hx1
                clear ey16
                refine lv_if_ge (tgt := 89) hx hb d_M_count_75 (by decide) (fun c_75 => ?_) (fun c_75 => ?_)
                · exact absurd hng (Int32.not_lt.mpr c_75)
                · refine lv_iload_n hx hb d_M_count_78 rfl (lv_at hl 2 rfl) ?_
                  refine lv_aload_n hx hb d_M_count_79 rfl (lv_at hl 6 rfl) ?_
                  refine lv_iload hx hb d_M_count_80 (lv_at hl 1 rfl) ?_
                  refine vp_callSi (va_runV (As := [.int (nI x.2.1)]) (rest := [.int (nI g2)]) ⟨hx, hb, hml, hown, hg⟩ (c_M_length l D ty hm qs qt qm cI cJ cZ (goT true true) cn nw v w z hd za ta ka x.2.1 t0 t1 t2 hb9) (cwV 1 hg (gw_V gw_409 gw_411 gw_20 gw_28 gw_412) rfl rfl rfl (by decide +kernel) ⟨Nat.le_of_ble_eq_true rfl, Nat.le_of_ble_eq_true rfl⟩) (pre_roV hP hK hN (ci := 2) (k := 0) rfl rfl) rfl rfl hl.1 rfl (lv_room (Nat.le_of_ble_eq_true rfl)) d_M_count_82 ⟨Nat.le_of_ble_eq_true rfl, Nat.le_of_ble_eq_true rfl⟩).run (fun r2 hr2 => ?_)
                  replace hr2 : r2 = nI x.2.2.1 := by rw [hr2, hx1, lenF_x hn1 hn2]
                  subst hr2
                  refine lv_iadd hx hb d_M_count_85 ?_
                  refine lv_goto (tgt := 90) hx hb d_M_count_86 (by decide) ?_
                  refine lv_topi (fun y17 ey17 => ?_)
                  obtain rfl : y17 = nI (g2 + x.2.2.1) := ey17.trans (nI_add _ _)
                  clear ey17
                  refine lv_istore_n (lv' := [(2, .int (nI (g2 + x.2.2.1))), (3, .int (nI g3)), (7, .int (nI x.2.1)), (4, .int (nI g4)), (5, .int (nI g5)), (6, .int (nI g6)), (0, .ref hm), (1, .int (nI k))]) hx hb d_M_count_90 rfl hl (by decide) rfl (fun ls hl => ?_)
                  refine lv_aload_n hx hb d_M_count_91 rfl (lv_at hl 6 rfl) ?_
                  refine va_get (D := D) (ci := 2) (v := .ref qs) (C := R_M) (T := F_M) (N := 10) hx hb hg gi_M hown hK hP 0 rfl rfl 2 (by decide) (hg _ gw_354) (fun _ h9 => h9) rfl d_M_count_92 ?_
                  refine lv_iload hx hb d_M_count_95 (lv_at hl 2 rfl) ?_
                  refine va_iald hx hb hK hP 1 0 rfl t0 (vp_in_nI hb9 (by decide)) d_M_count_97 ?_
                  refine lv_topi (fun y18 ey18 => ?_)
                  obtain rfl : y18 = za x.2.1 := ey18.trans (congrArg za (nI_clamp (Nat.lt_trans hb9 (by decide))))
                  clear ey18
                  refine lv_topi (fun y19 ey19 => ?_)
                  obtain rfl : y19 = szV x := ey19.trans hx1
                  clear ey19
                  refine lv_bipush (v := (-3)) hx hb d_M_count_98 (by decide) ?_
                  refine lv_icmp_gt (tgt := 110) hx hb d_M_count_100 (by decide) (fun c_100 => ?_) (fun c_100 => ?_)
                  · exact absurd hm3 (Int32.not_le.mpr c_100)
                  · refine lv_iload hx hb d_M_count_103 (lv_at hl 3 rfl) ?_
                    refine lv_iconst (v := 1) hx hb d_M_count_105 (by decide) ?_
                    refine lv_iadd hx hb d_M_count_106 ?_
                    refine lv_goto (tgt := 112) hx hb d_M_count_107 (by decide) ?_
                    refine lv_topi (fun y20 ey20 => ?_)
                    obtain rfl : y20 = nI (g4 + 1) := ey20.trans (nI_1 g4)
                    clear ey20
                    refine lv_istore (lv' := [(4, .int (nI (g4 + 1))), (2, .int (nI (g2 + x.2.2.1))), (3, .int (nI g3)), (7, .int (nI x.2.1)), (5, .int (nI g5)), (6, .int (nI g6)), (0, .ref hm), (1, .int (nI k))]) hx hb d_M_count_112 hl (by decide) rfl (fun ls hl => ?_)
                    refine lv_aload_n hx hb d_M_count_114 rfl (lv_at hl 6 rfl) ?_
                    refine va_get (D := D) (ci := 2) (v := .ref qs) (C := R_M) (T := F_M) (N := 10) hx hb hg gi_M hown hK hP 0 rfl rfl 2 (by decide) (hg _ gw_354) (fun _ h9 => h9) rfl d_M_count_115 ?_
                    refine lv_iload hx hb d_M_count_118 (lv_at hl 3 rfl) ?_
                    refine va_iald hx hb hK hP 1 0 rfl t0 (vp_in_nI hb9 (by decide)) d_M_count_120 ?_
                    refine lv_topi (fun y21 ey21 => ?_)
                    obtain rfl : y21 = za x.2.1 := ey21.trans (congrArg za (nI_clamp (Nat.lt_trans hb9 (by decide))))
                    clear ey21
                    refine lv_topi (fun y22 ey22 => ?_)
                    obtain rfl : y22 = szV x := ey22.trans hx1
                    clear ey22
                    refine lv_if_ge (tgt := 143) hx hb d_M_count_121 (by decide) (fun c_121 => ?_) (fun c_121 => ?_)
                    · exact absurd hng (Int32.not_lt.mpr c_121)
                    · refine lv_aload_n hx hb d_M_count_124 rfl (lv_at hl 6 rfl) ?_
                      refine va_get (D := D) (ci := 2) (v := .ref qs) (C := R_M) (T := F_M) (N := 10) hx hb hg gi_M hown hK hP 0 rfl rfl 2 (by decide) (hg _ gw_354) (fun _ h9 => h9) rfl d_M_count_125 ?_
                      refine lv_iload hx hb d_M_count_128 (lv_at hl 3 rfl) ?_
                      refine va_iald hx hb hK hP 1 0 rfl t0 (vp_in_nI hb9 (by decide)) d_M_count_130 ?_
                      refine lv_topi (fun y23 ey23 => ?_)
                      obtain rfl : y23 = za x.2.1 := ey23.trans (congrArg za (nI_clamp (Nat.lt_trans hb9 (by decide))))
                      clear ey23
                      refine lv_topi (fun y24 ey24 => ?_)
                      obtain rfl : y24 = szV x := ey24.trans hx1
                      clear ey24
                      refine lv_bipush (v := (-3)) hx hb d_M_count_131 (by decide) ?_
                      refine lv_icmp_le (tgt := 143) hx hb d_M_count_133 (by decide) (fun c_133 => ?_) (fun c_133 => ?_)
                      · refine lv_iload hx hb d_M_count_143 (lv_at hl 4 rfl) ?_
                        refine lv_istore (lv' := [(5, .int (nI g5)), (4, .int (nI (g4 + 1))), (2, .int (nI (g2 + x.2.2.1))), (3, .int (nI g3)), (7, .int (nI x.2.1)), (6, .int (nI g6)), (0, .ref hm), (1, .int (nI k))]) hx hb d_M_count_145 hl (by decide) rfl (fun ls hl => ?_)
                        refine lv_aload_n hx hb d_M_count_147 rfl (lv_at hl 6 rfl) ?_
                        refine va_get (D := D) (ci := 2) (v := .ref qs) (C := R_M) (T := F_M) (N := 10) hx hb hg gi_M hown hK hP 0 rfl rfl 2 (by decide) (hg _ gw_354) (fun _ h9 => h9) rfl d_M_count_148 ?_
                        refine lv_iload hx hb d_M_count_151 (lv_at hl 4 rfl) ?_
                        refine va_iald hx hb hK hP 1 0 rfl t0 (vp_in_nI hb9 (by decide)) d_M_count_153 ?_
                        refine lv_topi (fun y25 ey25 => ?_)
                        obtain rfl : y25 = za x.2.1 := ey25.trans (congrArg za (nI_clamp (Nat.lt_trans hb9 (by decide))))
                        clear ey25
                        refine lv_topi (fun y26 ey26 => ?_)
                        obtain rfl : y26 = szV x := ey26.trans hx1
                        clear ey26
                        refine lv_if_ge (tgt := 181) hx hb d_M_count_154 (by decide) (fun c_154 => ?_) (fun c_154 => ?_)
                        · exact absurd hng (Int32.not_lt.mpr c_154)
                        · refine lv_aload_n hx hb d_M_count_157 rfl (lv_at hl 6 rfl) ?_
                          refine va_get (D := D) (ci := 2) (v := .ref qs) (C := R_M) (T := F_M) (N := 10) hx hb hg gi_M hown hK hP 0 rfl rfl 2 (by decide) (hg _ gw_354) (fun _ h9 => h9) rfl d_M_count_158 ?_
                          refine lv_iload hx hb d_M_count_161 (lv_at hl 4 rfl) ?_
                          refine va_iald hx hb hK hP 1 0 rfl t0 (vp_in_nI hb9 (by decide)) d_M_count_163 ?_
                          refine lv_topi (fun y27 ey27 => ?_)
                          obtain rfl : y27 = za x.2.1 := ey27.trans (congrArg za (nI_clamp (Nat.lt_trans hb9 (by decide))))
                          clear ey27
                          refine lv_topi (fun y28 ey28 => ?_)
                          obtain rfl : y28 = szV x := ey28.trans hx1
                          clear ey28
                          refine lv_bipush (v := (-3)) hx hb d_M_count_164 (by decide) ?_
                          refine lv_icmp_le (tgt := 181) hx hb d_M_count_166 (by decide) (fun c_166 => ?_) (fun c_166 => ?_)
                          · refine lv_iload hx hb d_M_count_181 (lv_at hl 5 rfl) ?_
                            refine lv_istore (lv' := [(6, .int (nI g6)), (5, .int (nI g5)), (4, .int (nI (g4 + 1))), (2, .int (nI (g2 + x.2.2.1))), (3, .int (nI g3)), (7, .int (nI x.2.1)), (0, .ref hm), (1, .int (nI k))]) hx hb d_M_count_183 hl (by decide) rfl (fun ls hl => ?_)
                            refine lv_iload hx hb d_M_count_185 (lv_at hl 5 rfl) ?_
                            refine lv_aload_n hx hb d_M_count_187 rfl (lv_at hl 6 rfl) ?_
                            refine lv_iload hx hb d_M_count_188 (lv_at hl 5 rfl) ?_
                            refine vp_callSi (va_runV (As := [.int (nI x.2.1)]) (rest := [.int (nI x.2.1)]) ⟨hx, hb, hml, hown, hg⟩ (c_M_length l D ty hm qs qt qm cI cJ cZ (goT true true) cn nw v w z hd za ta ka x.2.1 t0 t1 t2 hb9) (cwV 1 hg (gw_V gw_409 gw_411 gw_20 gw_28 gw_412) rfl rfl rfl (by decide +kernel) ⟨Nat.le_of_ble_eq_true rfl, Nat.le_of_ble_eq_true rfl⟩) (pre_roV hP hK hN (ci := 2) (k := 0) rfl rfl) rfl rfl hl.1 rfl (lv_room (Nat.le_of_ble_eq_true rfl)) d_M_count_190 ⟨Nat.le_of_ble_eq_true rfl, Nat.le_of_ble_eq_true rfl⟩).run (fun r4 hr4 => ?_)
                            replace hr4 : r4 = nI x.2.2.1 := by rw [hr4, hx1, lenF_x hn1 hn2]
                            subst hr4
                            refine lv_iadd hx hb d_M_count_193 ?_
                            refine lv_topi (fun y29 ey29 => ?_)
                            obtain rfl : y29 = nI (x.2.1 + x.2.2.1) := ey29.trans (nI_add _ _)
                            clear ey29
                            refine lv_istore (lv' := [(7, .int (nI (x.2.1 + x.2.2.1))), (6, .int (nI g6)), (5, .int (nI g5)), (4, .int (nI (g4 + 1))), (2, .int (nI (g2 + x.2.2.1))), (3, .int (nI g3)), (0, .ref hm), (1, .int (nI k))]) hx hb d_M_count_194 hl (by decide) rfl (fun ls hl => ?_)
                            refine lv_goto (tgt := 41) hx hb d_M_count_196 (by decide) ?_
                            exact ih ls (g2 + x.2.2.1) g3 (g4 + 1) g5 g6 (x.2.1 + x.2.2.1) (lv_sub hl [0, 4, 5, 3, 2, 1, 6, 7] rfl) ⟨pre ++ [x], by rw [hpre, List.append_assoc]; rfl⟩ hd3 (by rw [h0, shrS]; simp [shr, hu, hft, hcr]; omega) (by rw [h2, shrS]; simp [shr, hu, hft, hcr]) (by rw [h3, shrS]; simp [shr, hu, hft, hcr]; omega) (by rw [h4, shrS]; simp [shr, hu, hft, hcr]) (by rw [h1, shrS]; simp [shr, hu, hft, hcr])
                          · exact absurd hm3 c_166
                      · exact absurd hm3 c_133
              · exact absurd hle c_57
          · have hle : szV x ≤ 0 := (szV_pos hn1 hn2).mpr hu
            have hng : szV x < 0 := (szV_neg hn1 hn2).mpr hu
            have hft : isFT x = false := by simp [isFT, hu]; omega
            have hcr : isCr x = true := by simp [isCr, hu, h33]
            have hm3 : ¬ szV x ≤ -3 := fun h9 => by rw [(szV_m3 hn1 hn2).mp h9] at hft; cases hft
            refine lv_iload hx hb d_M_count_41 (lv_at hl 0 rfl) ?_
            refine lv_aload_n hx hb d_M_count_43 rfl (lv_at hl 6 rfl) ?_
            refine va_get (D := D) (ci := 2) (v := .int (nI cn)) (C := R_M) (T := F_M) (N := 10) hx hb hg gi_M hown hK hP 0 rfl rfl 1 (by decide) (hg _ gw_353) (fun _ h9 => h9) rfl d_M_count_44 ?_
            refine lv_icmp_gt (tgt := 199) hx hb d_M_count_47 (by decide) (fun c_47 => ?_) (fun c_47 => ?_)
            · exact absurd ((nI_ltI (by omega) (by omega)).mp c_47) (by omega)
            · refine lv_aload_n hx hb d_M_count_50 rfl (lv_at hl 6 rfl) ?_
              refine va_get (D := D) (ci := 2) (v := .ref qs) (C := R_M) (T := F_M) (N := 10) hx hb hg gi_M hown hK hP 0 rfl rfl 2 (by decide) (hg _ gw_354) (fun _ h9 => h9) rfl d_M_count_51 ?_
              refine lv_iload hx hb d_M_count_54 (lv_at hl 0 rfl) ?_
              refine va_iald hx hb hK hP 1 0 rfl t0 (vp_in_nI hb9 (by decide)) d_M_count_56 ?_
              refine lv_topi (fun y30 ey30 => ?_)
              obtain rfl : y30 = za x.2.1 := ey30.trans (congrArg za (nI_clamp (Nat.lt_trans hb9 (by decide))))
              clear ey30
              refine lv_topi (fun y31 ey31 => ?_)
              obtain rfl : y31 = szV x := ey31.trans hx1
              clear ey31
              refine lv_if_le (tgt := 66) hx hb d_M_count_57 (by decide) (fun c_57 => ?_) (fun c_57 => ?_)
              · refine lv_iload_n hx hb d_M_count_66 rfl (lv_at hl 2 rfl) ?_
                refine lv_istore_n (lv' := [(3, .int (nI g3)), (7, .int (nI x.2.1)), (2, .int (nI g2)), (4, .int (nI g4)), (5, .int (nI g5)), (6, .int (nI g6)), (0, .ref hm), (1, .int (nI k))]) hx hb d_M_count_67 rfl hl (by decide) rfl (fun ls hl => ?_)
                refine lv_aload_n hx hb d_M_count_68 rfl (lv_at hl 6 rfl) ?_
                refine va_get (D := D) (ci := 2) (v := .ref qs) (C := R_M) (T := F_M) (N := 10) hx hb hg gi_M hown hK hP 0 rfl rfl 2 (by decide) (hg _ gw_354) (fun _ h9 => h9) rfl d_M_count_69 ?_
                refine lv_iload hx hb d_M_count_72 (lv_at hl 1 rfl) ?_
                refine va_iald hx hb hK hP 1 0 rfl t0 (vp_in_nI hb9 (by decide)) d_M_count_74 ?_
                refine lv_topi (fun y32 ey32 => ?_)
                obtain rfl : y32 = za x.2.1 := ey32.trans (congrArg za (nI_clamp (Nat.lt_trans hb9 (by decide))))
                clear ey32
                refine lv_topi (fun y33 ey33 => ?_)
                obtain rfl : y33 = szV x := ey33.trans hx1
                clear ey33
                refine lv_if_ge (tgt := 89) hx hb d_M_count_75 (by decide) (fun c_75 => ?_) (fun c_75 => ?_)
                · exact absurd hng (Int32.not_lt.mpr c_75)
                · refine lv_iload_n hx hb d_M_count_78 rfl (lv_at hl 2 rfl) ?_
                  refine lv_aload_n hx hb d_M_count_79 rfl (lv_at hl 6 rfl) ?_
                  refine lv_iload hx hb d_M_count_80 (lv_at hl 1 rfl) ?_
                  refine vp_callSi (va_runV (As := [.int (nI x.2.1)]) (rest := [.int (nI g2)]) ⟨hx, hb, hml, hown, hg⟩ (c_M_length l D ty hm qs qt qm cI cJ cZ (goT true true) cn nw v w z hd za ta ka x.2.1 t0 t1 t2 hb9) (cwV 1 hg (gw_V gw_409 gw_411 gw_20 gw_28 gw_412) rfl rfl rfl (by decide +kernel) ⟨Nat.le_of_ble_eq_true rfl, Nat.le_of_ble_eq_true rfl⟩) (pre_roV hP hK hN (ci := 2) (k := 0) rfl rfl) rfl rfl hl.1 rfl (lv_room (Nat.le_of_ble_eq_true rfl)) d_M_count_82 ⟨Nat.le_of_ble_eq_true rfl, Nat.le_of_ble_eq_true rfl⟩).run (fun r2 hr2 => ?_)
                  replace hr2 : r2 = nI x.2.2.1 := by rw [hr2, hx1, lenF_x hn1 hn2]
                  subst hr2
                  refine lv_iadd hx hb d_M_count_85 ?_
                  refine lv_goto (tgt := 90) hx hb d_M_count_86 (by decide) ?_
                  refine lv_topi (fun y34 ey34 => ?_)
                  obtain rfl : y34 = nI (g2 + x.2.2.1) := ey34.trans (nI_add _ _)
                  clear ey34
                  refine lv_istore_n (lv' := [(2, .int (nI (g2 + x.2.2.1))), (3, .int (nI g3)), (7, .int (nI x.2.1)), (4, .int (nI g4)), (5, .int (nI g5)), (6, .int (nI g6)), (0, .ref hm), (1, .int (nI k))]) hx hb d_M_count_90 rfl hl (by decide) rfl (fun ls hl => ?_)
                  refine lv_aload_n hx hb d_M_count_91 rfl (lv_at hl 6 rfl) ?_
                  refine va_get (D := D) (ci := 2) (v := .ref qs) (C := R_M) (T := F_M) (N := 10) hx hb hg gi_M hown hK hP 0 rfl rfl 2 (by decide) (hg _ gw_354) (fun _ h9 => h9) rfl d_M_count_92 ?_
                  refine lv_iload hx hb d_M_count_95 (lv_at hl 2 rfl) ?_
                  refine va_iald hx hb hK hP 1 0 rfl t0 (vp_in_nI hb9 (by decide)) d_M_count_97 ?_
                  refine lv_topi (fun y35 ey35 => ?_)
                  obtain rfl : y35 = za x.2.1 := ey35.trans (congrArg za (nI_clamp (Nat.lt_trans hb9 (by decide))))
                  clear ey35
                  refine lv_topi (fun y36 ey36 => ?_)
                  obtain rfl : y36 = szV x := ey36.trans hx1
                  clear ey36
                  refine lv_bipush (v := (-3)) hx hb d_M_count_98 (by decide) ?_
                  refine lv_icmp_gt (tgt := 110) hx hb d_M_count_100 (by decide) (fun c_100 => ?_) (fun c_100 => ?_)
                  · refine lv_iload hx hb d_M_count_110 (lv_at hl 3 rfl) ?_
                    refine lv_istore (lv' := [(4, .int (nI g4)), (2, .int (nI (g2 + x.2.2.1))), (3, .int (nI g3)), (7, .int (nI x.2.1)), (5, .int (nI g5)), (6, .int (nI g6)), (0, .ref hm), (1, .int (nI k))]) hx hb d_M_count_112 hl (by decide) rfl (fun ls hl => ?_)
                    refine lv_aload_n hx hb d_M_count_114 rfl (lv_at hl 6 rfl) ?_
                    refine va_get (D := D) (ci := 2) (v := .ref qs) (C := R_M) (T := F_M) (N := 10) hx hb hg gi_M hown hK hP 0 rfl rfl 2 (by decide) (hg _ gw_354) (fun _ h9 => h9) rfl d_M_count_115 ?_
                    refine lv_iload hx hb d_M_count_118 (lv_at hl 3 rfl) ?_
                    refine va_iald hx hb hK hP 1 0 rfl t0 (vp_in_nI hb9 (by decide)) d_M_count_120 ?_
                    refine lv_topi (fun y37 ey37 => ?_)
                    obtain rfl : y37 = za x.2.1 := ey37.trans (congrArg za (nI_clamp (Nat.lt_trans hb9 (by decide))))
                    clear ey37
                    refine lv_topi (fun y38 ey38 => ?_)
                    obtain rfl : y38 = szV x := ey38.trans hx1
                    clear ey38
                    refine lv_if_ge (tgt := 143) hx hb d_M_count_121 (by decide) (fun c_121 => ?_) (fun c_121 => ?_)
                    · exact absurd hng (Int32.not_lt.mpr c_121)
                    · refine lv_aload_n hx hb d_M_count_124 rfl (lv_at hl 6 rfl) ?_
                      refine va_get (D := D) (ci := 2) (v := .ref qs) (C := R_M) (T := F_M) (N := 10) hx hb hg gi_M hown hK hP 0 rfl rfl 2 (by decide) (hg _ gw_354) (fun _ h9 => h9) rfl d_M_count_125 ?_
                      refine lv_iload hx hb d_M_count_128 (lv_at hl 3 rfl) ?_
                      refine va_iald hx hb hK hP 1 0 rfl t0 (vp_in_nI hb9 (by decide)) d_M_count_130 ?_
                      refine lv_topi (fun y39 ey39 => ?_)
                      obtain rfl : y39 = za x.2.1 := ey39.trans (congrArg za (nI_clamp (Nat.lt_trans hb9 (by decide))))
                      clear ey39
                      refine lv_topi (fun y40 ey40 => ?_)
                      obtain rfl : y40 = szV x := ey40.trans hx1
                      clear ey40
                      refine lv_bipush (v := (-3)) hx hb d_M_count_131 (by decide) ?_
                      refine lv_icmp_le (tgt := 143) hx hb d_M_count_133 (by decide) (fun c_133 => ?_) (fun c_133 => ?_)
                      · exact absurd c_133 hm3
                      · refine lv_iload hx hb d_M_count_136 (lv_at hl 4 rfl) ?_
                        refine lv_iconst (v := 1) hx hb d_M_count_138 (by decide) ?_
                        refine lv_iadd hx hb d_M_count_139 ?_
                        refine lv_goto (tgt := 145) hx hb d_M_count_140 (by decide) ?_
                        refine lv_topi (fun y41 ey41 => ?_)
                        obtain rfl : y41 = nI (g5 + 1) := ey41.trans (nI_1 g5)
                        clear ey41
                        refine lv_istore (lv' := [(5, .int (nI (g5 + 1))), (4, .int (nI g4)), (2, .int (nI (g2 + x.2.2.1))), (3, .int (nI g3)), (7, .int (nI x.2.1)), (6, .int (nI g6)), (0, .ref hm), (1, .int (nI k))]) hx hb d_M_count_145 hl (by decide) rfl (fun ls hl => ?_)
                        refine lv_aload_n hx hb d_M_count_147 rfl (lv_at hl 6 rfl) ?_
                        refine va_get (D := D) (ci := 2) (v := .ref qs) (C := R_M) (T := F_M) (N := 10) hx hb hg gi_M hown hK hP 0 rfl rfl 2 (by decide) (hg _ gw_354) (fun _ h9 => h9) rfl d_M_count_148 ?_
                        refine lv_iload hx hb d_M_count_151 (lv_at hl 4 rfl) ?_
                        refine va_iald hx hb hK hP 1 0 rfl t0 (vp_in_nI hb9 (by decide)) d_M_count_153 ?_
                        refine lv_topi (fun y42 ey42 => ?_)
                        obtain rfl : y42 = za x.2.1 := ey42.trans (congrArg za (nI_clamp (Nat.lt_trans hb9 (by decide))))
                        clear ey42
                        refine lv_topi (fun y43 ey43 => ?_)
                        obtain rfl : y43 = szV x := ey43.trans hx1
                        clear ey43
                        refine lv_if_ge (tgt := 181) hx hb d_M_count_154 (by decide) (fun c_154 => ?_) (fun c_154 => ?_)
                        · exact absurd hng (Int32.not_lt.mpr c_154)
                        · refine lv_aload_n hx hb d_M_count_157 rfl (lv_at hl 6 rfl) ?_
                          refine va_get (D := D) (ci := 2) (v := .ref qs) (C := R_M) (T := F_M) (N := 10) hx hb hg gi_M hown hK hP 0 rfl rfl 2 (by decide) (hg _ gw_354) (fun _ h9 => h9) rfl d_M_count_158 ?_
                          refine lv_iload hx hb d_M_count_161 (lv_at hl 4 rfl) ?_
                          refine va_iald hx hb hK hP 1 0 rfl t0 (vp_in_nI hb9 (by decide)) d_M_count_163 ?_
                          refine lv_topi (fun y44 ey44 => ?_)
                          obtain rfl : y44 = za x.2.1 := ey44.trans (congrArg za (nI_clamp (Nat.lt_trans hb9 (by decide))))
                          clear ey44
                          refine lv_topi (fun y45 ey45 => ?_)
                          obtain rfl : y45 = szV x := ey45.trans hx1
                          clear ey45
                          refine lv_bipush (v := (-3)) hx hb d_M_count_164 (by decide) ?_
                          refine lv_icmp_le (tgt := 181) hx hb d_M_count_166 (by decide) (fun c_166 => ?_) (fun c_166 => ?_)
                          · exact absurd c_166 hm3
                          · refine lv_iload hx hb d_M_count_169 (lv_at hl 5 rfl) ?_
                            refine lv_aload_n hx hb d_M_count_171 rfl (lv_at hl 6 rfl) ?_
                            refine lv_iload hx hb d_M_count_172 (lv_at hl 4 rfl) ?_
                            refine vp_callSi (va_runV (As := [.int (nI x.2.1)]) (rest := [.int (nI g6)]) ⟨hx, hb, hml, hown, hg⟩ (c_M_length l D ty hm qs qt qm cI cJ cZ (goT true true) cn nw v w z hd za ta ka x.2.1 t0 t1 t2 hb9) (cwV 1 hg (gw_V gw_409 gw_411 gw_20 gw_28 gw_412) rfl rfl rfl (by decide +kernel) ⟨Nat.le_of_ble_eq_true rfl, Nat.le_of_ble_eq_true rfl⟩) (pre_roV hP hK hN (ci := 2) (k := 0) rfl rfl) rfl rfl hl.1 rfl (lv_room (Nat.le_of_ble_eq_true rfl)) d_M_count_174 ⟨Nat.le_of_ble_eq_true rfl, Nat.le_of_ble_eq_true rfl⟩).run (fun r3 hr3 => ?_)
                            replace hr3 : r3 = nI x.2.2.1 := by rw [hr3, hx1, lenF_x hn1 hn2]
                            subst hr3
                            refine lv_iadd hx hb d_M_count_177 ?_
                            refine lv_goto (tgt := 183) hx hb d_M_count_178 (by decide) ?_
                            refine lv_topi (fun y46 ey46 => ?_)
                            obtain rfl : y46 = nI (g6 + x.2.2.1) := ey46.trans (nI_add _ _)
                            clear ey46
                            refine lv_istore (lv' := [(6, .int (nI (g6 + x.2.2.1))), (5, .int (nI (g5 + 1))), (4, .int (nI g4)), (2, .int (nI (g2 + x.2.2.1))), (3, .int (nI g3)), (7, .int (nI x.2.1)), (0, .ref hm), (1, .int (nI k))]) hx hb d_M_count_183 hl (by decide) rfl (fun ls hl => ?_)
                            refine lv_iload hx hb d_M_count_185 (lv_at hl 5 rfl) ?_
                            refine lv_aload_n hx hb d_M_count_187 rfl (lv_at hl 6 rfl) ?_
                            refine lv_iload hx hb d_M_count_188 (lv_at hl 5 rfl) ?_
                            refine vp_callSi (va_runV (As := [.int (nI x.2.1)]) (rest := [.int (nI x.2.1)]) ⟨hx, hb, hml, hown, hg⟩ (c_M_length l D ty hm qs qt qm cI cJ cZ (goT true true) cn nw v w z hd za ta ka x.2.1 t0 t1 t2 hb9) (cwV 1 hg (gw_V gw_409 gw_411 gw_20 gw_28 gw_412) rfl rfl rfl (by decide +kernel) ⟨Nat.le_of_ble_eq_true rfl, Nat.le_of_ble_eq_true rfl⟩) (pre_roV hP hK hN (ci := 2) (k := 0) rfl rfl) rfl rfl hl.1 rfl (lv_room (Nat.le_of_ble_eq_true rfl)) d_M_count_190 ⟨Nat.le_of_ble_eq_true rfl, Nat.le_of_ble_eq_true rfl⟩).run (fun r4 hr4 => ?_)
                            replace hr4 : r4 = nI x.2.2.1 := by rw [hr4, hx1, lenF_x hn1 hn2]
                            subst hr4
                            refine lv_iadd hx hb d_M_count_193 ?_
                            refine lv_topi (fun y47 ey47 => ?_)
                            obtain rfl : y47 = nI (x.2.1 + x.2.2.1) := ey47.trans (nI_add _ _)
                            clear ey47
                            refine lv_istore (lv' := [(7, .int (nI (x.2.1 + x.2.2.1))), (6, .int (nI (g6 + x.2.2.1))), (5, .int (nI (g5 + 1))), (4, .int (nI g4)), (2, .int (nI (g2 + x.2.2.1))), (3, .int (nI g3)), (0, .ref hm), (1, .int (nI k))]) hx hb d_M_count_194 hl (by decide) rfl (fun ls hl => ?_)
                            refine lv_goto (tgt := 41) hx hb d_M_count_196 (by decide) ?_
                            exact ih ls (g2 + x.2.2.1) g3 g4 (g5 + 1) (g6 + x.2.2.1) (x.2.1 + x.2.2.1) (lv_sub hl [0, 4, 5, 3, 2, 1, 6, 7] rfl) ⟨pre ++ [x], by rw [hpre, List.append_assoc]; rfl⟩ hd3 (by rw [h0, shrS]; simp [shr, hu, hft, hcr]; omega) (by rw [h2, shrS]; simp [shr, hu, hft, hcr]) (by rw [h3, shrS]; simp [shr, hu, hft, hcr]) (by rw [h4, shrS]; simp [shr, hu, hft, hcr]; omega) (by rw [h1, shrS]; simp [shr, hu, hft, hcr]; omega)
                  · exact absurd (Int32.not_lt.mp c_100) hm3
              · exact absurd hle c_57
      · exact absurd c_20 (by decide)
