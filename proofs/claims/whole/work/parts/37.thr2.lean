set_option maxHeartbeats 4000000 in
set_option maxRecDepth 100000 in
theorem c_S_unmark (l : Launch) (hl9 : l.stackTraces = false) (D : va_G) (ty : tyL) (N0 sz : Nat) (h cn f : Nat) (v w z1 : Int32) (p0 s0 : List AP) : vx_Met l y_S_unmark (Cond.code y_S_unmark b_S_unmark 3 (some .int) :: GW) ({ frames := 7, cells := 1, slots := 6, locals := 102 }) (va_Pc [.ref h] (at1 D ty N0 sz (scell h cn (hdO (p0 ++ s0) none) (hdO s0 none) f v w z1 :: chG (p0 ++ s0) none))) (va_Qi (fun r ws' => s0 = [] ∧ r = nI (shrS 8 (p0 ++ s0)) ∧ ws' = scell h cn (hdO (p0 ++ s0) none) (hdO s0 none) f v w z1 :: chG (unmkL (p0 ++ s0)) none) (at2 D ty (va_A (scell h cn (hdO (p0 ++ s0) none) (hdO s0 none) f v w z1 :: chG (p0 ++ s0) none) sz)) (va_A (scell h cn (hdO (p0 ++ s0) none) (hdO s0 none) f v w z1 :: chG (p0 ++ s0) none) sz)) (vx_X (fun z : String × va_W => z.2 = (scell h cn (hdO (p0 ++ s0) none) (hdO s0 none) f v w z1 :: chG (p0 ++ s0) none) ∧ z.1 = "java/lang/IllegalStateException" ∧ ¬ s0 = []) (fun E z t => E = z.1 ∧ at2 D ty (va_A (scell h cn (hdO (p0 ++ s0) none) (hdO s0 none) f v w z1 :: chG (p0 ++ s0) none) sz) z.2 t) (va_A (scell h cn (hdO (p0 ++ s0) none) (hdO s0 none) f v w z1 :: chG (p0 ++ s0) none) sz)) 1 6 (va_A (scell h cn (hdO (p0 ++ s0) none) (hdO s0 none) f v w z1 :: chG (p0 ++ s0) none) sz) := by
  refine vx_ofW (cc := b_S_unmark) (maxL := 3) (ret := (some .int)) (by decide) rfl ?_
  intro p e s m args below meth c s₁ B hml hEx hv
  obtain ⟨rfl, hsz, hN0, ⟨hP, hK, hN⟩, hD0, hE⟩ := hv
  subst hsz
  have hD := hD0.self (sz := s.heap.size)
  have hAN := sw_AN hD0 hN0
  generalize hAe : va_A (scell h cn (hdO (p0 ++ s0) none) (hdO s0 none) f v w z1 :: chG (p0 ++ s0) none) s.heap.size = A at hD hAN ⊢
  have hA : ∀ q : Nat, s.heap.size ≤ q → A q := fun q h => by rw [← hAe]; exact Or.inr h
  have hS : va_S A s.heap s.heap [] := va_S.rf
  have hP : va_P D classes (scell h cn (hdO (p0 ++ s0) none) (hdO s0 none) f v w z1 :: chG (p0 ++ s0) none) s.heap := hP
  have hx := B.exec
  have hb := B.bytes
  have hr := B.returns
  have hg : ∀ w ∈ GW, w.before _ s = true := fun w h => atoms_spec (ws := Cond.code y_S_unmark b_S_unmark 3 (some .int) :: GW) B.pre w (List.mem_cons_of_mem _ h)
  have hown : s.vm.findClass R_S = some m.cls := findClass_of_methodNamed B.named
  have hlocks := B.notSynchronized
  have hl := lv_entry ([.ref h]) (n := 3) (Nat.le_of_ble_eq_true rfl)
  rw [lg_entry_eq]
  generalize (lg_sl ([.ref h]) ++ List.replicate (3 - (lg_sl ([.ref h])).length) Slot.unset).toArray = ls at hl ⊢
  replace hl : lv_has ls 3 [(0, .ref h)] := hl
  refine lv_aload_n hx hb d_S_unmark_0 rfl (lv_at hl 0 rfl) ?_
  have hFc := sw_free hD hS hA
  refine vx_callv (vx_runV (As := []) (rest := []) ⟨hx, hb, hml, hown, hg⟩ (c_S_refuseDuringSweep l hl9 D ty N0 _ h cn (hdO s0 none) f v w z1 (p0 ++ s0)) (cwV 0 hg (gw_V gw_269 gw_271 gw_10 gw_26 gw_272) rfl rfl rfl (by decide +kernel) ⟨Nat.le_of_ble_eq_true rfl, Nat.le_of_ble_eq_true rfl⟩) (pre_wrV hP hK hN hD hS hAN hN0 hE (ci := 0) (k := 0) rfl rfl) rfl rfl hl.1 rfl (lv_room (Nat.le_of_ble_eq_true rfl)) d_S_unmark_1 ⟨Nat.le_of_ble_eq_true rfl, Nat.le_of_ble_eq_true rfl⟩) hS (fun q _ h => hFc q h) hFc (fun q _ h => hFc q h) (fun E ce q9 z t H locs ht hvm hw hB hz1 hk1 hS hce hcv hcl => ?_) (fun u t H locs ht hvm hw hB hz1 hk1 hS => ?_)
  · obtain ⟨hE9, hP, hK1, hD1⟩ := hB
    obtain ⟨hw1, hw2⟩ := hw
    rw [ht, hw1] at hP
    rw [hw1] at hD1
    replace hD := hD1.weaken (fun _ _ _ h => hFc _ h)
    exact vx_out (E := E) (fun x hx => (hEx x hx).elim) hlocks hce hcv hcl (fun t' ht' ha => ⟨(E, _), ⟨rfl, ⟨hE9.trans hw2.1, fun h9 => hw2.2 (hdO_none.mpr h9)⟩⟩, ⟨rfl, by rw [ht']; exact hP, va_K.moved ha hK, hD⟩, hS.F ht'⟩) hS.2.2 (Nat.le_of_ble_eq_true rfl) (Nat.le_of_ble_eq_true rfl)
  · obtain ⟨hP, hK1, hD1⟩ := hB
    rw [ht] at hP
    have hD := hD1.weaken (fun _ _ _ h => hFc _ h)
    clear hK1 hD1 hFc hk1 hz1
    obtain ⟨rfl, hnone⟩ := hw
    refine W.widen (k := 1) (n := 6) (Nat.le_of_ble_eq_true rfl) (Nat.le_of_ble_eq_true rfl) ?_
    refine lv_iconst (v := 0) hx hb d_S_unmark_4 (by decide) ?_
    refine lv_istore_n (lv' := [(1, .int 0), (0, .ref h)]) hx hb d_S_unmark_5 rfl hl (by decide) rfl (fun ls hl => ?_)
    refine lv_aload_n hx hb d_S_unmark_6 rfl (lv_at hl 1 rfl) ?_
    refine va_get (D := D) (ci := 0) (v := va_rf (hdO (p0 ++ s0) none)) (C := R_S) (T := F_S) (N := 7) hx hb hg gi_S hown hK hP 0 rfl rfl 1 (by decide) (hg _ gw_82) (fun _ h9 => h9) rfl d_S_unmark_7 ?_
    refine sv_astore_n (lv' := [(2, va_rf (hdO (p0 ++ s0) none)), (1, .int 0), (0, .ref h)]) hx hb d_S_unmark_10 rfl hl (by decide) rfl (fun ls hl => ?_)
    obtain ⟨g, hgg⟩ : ∃ q : Nat, q = 0 := ⟨_, rfl⟩
    obtain ⟨suf, hs⟩ : ∃ q, q = p0 ++ s0 := ⟨_, rfl⟩
    obtain ⟨pre, hpr⟩ : ∃ q : List AP, q = [] := ⟨_, rfl⟩
    replace hl := lv_sub hl [0, 1, 2] rfl
    replace hl : lv_has ls 3 [(2, va_rf (hdO (p0 ++ s0) none)), (1, .int 0), (0, .ref h)] := hl
    replace hl : lv_has ls 3 [(2, va_rf (hdO suf none)), (1, .int (nI g)), (0, .ref h)] := by rw [hs, hgg, nI_0]; exact hl
    replace hP : va_P D classes (scell h cn (hdO (p0 ++ s0) none) (hdO s0 none) f v w z1 :: chG (unmkL pre ++ suf) none) H := by rw [hpr, hs]; exact hP
    replace hD : va_D A (scell h cn (hdO (p0 ++ s0) none) (hdO s0 none) f v w z1 :: chG (unmkL pre ++ suf) none) := by rw [hpr, hs]; exact hD
    have hL9 : p0 ++ s0 = pre ++ suf := by rw [hpr, hs]; rfl
    have hq : shrS 8 (p0 ++ s0) = g + shrS 8 suf := by rw [hs, hgg, Nat.zero_add]
    clear hs hgg hpr ht hvm
    revert hq
    revert hL9
    revert hS
    revert hD
    revert hP
    revert hl
    revert locs
    revert H
    revert pre
    revert g
    revert ls
    induction suf with
    | nil =>
      intro ls g pre H locs hl hP hD hS hL9 hq
      replace hl : lv_has ls 3 [(2, .null), (1, .int (nI g)), (0, .ref h)] := hl
      refine lv_aload_nN hx hb d_S_unmark_11 rfl (lv_at hl 0 rfl) ?_
      refine lv_ifnullN (tgt := 38) hx hb d_S_unmark_12 (by decide) ?_
      refine lv_iload_n hx hb d_S_unmark_38 rfl (lv_at hl 1 rfl) ?_
      refine W.widen (k := 1) (n := 6) (Nat.le_of_ble_eq_true rfl) (Nat.le_of_ble_eq_true rfl) ?_
      exact vx_ret (W.iret (v := (nI g)) hx hb hr (fun t ht hW => ⟨⟨_, _, rfl, ⟨hdO_none.mp hnone, by rw [hq]; rfl, by rw [hL9, List.append_nil, List.append_nil]⟩, at2.of hP hK hD ht hW⟩, hS.F ht⟩) hS.2.2 d_S_unmark_39)
    | cons x suf ih =>
      intro ls g pre H locs hl hP hD hS hL9 hq
      replace hl : lv_has ls 3 [(2, .ref x.1), (1, .int (nI g)), (0, .ref h)] := hl
      rw [chG_mid] at hP hD
      replace hP : va_P D classes ((h, .inr (0, [.int (nI cn), va_rf (hdO (p0 ++ s0) none), va_rf (hdO s0 none), .long (lN f), .int v, .int w, .int z1])) :: ((chG (unmkL pre) (some x.1)) ++ ((x.1, .inr (1, [.int (nI x.2.1), .int (nI x.2.2.1), .int (bI x.2.2.2.1), .int (bI x.2.2.2.2.1), .long (lN x.2.2.2.2.2), va_rf (hdO suf none)])) :: chG suf none))) _ := hP
      replace hD : va_D A ((h, .inr (0, [.int (nI cn), va_rf (hdO (p0 ++ s0) none), va_rf (hdO s0 none), .long (lN f), .int v, .int w, .int z1])) :: ((chG (unmkL pre) (some x.1)) ++ ((x.1, .inr (1, [.int (nI x.2.1), .int (nI x.2.2.1), .int (bI x.2.2.2.1), .int (bI x.2.2.2.2.1), .long (lN x.2.2.2.2.2), va_rf (hdO suf none)])) :: chG suf none))) := hD
      refine lv_aload_n hx hb d_S_unmark_11 rfl (lv_at hl 0 rfl) ?_
      refine lv_ifnull hx hb d_S_unmark_12 ?_
      refine lv_aload_n hx hb d_S_unmark_15 rfl (lv_at hl 0 rfl) ?_
      refine va_getN (D := D) (ci := 1) (v := .int (bI x.2.2.2.2.1)) (C := R_P) (T := F_P) (N := 6) hx hb hg gi_P hown hK hP ((chG (unmkL pre) (some x.1)).length + 1) (sw_get1 _ _ _ _) rfl 3 (by decide) (va_Nw.use rfl (hN.1 (50, "marked", "Z") (by decide))) (fun _ h9 => h9) rfl d_S_unmark_16 ?_
      refine lv_if_eq (tgt := 30) hx hb d_S_unmark_19 (by decide) (fun c_19 => ?_) (fun c_19 => ?_)
      · refine lv_aload_n hx hb d_S_unmark_30 rfl (lv_at hl 0 rfl) ?_
        refine va_getN (D := D) (ci := 1) (v := va_rf (hdO suf none)) (C := R_P) (T := F_P) (N := 6) hx hb hg gi_P hown hK hP ((chG (unmkL pre) (some x.1)).length + 1) (sw_get1 _ _ _ _) rfl 5 (by decide) (va_Nw.use rfl (hN.1 (69, "next", "LSweepHand$Piece;") (by decide))) (fun _ h9 => h9) rfl d_S_unmark_31 ?_
        refine sv_astore_n (lv' := [(2, va_rf (hdO suf none)), (1, .int (nI g)), (0, .ref h)]) hx hb d_S_unmark_34 rfl hl (by decide) rfl (fun ls hl => ?_)
        refine lv_goto (tgt := 11) hx hb d_S_unmark_35 (by decide) ?_
        replace hP : va_P D classes (scell h cn (hdO (p0 ++ s0) none) (hdO s0 none) f v w z1 :: chG (unmkL (pre ++ [x]) ++ suf) none) H := by rw [unmk_snoc, unX_f (bI_0.mp c_19), chG_mid]; exact hP
        replace hD : va_D A (scell h cn (hdO (p0 ++ s0) none) (hdO s0 none) f v w z1 :: chG (unmkL (pre ++ [x]) ++ suf) none) := by rw [unmk_snoc, unX_f (bI_0.mp c_19), chG_mid]; exact hD
        exact ih ls g (pre ++ [x]) _ _ (lv_sub hl [0, 1, 2] rfl) hP hD hS (by rw [hL9, List.append_assoc]; rfl) (by rw [hq, shrS, shr8, bI_0.mp c_19]; simp)
      · refine lv_aload_n hx hb d_S_unmark_22 rfl (lv_at hl 0 rfl) ?_
        refine lv_iconst (v := 0) hx hb d_S_unmark_23 (by decide) ?_
        refine va_putN (D := D) (ci := 1) (v := .int 0) (ty := .boolean) (C := R_P) (T := F_P) (N := 6) hx hb hg gi_P t_P t_P_ok n_P hown hK hP hD hS ((chG (unmkL pre) (some x.1)).length + 1) (sw_get1 _ _ _ _) rfl 3 (by decide) (va_Nw.use rfl (hN.1 (50, "marked", "Z") (by decide))) (fun _ h9 => h9) rfl (by decide +kernel) rfl rfl (Nat.le_of_ble_eq_true rfl) d_S_unmark_24 (fun H locs hP hD hS => ?_)
        rw [sw_set1] at hP hD
        replace hP : va_P D classes ((h, .inr (0, [.int (nI cn), va_rf (hdO (p0 ++ s0) none), va_rf (hdO s0 none), .long (lN f), .int v, .int w, .int z1])) :: ((chG (unmkL pre) (some x.1)) ++ ((x.1, .inr (1, [.int (nI x.2.1), .int (nI x.2.2.1), .int (bI x.2.2.2.1), .int 0, .long (lN x.2.2.2.2.2), va_rf (hdO suf none)])) :: chG suf none))) _ := hP
        replace hD : va_D A ((h, .inr (0, [.int (nI cn), va_rf (hdO (p0 ++ s0) none), va_rf (hdO s0 none), .long (lN f), .int v, .int w, .int z1])) :: ((chG (unmkL pre) (some x.1)) ++ ((x.1, .inr (1, [.int (nI x.2.1), .int (nI x.2.2.1), .int (bI x.2.2.2.1), .int 0, .long (lN x.2.2.2.2.2), va_rf (hdO suf none)])) :: chG suf none))) := hD
        obtain ⟨j1, ej1⟩ : ∃ y : Int32, y = (nI g) + 1 := ⟨_, rfl⟩
        refine lv_iinc (v := j1) (lv' := [(1, .int j1), (2, .ref x.1), (0, .ref h)]) hx hb d_S_unmark_27 hl (k := 1) rfl (by rw [ej1]; rfl) (by decide) rfl (fun ls hl => ?_)
        rw [nI_1] at ej1
        subst ej1
        refine lv_aload_n hx hb d_S_unmark_30 rfl (lv_at hl 1 rfl) ?_
        refine va_getN (D := D) (ci := 1) (v := va_rf (hdO suf none)) (C := R_P) (T := F_P) (N := 6) hx hb hg gi_P hown hK hP ((chG (unmkL pre) (some x.1)).length + 1) (sw_get1 _ _ _ _) rfl 5 (by decide) (va_Nw.use rfl (hN.1 (69, "next", "LSweepHand$Piece;") (by decide))) (fun _ h9 => h9) rfl d_S_unmark_31 ?_
        refine sv_astore_n (lv' := [(2, va_rf (hdO suf none)), (1, .int (nI (g + 1))), (0, .ref h)]) hx hb d_S_unmark_34 rfl hl (by decide) rfl (fun ls hl => ?_)
        refine lv_goto (tgt := 11) hx hb d_S_unmark_35 (by decide) ?_
        replace hP : va_P D classes (scell h cn (hdO (p0 ++ s0) none) (hdO s0 none) f v w z1 :: chG (unmkL (pre ++ [x]) ++ suf) none) H := by rw [unmk_snoc, chG_mid]; exact hP
        replace hD : va_D A (scell h cn (hdO (p0 ++ s0) none) (hdO s0 none) f v w z1 :: chG (unmkL (pre ++ [x]) ++ suf) none) := by rw [unmk_snoc, chG_mid]; exact hD
        exact ih ls (g + 1) (pre ++ [x]) _ _ (lv_sub hl [0, 1, 2] rfl) hP hD hS (by rw [hL9, List.append_assoc]; rfl) (by rw [hq, shrS, shr8, bI_n0.mp c_19]; simp; omega)
set_option maxHeartbeats 4000000 in
set_option maxRecDepth 100000 in
theorem c_S_sweep (l : Launch) (hl9 : l.stackTraces = false) (D : va_G) (ty : tyL) (N0 sz : Nat) (h cn f : Nat) (v w z1 : Int32) (p0 s0 : List AP) (n : Int32) : vx_Met l y_S_sweep (Cond.code y_S_sweep b_S_sweep 3 (some .int) :: GW) ({ frames := 6, cells := 1, slots := 6, locals := 82 }) (va_Pc [.ref h, .int n] (at1 D ty N0 sz (scell h cn (hdO (p0 ++ s0) none) (hdO s0 none) f v w z1 :: chG (p0 ++ s0) none))) (va_Qi (fun r ws' => ∃ k : Nat, k ≤ 5000 ∧ n = nI k ∧ r = nI (swR k p0 s0 f w z1).1 ∧ ws' = wsW h cn v (swR k p0 s0 f w z1).2) (at2 D ty (va_A (scell h cn (hdO (p0 ++ s0) none) (hdO s0 none) f v w z1 :: chG (p0 ++ s0) none) sz)) (va_A (scell h cn (hdO (p0 ++ s0) none) (hdO s0 none) f v w z1 :: chG (p0 ++ s0) none) sz)) (vx_X (fun z : String × va_W => z.2 = (scell h cn (hdO (p0 ++ s0) none) (hdO s0 none) f v w z1 :: chG (p0 ++ s0) none) ∧ z.1 = "java/lang/IllegalArgumentException" ∧ (n < 0 ∨ ¬ n ≤ 5000)) (fun E z t => E = z.1 ∧ at2 D ty (va_A (scell h cn (hdO (p0 ++ s0) none) (hdO s0 none) f v w z1 :: chG (p0 ++ s0) none) sz) z.2 t) (va_A (scell h cn (hdO (p0 ++ s0) none) (hdO s0 none) f v w z1 :: chG (p0 ++ s0) none) sz)) 1 6 (va_A (scell h cn (hdO (p0 ++ s0) none) (hdO s0 none) f v w z1 :: chG (p0 ++ s0) none) sz) := by
  refine vx_ofW (cc := b_S_sweep) (maxL := 3) (ret := (some .int)) (by decide) rfl ?_
  intro p e s m args below meth c s₁ B hml hEx hv
  obtain ⟨rfl, hsz, hN0, ⟨hP, hK, hN⟩, hD0, hE⟩ := hv
  subst hsz
  have hD := hD0.self (sz := s.heap.size)
  have hAN := sw_AN hD0 hN0
  generalize hAe : va_A (scell h cn (hdO (p0 ++ s0) none) (hdO s0 none) f v w z1 :: chG (p0 ++ s0) none) s.heap.size = A at hD hAN ⊢
  have hA : ∀ q : Nat, s.heap.size ≤ q → A q := fun q h => by rw [← hAe]; exact Or.inr h
  have hS : va_S A s.heap s.heap [] := va_S.rf
  have hP : va_P D classes (scell h cn (hdO (p0 ++ s0) none) (hdO s0 none) f v w z1 :: chG (p0 ++ s0) none) s.heap := hP
  have hx := B.exec
  have hb := B.bytes
  have hr := B.returns
  have hg : ∀ w ∈ GW, w.before _ s = true := fun w h => atoms_spec (ws := Cond.code y_S_sweep b_S_sweep 3 (some .int) :: GW) B.pre w (List.mem_cons_of_mem _ h)
  have hown : s.vm.findClass R_S = some m.cls := findClass_of_methodNamed B.named
  have hlocks := B.notSynchronized
  have hl := lv_entry ([.ref h, .int n]) (n := 3) (Nat.le_of_ble_eq_true rfl)
  rw [lg_entry_eq]
  generalize (lg_sl ([.ref h, .int n]) ++ List.replicate (3 - (lg_sl ([.ref h, .int n])).length) Slot.unset).toArray = ls at hl ⊢
  replace hl : lv_has ls 3 [(0, .ref h), (1, .int n)] := hl
  refine lv_iload_n hx hb d_S_sweep_0 rfl (lv_at hl 1 rfl) ?_
  refine lv_if_lt (tgt := 11) hx hb d_S_sweep_1 (by decide) (fun c_1 => ?_) (fun c_1 => ?_)
  · obtain ⟨sa, hstr⟩ := hE.2.2 (72, "the number of steps is not 0 .. 5000") (by decide)
    exact vx_throwS (own := R_S) (cls := "java/lang/IllegalArgumentException") (names := xNm) hx hb hl9 hown (by decide +kernel) (by decide +kernel) (hg _ gw_142) (hg _ gw_32) hstr (vx_hat (fun w hw => hg w (xg_17 w hw)) xb_17 (xBd_ok hN (by decide))) xo_17 (hE.1.narrow hAN) (hE.2.1.narrow hAN) hS (hl.1.trans hml.symm) d_S_sweep_11 d_S_sweep_14 d_S_sweep_15 d_S_sweep_17 d_S_sweep_20 (fun x hx => (hEx x hx).elim) (Nat.le_of_ble_eq_true rfl) (Nat.le_of_ble_eq_true rfl) (Nat.le_of_ble_eq_true rfl) (Nat.le_of_ble_eq_true rfl) hlocks (fun t ha hsz hk => ⟨("java/lang/IllegalArgumentException", _), ⟨rfl, ⟨rfl, Or.inl c_1⟩⟩, ⟨rfl, hP.kept (fun k q hq => hk q.1 (hP k q hq).lt), va_K.moved ha hK, hD⟩, Nat.le_trans hS.1 hsz, fun q h1 h2 => (hk q (Nat.lt_of_lt_of_le h1 hS.1)).trans (hS.2.1 q h1 h2)⟩) hS.2.2 (Nat.le_of_ble_eq_true rfl) (Nat.le_of_ble_eq_true rfl)
  · refine lv_iload_n hx hb d_S_sweep_4 rfl (lv_at hl 1 rfl) ?_
    refine lv_sipush (v := 5000) hx hb d_S_sweep_5 (by decide) ?_
    refine lv_icmp_le (tgt := 21) hx hb d_S_sweep_8 (by decide) (fun c_8 => ?_) (fun c_8 => ?_)
    · obtain ⟨k, hk1, hk2, rfl⟩ := rng (lo := 0) (hi := 5000) c_1 c_8 (by decide) (by decide)
      refine lv_iconst (v := 0) hx hb d_S_sweep_21 (by decide) ?_
      refine lv_istore_n (lv' := [(2, .int 0), (0, .ref h), (1, .int (nI k))]) hx hb d_S_sweep_22 rfl hl (by decide) rfl (fun ls hl => ?_)
      obtain ⟨i, hii⟩ : ∃ q : Nat, q = 0 := ⟨_, rfl⟩
      obtain ⟨d, hdd⟩ : ∃ q : Nat, q = k := ⟨_, rfl⟩
      have hik : i + d = k := by rw [hii, hdd, Nat.zero_add]
      obtain ⟨p1, s1, f1, w1, z2, hst⟩ : ∃ (p1 s1 : List AP) (f1 : Nat) (w1 z2 : Int32), (p1, s1, f1, w1, z2) = (p0, s0, f, w, z1) := ⟨_, _, _, _, _, rfl⟩
      have hq : swR k p0 s0 f w z1 = ((swR d p1 s1 f1 w1 z2).1 + i, (swR d p1 s1 f1 w1 z2).2) := by cases hst; rw [hii, hdd]; rfl
      replace hP : va_P D classes (wsW h cn v (p1, s1, f1, w1, z2)) s.heap := by rw [hst]; exact hP
      replace hD : va_D A (wsW h cn v (p1, s1, f1, w1, z2)) := by rw [hst]; exact hD
      replace hl := lv_sub hl [0, 1, 2] rfl
      replace hl : lv_has ls 3 [(2, .int 0), (0, .ref h), (1, .int (nI k))] := hl
      replace hl : lv_has ls 3 [(2, .int (nI i)), (0, .ref h), (1, .int (nI k))] := by rw [hii, nI_0]; exact hl
      obtain ⟨H, hH9⟩ : ∃ q, q = s.heap := ⟨_, rfl⟩
      obtain ⟨locs, hlo9⟩ : ∃ q : List Loc, q = [] := ⟨_, rfl⟩
      rw [← hH9] at hP
      have hS9 : va_S A s.heap H locs := by rw [hH9, hlo9]; exact hS
      clear hS
      have hS := hS9
      clear hS9
      suffices hgo : W p l e _ s m _ below meth c H locs 0 0 _ (F0 m 23 ls []) by rw [hH9, hlo9] at hgo; exact hgo
      clear hH9 hlo9 hst hii hdd
      revert hq
      revert hik
      revert hS
      revert hD
      revert hP
      revert hl
      revert locs
      revert H
      revert z2
      revert w1
      revert f1
      revert s1
      revert p1
      revert i
      revert ls
      induction d with
      | zero =>
        intro ls i p1 s1 f1 w1 z2 H locs hl hP hD hS hik hq
        refine lv_iload_n hx hb d_S_sweep_23 rfl (lv_at hl 0 rfl) ?_
        refine lv_iload_n hx hb d_S_sweep_24 rfl (lv_at hl 2 rfl) ?_
        refine lv_icmp_ge (tgt := 49) hx hb d_S_sweep_25 (by decide) (fun c_25 => ?_) (fun c_25 => ?_)
        · refine lv_iload_n hx hb d_S_sweep_49 rfl (lv_at hl 0 rfl) ?_
          refine W.widen (k := 1) (n := 6) (Nat.le_of_ble_eq_true rfl) (Nat.le_of_ble_eq_true rfl) ?_
          exact vx_ret (W.iret (v := (nI i)) hx hb hr (fun t ht hW => ⟨⟨_, _, rfl, ⟨k, hk2, rfl, by rw [hq]; exact congrArg nI (Nat.zero_add i).symm, by rw [hq]; rfl⟩, at2.of hP hK hD ht hW⟩, hS.F ht⟩) hS.2.2 d_S_sweep_50)
        · exact absurd (nI_le (by omega) (by omega)) c_25
      | succ d ih =>
        intro ls i p1 s1 f1 w1 z2 H locs hl hP hD hS hik hq
        refine lv_iload_n hx hb d_S_sweep_23 rfl (lv_at hl 0 rfl) ?_
        refine lv_iload_n hx hb d_S_sweep_24 rfl (lv_at hl 2 rfl) ?_
        refine lv_icmp_ge (tgt := 49) hx hb d_S_sweep_25 (by decide) (fun c_25 => ?_) (fun c_25 => ?_)
        · exact absurd ((nI_leI (by omega) (by omega)).mp c_25) (by omega)
        · rcases s1 with _ | ⟨x, s1⟩
          · refine lv_aload_n hx hb d_S_sweep_28 rfl (lv_at hl 1 rfl) ?_
            refine va_get (D := D) (ci := 0) (v := .null) (C := R_S) (T := F_S) (N := 7) hx hb hg gi_S hown hK hP 0 rfl rfl 2 (by decide) (hg _ gw_83) (fun _ h9 => h9) rfl d_S_sweep_29 ?_
            refine lv_ifnullN (tgt := 49) hx hb d_S_sweep_32 (by decide) ?_
            refine lv_iload_n hx hb d_S_sweep_49 rfl (lv_at hl 0 rfl) ?_
            refine W.widen (k := 1) (n := 6) (Nat.le_of_ble_eq_true rfl) (Nat.le_of_ble_eq_true rfl) ?_
            exact vx_ret (W.iret (v := (nI i)) hx hb hr (fun t ht hW => ⟨⟨_, _, rfl, ⟨k, hk2, rfl, by rw [hq, swR]; exact congrArg nI (Nat.zero_add i).symm, by rw [hq, swR]⟩, at2.of hP hK hD ht hW⟩, hS.F ht⟩) hS.2.2 d_S_sweep_50)
          · refine lv_aload_n hx hb d_S_sweep_28 rfl (lv_at hl 1 rfl) ?_
            refine va_get (D := D) (ci := 0) (v := .ref x.1) (C := R_S) (T := F_S) (N := 7) hx hb hg gi_S hown hK hP 0 rfl rfl 2 (by decide) (hg _ gw_83) (fun _ h9 => h9) rfl d_S_sweep_29 ?_
            refine lv_ifnull hx hb d_S_sweep_32 ?_
            refine lv_aload_n hx hb d_S_sweep_35 rfl (lv_at hl 1 rfl) ?_
            refine lv_aload_n hx hb d_S_sweep_36 rfl (lv_at hl 1 rfl) ?_
            refine va_get (D := D) (ci := 0) (v := .ref x.1) (C := R_S) (T := F_S) (N := 7) hx hb hg gi_S hown hK hP 0 rfl rfl 2 (by decide) (hg _ gw_83) (fun _ h9 => h9) rfl d_S_sweep_37 ?_
            have hFc := sw_free hD hS hA
            refine va_callv (va_runV (As := [.ref x.1]) (rest := []) ⟨hx, hb, hml, hown, hg⟩ (c_S_stepFrom l D ty N0 _ h cn f1 v w1 z2 p1 s1 x) (cwV 1 hg (gw_V gw_311 gw_313 gw_11 gw_26 gw_314) rfl rfl rfl (by decide +kernel) ⟨Nat.le_of_ble_eq_true rfl, Nat.le_of_ble_eq_true rfl⟩) (pre_wrV hP hK hN hD hS hAN hN0 hE (ci := 0) (k := 0) rfl rfl) rfl rfl hl.1 rfl (lv_room (Nat.le_of_ble_eq_true rfl)) d_S_sweep_40 ⟨Nat.le_of_ble_eq_true rfl, Nat.le_of_ble_eq_true rfl⟩) hS (fun q _ h => hFc q h) hFc (fun u t H locs ht hvm hw hB hz1 hk1 hS => ?_)
            obtain ⟨hP, hK1, hD1⟩ := hB
            rw [ht] at hP
            have hD := hD1.weaken (fun _ _ _ h => hFc _ h)
            clear hK1 hD1 hFc hk1 hz1
            subst hw
            replace hP : va_P D classes (wsW h cn v (p1 ++ [stX f1 x s1], stS x s1, stF f1 x s1, w1 + nI (stW x s1), if stS x s1 = [] then z2 + 1 else z2)) H := by unfold wsW; dsimp only; rw [List.append_assoc]; exact hP
            replace hD : va_D A (wsW h cn v (p1 ++ [stX f1 x s1], stS x s1, stF f1 x s1, w1 + nI (stW x s1), if stS x s1 = [] then z2 + 1 else z2)) := by unfold wsW; dsimp only; rw [List.append_assoc]; exact hD
            obtain ⟨j1, ej1⟩ : ∃ y : Int32, y = (nI i) + 1 := ⟨_, rfl⟩
            refine lv_iinc (v := j1) (lv' := [(2, .int j1), (0, .ref h), (1, .int (nI k))]) hx hb d_S_sweep_43 hl (k := 0) rfl (by rw [ej1]; rfl) (by decide) rfl (fun ls hl => ?_)
            refine lv_goto (tgt := 23) hx hb d_S_sweep_46 (by decide) ?_
            rw [nI_1] at ej1
            subst ej1
            exact ih ls (i + 1) (p1 ++ [stX f1 x s1]) (stS x s1) (stF f1 x s1) (w1 + nI (stW x s1)) (if stS x s1 = [] then z2 + 1 else z2) _ _ (lv_sub hl [0, 1, 2] rfl) hP hD hS (by omega) (by rw [hq, swR, Nat.add_assoc, Nat.add_comm 1 i])
    · obtain ⟨sa, hstr⟩ := hE.2.2 (72, "the number of steps is not 0 .. 5000") (by decide)
      exact vx_throwS (own := R_S) (cls := "java/lang/IllegalArgumentException") (names := xNm) hx hb hl9 hown (by decide +kernel) (by decide +kernel) (hg _ gw_142) (hg _ gw_32) hstr (vx_hat (fun w hw => hg w (xg_17 w hw)) xb_17 (xBd_ok hN (by decide))) xo_17 (hE.1.narrow hAN) (hE.2.1.narrow hAN) hS (hl.1.trans hml.symm) d_S_sweep_11 d_S_sweep_14 d_S_sweep_15 d_S_sweep_17 d_S_sweep_20 (fun x hx => (hEx x hx).elim) (Nat.le_of_ble_eq_true rfl) (Nat.le_of_ble_eq_true rfl) (Nat.le_of_ble_eq_true rfl) (Nat.le_of_ble_eq_true rfl) hlocks (fun t ha hsz hk => ⟨("java/lang/IllegalArgumentException", _), ⟨rfl, ⟨rfl, Or.inr c_8⟩⟩, ⟨rfl, hP.kept (fun k q hq => hk q.1 (hP k q hq).lt), va_K.moved ha hK, hD⟩, Nat.le_trans hS.1 hsz, fun q h1 h2 => (hk q (Nat.lt_of_lt_of_le h1 hS.1)).trans (hS.2.1 q h1 h2)⟩) hS.2.2 (Nat.le_of_ble_eq_true rfl) (Nat.le_of_ble_eq_true rfl)
set_option maxHeartbeats 4000000 in
set_option maxRecDepth 100000 in
theorem c_S_count (l : Launch) (hl9 : l.stackTraces = false) (D : va_G) (ty : tyL) (N0 sz : Nat) (h cn f : Nat) (v w z1 : Int32) (p0 s0 : List AP) (n : Int32) (hBd : Bd (p0 ++ s0)) : vx_Met l y_S_count (Cond.code y_S_count b_S_count 2 (some .int) :: GW) ({ frames := 6, cells := 1, slots := 6, locals := 82 }) (va_Pc [.ref h, .int n] (at1 D ty N0 sz (scell h cn (hdO (p0 ++ s0) none) (hdO s0 none) f v w z1 :: chG (p0 ++ s0) none))) (va_Qi (fun r ws' => ∃ k : Nat, k ≤ 10 ∧ n = nI k ∧ r = cntV cn v w z1 (p0 ++ s0) k ∧ ws' = scell h cn (hdO (p0 ++ s0) none) (hdO s0 none) f v w z1 :: chG (p0 ++ s0) none) (at2 D ty (va_A (scell h cn (hdO (p0 ++ s0) none) (hdO s0 none) f v w z1 :: chG (p0 ++ s0) none) sz)) (va_A (scell h cn (hdO (p0 ++ s0) none) (hdO s0 none) f v w z1 :: chG (p0 ++ s0) none) sz)) (vx_X (fun z : String × va_W => z.2 = (scell h cn (hdO (p0 ++ s0) none) (hdO s0 none) f v w z1 :: chG (p0 ++ s0) none) ∧ z.1 = "java/lang/IllegalArgumentException" ∧ (n < 0 ∨ ¬ n ≤ 10)) (fun E z t => E = z.1 ∧ at2 D ty (va_A (scell h cn (hdO (p0 ++ s0) none) (hdO s0 none) f v w z1 :: chG (p0 ++ s0) none) sz) z.2 t) (va_A (scell h cn (hdO (p0 ++ s0) none) (hdO s0 none) f v w z1 :: chG (p0 ++ s0) none) sz)) 1 6 (va_A (scell h cn (hdO (p0 ++ s0) none) (hdO s0 none) f v w z1 :: chG (p0 ++ s0) none) sz) := by
  refine vx_ofW (cc := b_S_count) (maxL := 2) (ret := (some .int)) (by decide) rfl ?_
  intro p e s m args below meth c s₁ B hml hEx hv
  obtain ⟨rfl, hsz, hN0, ⟨hP, hK, hN⟩, hD0, hE⟩ := hv
  subst hsz
  have hD := hD0.self (sz := s.heap.size)
  have hAN := sw_AN hD0 hN0
  generalize hAe : va_A (scell h cn (hdO (p0 ++ s0) none) (hdO s0 none) f v w z1 :: chG (p0 ++ s0) none) s.heap.size = A at hD hAN ⊢
  have hA : ∀ q : Nat, s.heap.size ≤ q → A q := fun q h => by rw [← hAe]; exact Or.inr h
  have hS : va_S A s.heap s.heap [] := va_S.rf
  have hP : va_P D classes (scell h cn (hdO (p0 ++ s0) none) (hdO s0 none) f v w z1 :: chG (p0 ++ s0) none) s.heap := hP
  have hx := B.exec
  have hb := B.bytes
  have hr := B.returns
  have hg : ∀ w ∈ GW, w.before _ s = true := fun w h => atoms_spec (ws := Cond.code y_S_count b_S_count 2 (some .int) :: GW) B.pre w (List.mem_cons_of_mem _ h)
  have hown : s.vm.findClass R_S = some m.cls := findClass_of_methodNamed B.named
  have hlocks := B.notSynchronized
  have hl := lv_entry ([.ref h, .int n]) (n := 2) (Nat.le_of_ble_eq_true rfl)
  rw [lg_entry_eq]
  generalize (lg_sl ([.ref h, .int n]) ++ List.replicate (2 - (lg_sl ([.ref h, .int n])).length) Slot.unset).toArray = ls at hl ⊢
  replace hl : lv_has ls 2 [(0, .ref h), (1, .int n)] := hl
  refine lv_iload_n hx hb d_S_count_0 rfl (lv_at hl 1 rfl) ?_
  by_cases c0 : n < 0
  · refine lv_tableOut (tgt := 91) hx hb d_S_count_1 (Or.inl (by have q := Int32.lt_iff_toInt_lt.mp c0; rw [show (0 : Int32).toInt = 0 by decide] at q; exact q)) (by decide) ?_
    obtain ⟨sa, hstr⟩ := hE.2.2 (94, "what to count is not 0 .. 10") (by decide)
    exact vx_throwS (own := R_S) (cls := "java/lang/IllegalArgumentException") (names := xNm) hx hb hl9 hown (by decide +kernel) (by decide +kernel) (hg _ gw_142) (hg _ gw_32) hstr (vx_hat (fun w hw => hg w (xg_17 w hw)) xb_17 (xBd_ok hN (by decide))) xo_17 (hE.1.narrow hAN) (hE.2.1.narrow hAN) hS (hl.1.trans hml.symm) d_S_count_91 d_S_count_94 d_S_count_95 d_S_count_97 d_S_count_100 (fun x hx => (hEx x hx).elim) (Nat.le_of_ble_eq_true rfl) (Nat.le_of_ble_eq_true rfl) (Nat.le_of_ble_eq_true rfl) (Nat.le_of_ble_eq_true rfl) hlocks (fun t ha hsz hk => ⟨("java/lang/IllegalArgumentException", _), ⟨rfl, ⟨rfl, Or.inl c0⟩⟩, ⟨rfl, hP.kept (fun k q hq => hk q.1 (hP k q hq).lt), va_K.moved ha hK, hD⟩, Nat.le_trans hS.1 hsz, fun q h1 h2 => (hk q (Nat.lt_of_lt_of_le h1 hS.1)).trans (hS.2.1 q h1 h2)⟩) hS.2.2 (Nat.le_of_ble_eq_true rfl) (Nat.le_of_ble_eq_true rfl)
  · by_cases c1 : n ≤ 10
    · obtain ⟨k, hk1, hk2, rfl⟩ := rng (lo := 0) (hi := 10) c0 c1 (by decide) (by decide)
      rcases (show k = 0 ∨ k = 1 ∨ k = 2 ∨ k = 3 ∨ k = 4 ∨ k = 5 ∨ k = 6 ∨ k = 7 ∨ k = 8 ∨ k = 9 ∨ k = 10 by omega) with rfl | rfl | rfl | rfl | rfl | rfl | rfl | rfl | rfl | rfl | rfl
      · refine lv_tableIn (off := 59) (tgt := 60) hx hb d_S_count_1 (by decide +kernel) (by decide +kernel) (by decide +kernel) (by decide) ?_
        refine lv_aload_n hx hb d_S_count_60 rfl (lv_at hl 0 rfl) ?_
        refine lv_iload_n hx hb d_S_count_61 rfl (lv_at hl 1 rfl) ?_
        refine vp_callSi (va_runV (As := [.int (nI 0)]) (rest := []) ⟨hx, hb, hml, hown, hg⟩ (c_S_sumOverPieces l D ty h cn (hdO s0 none) f v w z1 (p0 ++ s0) 0 hBd (by decide)) (cwV 1 hg (gw_V gw_330 gw_332 gw_14 gw_26 gw_333) rfl rfl rfl (by decide +kernel) ⟨Nat.le_of_ble_eq_true rfl, Nat.le_of_ble_eq_true rfl⟩) (pre_roV hP hK hN (ci := 0) (k := 0) rfl rfl) rfl rfl hl.1 rfl (lv_room (Nat.le_of_ble_eq_true rfl)) d_S_count_62 ⟨Nat.le_of_ble_eq_true rfl, Nat.le_of_ble_eq_true rfl⟩).run (fun r1 hr1 => ?_)
        refine W.widen (k := 1) (n := 6) (Nat.le_of_ble_eq_true rfl) (Nat.le_of_ble_eq_true rfl) ?_
        exact vx_ret (W.iret (v := r1) hx hb hr (fun t ht hW => ⟨⟨_, _, rfl, ⟨0, by decide, rfl, hr1, rfl⟩, at2.of hP hK hD ht hW⟩, hS.F ht⟩) hS.2.2 d_S_count_65)
      · refine lv_tableIn (off := 59) (tgt := 60) hx hb d_S_count_1 (by decide +kernel) (by decide +kernel) (by decide +kernel) (by decide) ?_
        refine lv_aload_n hx hb d_S_count_60 rfl (lv_at hl 0 rfl) ?_
        refine lv_iload_n hx hb d_S_count_61 rfl (lv_at hl 1 rfl) ?_
        refine vp_callSi (va_runV (As := [.int (nI 1)]) (rest := []) ⟨hx, hb, hml, hown, hg⟩ (c_S_sumOverPieces l D ty h cn (hdO s0 none) f v w z1 (p0 ++ s0) 1 hBd (by decide)) (cwV 1 hg (gw_V gw_330 gw_332 gw_14 gw_26 gw_333) rfl rfl rfl (by decide +kernel) ⟨Nat.le_of_ble_eq_true rfl, Nat.le_of_ble_eq_true rfl⟩) (pre_roV hP hK hN (ci := 0) (k := 0) rfl rfl) rfl rfl hl.1 rfl (lv_room (Nat.le_of_ble_eq_true rfl)) d_S_count_62 ⟨Nat.le_of_ble_eq_true rfl, Nat.le_of_ble_eq_true rfl⟩).run (fun r1 hr1 => ?_)
        refine W.widen (k := 1) (n := 6) (Nat.le_of_ble_eq_true rfl) (Nat.le_of_ble_eq_true rfl) ?_
        exact vx_ret (W.iret (v := r1) hx hb hr (fun t ht hW => ⟨⟨_, _, rfl, ⟨1, by decide, rfl, hr1, rfl⟩, at2.of hP hK hD ht hW⟩, hS.F ht⟩) hS.2.2 d_S_count_65)
      · refine lv_tableIn (off := 59) (tgt := 60) hx hb d_S_count_1 (by decide +kernel) (by decide +kernel) (by decide +kernel) (by decide) ?_
        refine lv_aload_n hx hb d_S_count_60 rfl (lv_at hl 0 rfl) ?_
        refine lv_iload_n hx hb d_S_count_61 rfl (lv_at hl 1 rfl) ?_
        refine vp_callSi (va_runV (As := [.int (nI 2)]) (rest := []) ⟨hx, hb, hml, hown, hg⟩ (c_S_sumOverPieces l D ty h cn (hdO s0 none) f v w z1 (p0 ++ s0) 2 hBd (by decide)) (cwV 1 hg (gw_V gw_330 gw_332 gw_14 gw_26 gw_333) rfl rfl rfl (by decide +kernel) ⟨Nat.le_of_ble_eq_true rfl, Nat.le_of_ble_eq_true rfl⟩) (pre_roV hP hK hN (ci := 0) (k := 0) rfl rfl) rfl rfl hl.1 rfl (lv_room (Nat.le_of_ble_eq_true rfl)) d_S_count_62 ⟨Nat.le_of_ble_eq_true rfl, Nat.le_of_ble_eq_true rfl⟩).run (fun r1 hr1 => ?_)
        refine W.widen (k := 1) (n := 6) (Nat.le_of_ble_eq_true rfl) (Nat.le_of_ble_eq_true rfl) ?_
        exact vx_ret (W.iret (v := r1) hx hb hr (fun t ht hW => ⟨⟨_, _, rfl, ⟨2, by decide, rfl, hr1, rfl⟩, at2.of hP hK hD ht hW⟩, hS.F ht⟩) hS.2.2 d_S_count_65)
      · refine lv_tableIn (off := 59) (tgt := 60) hx hb d_S_count_1 (by decide +kernel) (by decide +kernel) (by decide +kernel) (by decide) ?_
        refine lv_aload_n hx hb d_S_count_60 rfl (lv_at hl 0 rfl) ?_
        refine lv_iload_n hx hb d_S_count_61 rfl (lv_at hl 1 rfl) ?_
        refine vp_callSi (va_runV (As := [.int (nI 3)]) (rest := []) ⟨hx, hb, hml, hown, hg⟩ (c_S_sumOverPieces l D ty h cn (hdO s0 none) f v w z1 (p0 ++ s0) 3 hBd (by decide)) (cwV 1 hg (gw_V gw_330 gw_332 gw_14 gw_26 gw_333) rfl rfl rfl (by decide +kernel) ⟨Nat.le_of_ble_eq_true rfl, Nat.le_of_ble_eq_true rfl⟩) (pre_roV hP hK hN (ci := 0) (k := 0) rfl rfl) rfl rfl hl.1 rfl (lv_room (Nat.le_of_ble_eq_true rfl)) d_S_count_62 ⟨Nat.le_of_ble_eq_true rfl, Nat.le_of_ble_eq_true rfl⟩).run (fun r1 hr1 => ?_)
        refine W.widen (k := 1) (n := 6) (Nat.le_of_ble_eq_true rfl) (Nat.le_of_ble_eq_true rfl) ?_
        exact vx_ret (W.iret (v := r1) hx hb hr (fun t ht hW => ⟨⟨_, _, rfl, ⟨3, by decide, rfl, hr1, rfl⟩, at2.of hP hK hD ht hW⟩, hS.F ht⟩) hS.2.2 d_S_count_65)
      · refine lv_tableIn (off := 59) (tgt := 60) hx hb d_S_count_1 (by decide +kernel) (by decide +kernel) (by decide +kernel) (by decide) ?_
        refine lv_aload_n hx hb d_S_count_60 rfl (lv_at hl 0 rfl) ?_
        refine lv_iload_n hx hb d_S_count_61 rfl (lv_at hl 1 rfl) ?_
        refine vp_callSi (va_runV (As := [.int (nI 4)]) (rest := []) ⟨hx, hb, hml, hown, hg⟩ (c_S_sumOverPieces l D ty h cn (hdO s0 none) f v w z1 (p0 ++ s0) 4 hBd (by decide)) (cwV 1 hg (gw_V gw_330 gw_332 gw_14 gw_26 gw_333) rfl rfl rfl (by decide +kernel) ⟨Nat.le_of_ble_eq_true rfl, Nat.le_of_ble_eq_true rfl⟩) (pre_roV hP hK hN (ci := 0) (k := 0) rfl rfl) rfl rfl hl.1 rfl (lv_room (Nat.le_of_ble_eq_true rfl)) d_S_count_62 ⟨Nat.le_of_ble_eq_true rfl, Nat.le_of_ble_eq_true rfl⟩).run (fun r1 hr1 => ?_)
        refine W.widen (k := 1) (n := 6) (Nat.le_of_ble_eq_true rfl) (Nat.le_of_ble_eq_true rfl) ?_
        exact vx_ret (W.iret (v := r1) hx hb hr (fun t ht hW => ⟨⟨_, _, rfl, ⟨4, by decide, rfl, hr1, rfl⟩, at2.of hP hK hD ht hW⟩, hS.F ht⟩) hS.2.2 d_S_count_65)
      · refine lv_tableIn (off := 65) (tgt := 66) hx hb d_S_count_1 (by decide +kernel) (by decide +kernel) (by decide +kernel) (by decide) ?_
        refine lv_aload_n hx hb d_S_count_66 rfl (lv_at hl 0 rfl) ?_
        refine vp_callSi (va_runV (As := []) (rest := []) ⟨hx, hb, hml, hown, hg⟩ (c_S_greatestFree l D ty h cn (hdO s0 none) f v w z1 (p0 ++ s0) hBd) (cwV 0 hg (gw_V gw_341 gw_343 gw_16 gw_26 gw_344) rfl rfl rfl (by decide +kernel) ⟨Nat.le_of_ble_eq_true rfl, Nat.le_of_ble_eq_true rfl⟩) (pre_roV hP hK hN (ci := 0) (k := 0) rfl rfl) rfl rfl hl.1 rfl (lv_room (Nat.le_of_ble_eq_true rfl)) d_S_count_67 ⟨Nat.le_of_ble_eq_true rfl, Nat.le_of_ble_eq_true rfl⟩).run (fun r1 hr1 => ?_)
        refine W.widen (k := 1) (n := 6) (Nat.le_of_ble_eq_true rfl) (Nat.le_of_ble_eq_true rfl) ?_
        exact vx_ret (W.iret (v := r1) hx hb hr (fun t ht hW => ⟨⟨_, _, rfl, ⟨5, by decide, rfl, hr1, rfl⟩, at2.of hP hK hD ht hW⟩, hS.F ht⟩) hS.2.2 d_S_count_70)
      · refine lv_tableIn (off := 70) (tgt := 71) hx hb d_S_count_1 (by decide +kernel) (by decide +kernel) (by decide +kernel) (by decide) ?_
        refine lv_aload_n hx hb d_S_count_71 rfl (lv_at hl 0 rfl) ?_
        refine va_get (D := D) (ci := 0) (v := .int v) (C := R_S) (T := F_S) (N := 7) hx hb hg gi_S hown hK hP 0 rfl rfl 4 (by decide) (hg _ gw_85) (fun _ h9 => h9) rfl d_S_count_72 ?_
        refine W.widen (k := 1) (n := 6) (Nat.le_of_ble_eq_true rfl) (Nat.le_of_ble_eq_true rfl) ?_
        exact vx_ret (W.iret (v := v) hx hb hr (fun t ht hW => ⟨⟨_, _, rfl, ⟨6, by decide, rfl, rfl, rfl⟩, at2.of hP hK hD ht hW⟩, hS.F ht⟩) hS.2.2 d_S_count_75)
      · refine lv_tableIn (off := 75) (tgt := 76) hx hb d_S_count_1 (by decide +kernel) (by decide +kernel) (by decide +kernel) (by decide) ?_
        refine lv_aload_n hx hb d_S_count_76 rfl (lv_at hl 0 rfl) ?_
        refine va_get (D := D) (ci := 0) (v := .int (nI cn)) (C := R_S) (T := F_S) (N := 7) hx hb hg gi_S hown hK hP 0 rfl rfl 0 (by decide) (hg _ gw_81) (fun _ h9 => h9) rfl d_S_count_77 ?_
        refine W.widen (k := 1) (n := 6) (Nat.le_of_ble_eq_true rfl) (Nat.le_of_ble_eq_true rfl) ?_
        exact vx_ret (W.iret (v := (nI cn)) hx hb hr (fun t ht hW => ⟨⟨_, _, rfl, ⟨7, by decide, rfl, rfl, rfl⟩, at2.of hP hK hD ht hW⟩, hS.F ht⟩) hS.2.2 d_S_count_80)
      · refine lv_tableIn (off := 59) (tgt := 60) hx hb d_S_count_1 (by decide +kernel) (by decide +kernel) (by decide +kernel) (by decide) ?_
        refine lv_aload_n hx hb d_S_count_60 rfl (lv_at hl 0 rfl) ?_
        refine lv_iload_n hx hb d_S_count_61 rfl (lv_at hl 1 rfl) ?_
        refine vp_callSi (va_runV (As := [.int (nI 8)]) (rest := []) ⟨hx, hb, hml, hown, hg⟩ (c_S_sumOverPieces l D ty h cn (hdO s0 none) f v w z1 (p0 ++ s0) 8 hBd (by decide)) (cwV 1 hg (gw_V gw_330 gw_332 gw_14 gw_26 gw_333) rfl rfl rfl (by decide +kernel) ⟨Nat.le_of_ble_eq_true rfl, Nat.le_of_ble_eq_true rfl⟩) (pre_roV hP hK hN (ci := 0) (k := 0) rfl rfl) rfl rfl hl.1 rfl (lv_room (Nat.le_of_ble_eq_true rfl)) d_S_count_62 ⟨Nat.le_of_ble_eq_true rfl, Nat.le_of_ble_eq_true rfl⟩).run (fun r1 hr1 => ?_)
        refine W.widen (k := 1) (n := 6) (Nat.le_of_ble_eq_true rfl) (Nat.le_of_ble_eq_true rfl) ?_
        exact vx_ret (W.iret (v := r1) hx hb hr (fun t ht hW => ⟨⟨_, _, rfl, ⟨8, by decide, rfl, hr1, rfl⟩, at2.of hP hK hD ht hW⟩, hS.F ht⟩) hS.2.2 d_S_count_65)
      · refine lv_tableIn (off := 80) (tgt := 81) hx hb d_S_count_1 (by decide +kernel) (by decide +kernel) (by decide +kernel) (by decide) ?_
        refine lv_aload_n hx hb d_S_count_81 rfl (lv_at hl 0 rfl) ?_
        refine va_get (D := D) (ci := 0) (v := .int w) (C := R_S) (T := F_S) (N := 7) hx hb hg gi_S hown hK hP 0 rfl rfl 5 (by decide) (hg _ gw_86) (fun _ h9 => h9) rfl d_S_count_82 ?_
        refine W.widen (k := 1) (n := 6) (Nat.le_of_ble_eq_true rfl) (Nat.le_of_ble_eq_true rfl) ?_
        exact vx_ret (W.iret (v := w) hx hb hr (fun t ht hW => ⟨⟨_, _, rfl, ⟨9, by decide, rfl, rfl, rfl⟩, at2.of hP hK hD ht hW⟩, hS.F ht⟩) hS.2.2 d_S_count_85)
      · refine lv_tableIn (off := 85) (tgt := 86) hx hb d_S_count_1 (by decide +kernel) (by decide +kernel) (by decide +kernel) (by decide) ?_
        refine lv_aload_n hx hb d_S_count_86 rfl (lv_at hl 0 rfl) ?_
        refine va_get (D := D) (ci := 0) (v := .int z1) (C := R_S) (T := F_S) (N := 7) hx hb hg gi_S hown hK hP 0 rfl rfl 6 (by decide) (hg _ gw_87) (fun _ h9 => h9) rfl d_S_count_87 ?_
        refine W.widen (k := 1) (n := 6) (Nat.le_of_ble_eq_true rfl) (Nat.le_of_ble_eq_true rfl) ?_
        exact vx_ret (W.iret (v := z1) hx hb hr (fun t ht hW => ⟨⟨_, _, rfl, ⟨10, by decide, rfl, rfl, rfl⟩, at2.of hP hK hD ht hW⟩, hS.F ht⟩) hS.2.2 d_S_count_90)
    · refine lv_tableOut (tgt := 91) hx hb d_S_count_1 (Or.inr (by have q : ¬ n.toInt ≤ 10 := fun q => c1 (Int32.le_iff_toInt_le.mpr (by rw [show (10 : Int32).toInt = 10 by decide]; exact q)); omega)) (by decide) ?_
      obtain ⟨sa, hstr⟩ := hE.2.2 (94, "what to count is not 0 .. 10") (by decide)
      exact vx_throwS (own := R_S) (cls := "java/lang/IllegalArgumentException") (names := xNm) hx hb hl9 hown (by decide +kernel) (by decide +kernel) (hg _ gw_142) (hg _ gw_32) hstr (vx_hat (fun w hw => hg w (xg_17 w hw)) xb_17 (xBd_ok hN (by decide))) xo_17 (hE.1.narrow hAN) (hE.2.1.narrow hAN) hS (hl.1.trans hml.symm) d_S_count_91 d_S_count_94 d_S_count_95 d_S_count_97 d_S_count_100 (fun x hx => (hEx x hx).elim) (Nat.le_of_ble_eq_true rfl) (Nat.le_of_ble_eq_true rfl) (Nat.le_of_ble_eq_true rfl) (Nat.le_of_ble_eq_true rfl) hlocks (fun t ha hsz hk => ⟨("java/lang/IllegalArgumentException", _), ⟨rfl, ⟨rfl, Or.inr c1⟩⟩, ⟨rfl, hP.kept (fun k q hq => hk q.1 (hP k q hq).lt), va_K.moved ha hK, hD⟩, Nat.le_trans hS.1 hsz, fun q h1 h2 => (hk q (Nat.lt_of_lt_of_le h1 hS.1)).trans (hS.2.1 q h1 h2)⟩) hS.2.2 (Nat.le_of_ble_eq_true rfl) (Nat.le_of_ble_eq_true rfl)
set_option maxHeartbeats 4000000 in
set_option maxRecDepth 100000 in
theorem c_S_take (l : Launch) (hl9 : l.stackTraces = false) (D : va_G) (ty : tyL) (N0 sz : Nat) (h cn f : Nat) (v w z1 : Int32) (p0 s0 : List AP) (n : Int32) (hBd : Bd (p0 ++ s0)) : vx_Met l y_S_take (Cond.code y_S_take b_S_take 3 (some .int) :: GW) ({ frames := 6, cells := 1, slots := 6, locals := 82 }) (va_Pc [.ref h, .int n] (at1 D ty N0 sz (scell h cn (hdO (p0 ++ s0) none) (hdO s0 none) f v w z1 :: chG (p0 ++ s0) none))) (va_Qi (fun r ws' => ∃ k : Nat, 3 ≤ k ∧ k ≤ 2000 ∧ n = nI k ∧ ((wtf k (p0 ++ s0) none = none ∧ r = 0 ∧ ws' = scell h cn (hdO (p0 ++ s0) none) (hdO s0 none) f (v + 1) w z1 :: chG (p0 ++ s0) none) ∨ ∃ x l1 l2, wtf k (p0 ++ s0) none = some x ∧ p0 ++ s0 = l1 ++ x :: l2 ∧ r = nI x.2.1 ∧ ((x.2.2.1 ≤ k ∧ ws' = scell h cn (hdO (p0 ++ s0) none) (hdO s0 none) f v w z1 :: chG (l1 ++ (x.1, x.2.1, x.2.2.1, true, tkM s0 x, x.2.2.2.2.2) :: l2) none) ∨ (k < x.2.2.1 ∧ ∃ q : Nat, ws' = scell h cn (hdO (p0 ++ s0) none) (hdO s0 none) (f + 1) v w z1 :: chG (l1 ++ (x.1, x.2.1, k, true, tkM s0 x, x.2.2.2.2.2) :: (q, x.2.1 + k, x.2.2.1 - k, false, false, f + 1) :: l2) none)))) (at2 D ty (va_A (scell h cn (hdO (p0 ++ s0) none) (hdO s0 none) f v w z1 :: chG (p0 ++ s0) none) sz)) (va_A (scell h cn (hdO (p0 ++ s0) none) (hdO s0 none) f v w z1 :: chG (p0 ++ s0) none) sz)) (vx_X (fun z : String × va_W => z.2 = (scell h cn (hdO (p0 ++ s0) none) (hdO s0 none) f v w z1 :: chG (p0 ++ s0) none) ∧ z.1 = "java/lang/IllegalArgumentException" ∧ (n < 3 ∨ ¬ n ≤ 2000)) (fun E z t => E = z.1 ∧ at2 D ty (va_A (scell h cn (hdO (p0 ++ s0) none) (hdO s0 none) f v w z1 :: chG (p0 ++ s0) none) sz) z.2 t) (va_A (scell h cn (hdO (p0 ++ s0) none) (hdO s0 none) f v w z1 :: chG (p0 ++ s0) none) sz)) 1 6 (va_A (scell h cn (hdO (p0 ++ s0) none) (hdO s0 none) f v w z1 :: chG (p0 ++ s0) none) sz) := by
  refine vx_ofW (cc := b_S_take) (maxL := 3) (ret := (some .int)) (by decide) rfl ?_
  intro p e s m args below meth c s₁ B hml hEx hv
  obtain ⟨rfl, hsz, hN0, ⟨hP, hK, hN⟩, hD0, hE⟩ := hv
  subst hsz
  have hD := hD0.self (sz := s.heap.size)
  have hAN := sw_AN hD0 hN0
  generalize hAe : va_A (scell h cn (hdO (p0 ++ s0) none) (hdO s0 none) f v w z1 :: chG (p0 ++ s0) none) s.heap.size = A at hD hAN ⊢
  have hA : ∀ q : Nat, s.heap.size ≤ q → A q := fun q h => by rw [← hAe]; exact Or.inr h
  have hS : va_S A s.heap s.heap [] := va_S.rf
  have hP : va_P D classes (scell h cn (hdO (p0 ++ s0) none) (hdO s0 none) f v w z1 :: chG (p0 ++ s0) none) s.heap := hP
  have hx := B.exec
  have hb := B.bytes
  have hr := B.returns
  have hg : ∀ w ∈ GW, w.before _ s = true := fun w h => atoms_spec (ws := Cond.code y_S_take b_S_take 3 (some .int) :: GW) B.pre w (List.mem_cons_of_mem _ h)
  have hown : s.vm.findClass R_S = some m.cls := findClass_of_methodNamed B.named
  have hlocks := B.notSynchronized
  have hl := lv_entry ([.ref h, .int n]) (n := 3) (Nat.le_of_ble_eq_true rfl)
  rw [lg_entry_eq]
  generalize (lg_sl ([.ref h, .int n]) ++ List.replicate (3 - (lg_sl ([.ref h, .int n])).length) Slot.unset).toArray = ls at hl ⊢
  replace hl : lv_has ls 3 [(0, .ref h), (1, .int n)] := hl
  refine lv_iload_n hx hb d_S_take_0 rfl (lv_at hl 1 rfl) ?_
  refine lv_iconst (v := 3) hx hb d_S_take_1 (by decide) ?_
  refine lv_icmp_lt (tgt := 12) hx hb d_S_take_2 (by decide) (fun c_2 => ?_) (fun c_2 => ?_)
  · obtain ⟨sa, hstr⟩ := hE.2.2 (24, "the size is not 3 .. 2000") (by decide)
    exact vx_throwS (own := R_S) (cls := "java/lang/IllegalArgumentException") (names := xNm) hx hb hl9 hown (by decide +kernel) (by decide +kernel) (hg _ gw_142) (hg _ gw_32) hstr (vx_hat (fun w hw => hg w (xg_17 w hw)) xb_17 (xBd_ok hN (by decide))) xo_17 (hE.1.narrow hAN) (hE.2.1.narrow hAN) hS (hl.1.trans hml.symm) d_S_take_12 d_S_take_15 d_S_take_16 d_S_take_18 d_S_take_21 (fun x hx => (hEx x hx).elim) (Nat.le_of_ble_eq_true rfl) (Nat.le_of_ble_eq_true rfl) (Nat.le_of_ble_eq_true rfl) (Nat.le_of_ble_eq_true rfl) hlocks (fun t ha hsz hk => ⟨("java/lang/IllegalArgumentException", _), ⟨rfl, ⟨rfl, Or.inl c_2⟩⟩, ⟨rfl, hP.kept (fun k q hq => hk q.1 (hP k q hq).lt), va_K.moved ha hK, hD⟩, Nat.le_trans hS.1 hsz, fun q h1 h2 => (hk q (Nat.lt_of_lt_of_le h1 hS.1)).trans (hS.2.1 q h1 h2)⟩) hS.2.2 (Nat.le_of_ble_eq_true rfl) (Nat.le_of_ble_eq_true rfl)
  · refine lv_iload_n hx hb d_S_take_5 rfl (lv_at hl 1 rfl) ?_
    refine lv_sipush (v := 2000) hx hb d_S_take_6 (by decide) ?_
    refine lv_icmp_le (tgt := 22) hx hb d_S_take_9 (by decide) (fun c_9 => ?_) (fun c_9 => ?_)
    · obtain ⟨k, hk1, hk2, rfl⟩ := rng (lo := 3) (hi := 2000) c_2 c_9 (by decide) (by decide)
      refine lv_aload_n hx hb d_S_take_22 rfl (lv_at hl 0 rfl) ?_
      refine lv_iload_n hx hb d_S_take_23 rfl (lv_at hl 1 rfl) ?_
      refine va_csq (va_runV (As := [.int (nI k)]) (rest := []) ⟨hx, hb, hml, hown, hg⟩ (c_S_whatIsTakenFor l D ty h cn (hdO s0 none) f v w z1 (p0 ++ s0) k hBd (by omega)) (cwV 1 hg (gw_V gw_218 gw_220 gw_6 gw_26 gw_221) rfl rfl rfl (by decide +kernel) ⟨Nat.le_of_ble_eq_true rfl, Nat.le_of_ble_eq_true rfl⟩) (pre_roV hP hK hN (ci := 0) (k := 0) rfl rfl) rfl rfl hl.1 rfl (lv_room (Nat.le_of_ble_eq_true rfl)) d_S_take_24 ⟨Nat.le_of_ble_eq_true rfl, Nat.le_of_ble_eq_true rfl⟩).run (fun r1 hr1 => ?_)
      rcases hwt : wtf k (p0 ++ s0) none with _ | x
      · rw [hwt] at hr1
        replace hr1 : r1 = none := hr1
        subst hr1
        refine lv_astore_nN (lv' := [(2, .null), (0, .ref h), (1, .int (nI k))]) hx hb d_S_take_27 rfl hl (by decide) rfl (fun ls hl => ?_)
        refine lv_aload_nN hx hb d_S_take_28 rfl (lv_at hl 0 rfl) ?_
        refine lv_ifnonnullN hx hb d_S_take_29 ?_
        refine lv_aload_n hx hb d_S_take_32 rfl (lv_at hl 1 rfl) ?_
        refine lv_dup hx hb d_S_take_33 rfl ?_
        refine va_get (D := D) (ci := 0) (v := .int v) (C := R_S) (T := F_S) (N := 7) hx hb hg gi_S hown hK hP 0 rfl rfl 4 (by decide) (hg _ gw_85) (fun _ h9 => h9) rfl d_S_take_34 ?_
        refine lv_iconst (v := 1) hx hb d_S_take_37 (by decide) ?_
        refine lv_iadd hx hb d_S_take_38 ?_
        refine va_put (D := D) (ci := 0) (v := .int (v + 1)) (ty := .int) (C := R_S) (T := F_S) (N := 7) hx hb hg gi_S t_S t_S_ok n_S hown hK hP hD hS 0 rfl rfl 4 (by decide) (hg _ gw_85) (fun _ h9 => h9) rfl (by decide +kernel) rfl rfl (Nat.le_of_ble_eq_true rfl) d_S_take_39 (fun H locs hP hD hS => ?_)
        replace hP : va_P D classes ((h, .inr (0, [.int (nI cn), va_rf (hdO (p0 ++ s0) none), va_rf (hdO s0 none), .long (lN f), .int (v + 1), .int w, .int z1])) :: chG (p0 ++ s0) none) _ := hP
        replace hD : va_D A ((h, .inr (0, [.int (nI cn), va_rf (hdO (p0 ++ s0) none), va_rf (hdO s0 none), .long (lN f), .int (v + 1), .int w, .int z1])) :: chG (p0 ++ s0) none) := hD
        refine lv_iconst (v := 0) hx hb d_S_take_42 (by decide) ?_
        refine W.widen (k := 1) (n := 6) (Nat.le_of_ble_eq_true rfl) (Nat.le_of_ble_eq_true rfl) ?_
        exact vx_ret (W.iret (v := 0) hx hb hr (fun t ht hW => ⟨⟨_, _, rfl, ⟨k, hk1, hk2, rfl, Or.inl ⟨hwt, rfl, rfl⟩⟩, at2.of hP hK hD ht hW⟩, hS.F ht⟩) hS.2.2 d_S_take_43)
      · rw [hwt] at hr1
        replace hr1 : r1 = some x.1 := hr1
        subst hr1
        have hxL : x ∈ p0 ++ s0 := (wtf_mem hwt).resolve_right (fun h9 => by cases h9)
        obtain ⟨hb1, hb2, hb3⟩ := hBd x hxL
        obtain ⟨l1, l2, hL9⟩ := List.append_of_mem hxL
        refine lv_astore_n (lv' := [(2, .ref x.1), (0, .ref h), (1, .int (nI k))]) hx hb d_S_take_27 rfl hl (by decide) rfl (fun ls hl => ?_)
        refine lv_aload_n hx hb d_S_take_28 rfl (lv_at hl 0 rfl) ?_
        refine lv_ifnonnull (tgt := 44) hx hb d_S_take_29 (by decide) ?_
        refine lv_aload_n hx hb d_S_take_44 rfl (lv_at hl 1 rfl) ?_
        refine lv_aload_n hx hb d_S_take_45 rfl (lv_at hl 0 rfl) ?_
        refine lv_iload_n hx hb d_S_take_46 rfl (lv_at hl 2 rfl) ?_
        rw [hL9, chG_mid] at hP hD
        replace hP : va_P D classes ((h, .inr (0, [.int (nI cn), va_rf (hdO (l1 ++ x :: l2) none), va_rf (hdO s0 none), .long (lN f), .int v, .int w, .int z1])) :: ((chG l1 (some x.1)) ++ ((x.1, .inr (1, [.int (nI x.2.1), .int (nI x.2.2.1), .int (bI x.2.2.2.1), .int (bI x.2.2.2.2.1), .long (lN x.2.2.2.2.2), va_rf (hdO l2 none)])) :: chG l2 none))) _ := hP
        replace hD : va_D A ((h, .inr (0, [.int (nI cn), va_rf (hdO (l1 ++ x :: l2) none), va_rf (hdO s0 none), .long (lN f), .int v, .int w, .int z1])) :: ((chG l1 (some x.1)) ++ ((x.1, .inr (1, [.int (nI x.2.1), .int (nI x.2.2.1), .int (bI x.2.2.2.1), .int (bI x.2.2.2.2.1), .long (lN x.2.2.2.2.2), va_rf (hdO l2 none)])) :: chG l2 none))) := hD
        have hFc := sw_free hD hS hA
        refine va_callv (va_runV (As := [.ref x.1, .int (nI k)]) (rest := []) ⟨hx, hb, hml, hown, hg⟩ (c_S_cutTo l D ty N0 _ h cn (hdO (l1 ++ x :: l2) none) (hdO s0 none) f v w z1 (chG l1 (some x.1)) (chG l2 none) x (hdO l2 none) k (by omega) (by omega)) (cwV 2 hg (gw_V gw_229 gw_231 gw_8 gw_26 gw_232) rfl rfl rfl (by decide +kernel) ⟨Nat.le_of_ble_eq_true rfl, Nat.le_of_ble_eq_true rfl⟩) (pre_wrV hP hK hN hD hS hAN hN0 hE (ci := 0) (k := 0) rfl rfl) rfl rfl hl.1 rfl (lv_room (Nat.le_of_ble_eq_true rfl)) d_S_take_47 ⟨Nat.le_of_ble_eq_true rfl, Nat.le_of_ble_eq_true rfl⟩) hS (fun q _ h => hFc q h) hFc (fun u t H locs ht hvm hw hB hz1 hk1 hS => ?_)
        obtain ⟨hP, hK1, hD1⟩ := hB
        rw [ht] at hP
        have hD := hD1.weaken (fun _ _ _ h => hFc _ h)
        clear hK1 hD1 hFc hk1 hz1
        rcases hw with ⟨hle, rfl⟩ | ⟨hlt, q, rfl⟩
        · replace hP : va_P D classes ((h, .inr (0, [.int (nI cn), va_rf (hdO (l1 ++ x :: l2) none), va_rf (hdO s0 none), .long (lN f), .int v, .int w, .int z1])) :: ((chG l1 (some x.1)) ++ ((x.1, .inr (1, [.int (nI x.2.1), .int (nI x.2.2.1), .int (bI x.2.2.2.1), .int (bI x.2.2.2.2.1), .long (lN x.2.2.2.2.2), va_rf (hdO l2 none)])) :: chG l2 none))) _ := hP
          replace hD : va_D A ((h, .inr (0, [.int (nI cn), va_rf (hdO (l1 ++ x :: l2) none), va_rf (hdO s0 none), .long (lN f), .int v, .int w, .int z1])) :: ((chG l1 (some x.1)) ++ ((x.1, .inr (1, [.int (nI x.2.1), .int (nI x.2.2.1), .int (bI x.2.2.2.1), .int (bI x.2.2.2.2.1), .long (lN x.2.2.2.2.2), va_rf (hdO l2 none)])) :: chG l2 none))) := hD
          refine lv_aload_n hx hb d_S_take_50 rfl (lv_at hl 0 rfl) ?_
          refine lv_iconst (v := 1) hx hb d_S_take_51 (by decide) ?_
          refine va_putN (D := D) (ci := 1) (v := .int 1) (ty := .boolean) (C := R_P) (T := F_P) (N := 6) hx hb hg gi_P t_P t_P_ok n_P hown hK hP hD hS ((chG l1 (some x.1)).length + 1) (sw_get1 _ _ _ _) rfl 2 (by decide) (va_Nw.use rfl (hN.1 (37, "used", "Z") (by decide))) (fun _ h9 => h9) rfl (by decide +kernel) rfl rfl (Nat.le_of_ble_eq_true rfl) d_S_take_52 (fun H locs hP hD hS => ?_)
          rw [sw_set1] at hP hD
          replace hP : va_P D classes ((h, .inr (0, [.int (nI cn), va_rf (hdO (l1 ++ x :: l2) none), va_rf (hdO s0 none), .long (lN f), .int v, .int w, .int z1])) :: ((chG l1 (some x.1)) ++ ((x.1, .inr (1, [.int (nI x.2.1), .int (nI x.2.2.1), .int 1, .int (bI x.2.2.2.2.1), .long (lN x.2.2.2.2.2), va_rf (hdO l2 none)])) :: chG l2 none))) _ := hP
          replace hD : va_D A ((h, .inr (0, [.int (nI cn), va_rf (hdO (l1 ++ x :: l2) none), va_rf (hdO s0 none), .long (lN f), .int v, .int w, .int z1])) :: ((chG l1 (some x.1)) ++ ((x.1, .inr (1, [.int (nI x.2.1), .int (nI x.2.2.1), .int 1, .int (bI x.2.2.2.2.1), .long (lN x.2.2.2.2.2), va_rf (hdO l2 none)])) :: chG l2 none))) := hD
          refine lv_aload_n hx hb d_S_take_55 rfl (lv_at hl 0 rfl) ?_
          refine lv_aload_n hx hb d_S_take_56 rfl (lv_at hl 1 rfl) ?_
          rcases s0 with _ | ⟨y, s1⟩
          · replace hP : va_P D classes ((h, .inr (0, [.int (nI cn), va_rf (hdO (l1 ++ x :: l2) none), .null, .long (lN f), .int v, .int w, .int z1])) :: ((chG l1 (some x.1)) ++ ((x.1, .inr (1, [.int (nI x.2.1), .int (nI x.2.2.1), .int 1, .int (bI x.2.2.2.2.1), .long (lN x.2.2.2.2.2), va_rf (hdO l2 none)])) :: chG l2 none))) _ := hP
            replace hD : va_D A ((h, .inr (0, [.int (nI cn), va_rf (hdO (l1 ++ x :: l2) none), .null, .long (lN f), .int v, .int w, .int z1])) :: ((chG l1 (some x.1)) ++ ((x.1, .inr (1, [.int (nI x.2.1), .int (nI x.2.2.1), .int 1, .int (bI x.2.2.2.2.1), .long (lN x.2.2.2.2.2), va_rf (hdO l2 none)])) :: chG l2 none))) := hD
            refine va_get (D := D) (ci := 0) (v := .null) (C := R_S) (T := F_S) (N := 7) hx hb hg gi_S hown hK hP 0 rfl rfl 2 (by decide) (hg _ gw_83) (fun _ h9 => h9) rfl d_S_take_57 ?_
            refine lv_ifnullN (tgt := 81) hx hb d_S_take_60 (by decide) ?_
            refine lv_iconst (v := 0) hx hb d_S_take_81 (by decide) ?_
            refine lv_topi (fun y1 ey1 => ?_)
            obtain rfl : y1 = bI (tkM [] x) := ey1.trans rfl
            clear ey1
            refine va_putN (D := D) (ci := 1) (v := .int (bI (tkM [] x))) (ty := .boolean) (C := R_P) (T := F_P) (N := 6) hx hb hg gi_P t_P t_P_ok n_P hown hK hP hD hS ((chG l1 (some x.1)).length + 1) (sw_get1 _ _ _ _) rfl 3 (by decide) (va_Nw.use rfl (hN.1 (50, "marked", "Z") (by decide))) (fun _ h9 => h9) rfl (by decide +kernel) (bI_nar _) (bI_fit _) (Nat.le_of_ble_eq_true rfl) d_S_take_82 (fun H locs hP hD hS => ?_)
            rw [sw_set1] at hP hD
            replace hP : va_P D classes ((h, .inr (0, [.int (nI cn), va_rf (hdO (l1 ++ x :: l2) none), .null, .long (lN f), .int v, .int w, .int z1])) :: ((chG l1 (some x.1)) ++ ((x.1, .inr (1, [.int (nI x.2.1), .int (nI x.2.2.1), .int 1, .int (bI (tkM [] x)), .long (lN x.2.2.2.2.2), va_rf (hdO l2 none)])) :: chG l2 none))) _ := hP
            replace hD : va_D A ((h, .inr (0, [.int (nI cn), va_rf (hdO (l1 ++ x :: l2) none), .null, .long (lN f), .int v, .int w, .int z1])) :: ((chG l1 (some x.1)) ++ ((x.1, .inr (1, [.int (nI x.2.1), .int (nI x.2.2.1), .int 1, .int (bI (tkM [] x)), .long (lN x.2.2.2.2.2), va_rf (hdO l2 none)])) :: chG l2 none))) := hD
            refine lv_aload_n hx hb d_S_take_85 rfl (lv_at hl 0 rfl) ?_
            refine va_getN (D := D) (ci := 1) (v := .int (nI x.2.1)) (C := R_P) (T := F_P) (N := 6) hx hb hg gi_P hown hK hP ((chG l1 (some x.1)).length + 1) (sw_get1 _ _ _ _) rfl 0 (by decide) (va_Nw.use rfl (hN.1 (47, "begin", "I") (by decide))) (fun _ h9 => h9) rfl d_S_take_86 ?_
            refine W.widen (k := 1) (n := 6) (Nat.le_of_ble_eq_true rfl) (Nat.le_of_ble_eq_true rfl) ?_
            exact vx_ret (W.iret (v := (nI x.2.1)) hx hb hr (fun t ht hW => ⟨⟨_, _, rfl, ⟨k, hk1, hk2, rfl, Or.inr ⟨x, l1, l2, hwt, hL9, rfl, Or.inl ⟨hle, by rw [hL9, chG_mid]; rfl⟩⟩⟩, at2.of hP hK hD ht hW⟩, hS.F ht⟩) hS.2.2 d_S_take_89)
          · replace hP : va_P D classes ((h, .inr (0, [.int (nI cn), va_rf (hdO (l1 ++ x :: l2) none), .ref y.1, .long (lN f), .int v, .int w, .int z1])) :: ((chG l1 (some x.1)) ++ ((x.1, .inr (1, [.int (nI x.2.1), .int (nI x.2.2.1), .int 1, .int (bI x.2.2.2.2.1), .long (lN x.2.2.2.2.2), va_rf (hdO l2 none)])) :: chG l2 none))) _ := hP
            replace hD : va_D A ((h, .inr (0, [.int (nI cn), va_rf (hdO (l1 ++ x :: l2) none), .ref y.1, .long (lN f), .int v, .int w, .int z1])) :: ((chG l1 (some x.1)) ++ ((x.1, .inr (1, [.int (nI x.2.1), .int (nI x.2.2.1), .int 1, .int (bI x.2.2.2.2.1), .long (lN x.2.2.2.2.2), va_rf (hdO l2 none)])) :: chG l2 none))) := hD
            have hy : ∃ tl, ((y.1, Sum.inr (1, Value.int (nI y.2.1) :: tl)) : Nat × va_E) ∈ ((h, .inr (0, [.int (nI cn), va_rf (hdO (l1 ++ x :: l2) none), .ref y.1, .long (lN f), .int v, .int w, .int z1])) :: ((chG l1 (some x.1)) ++ ((x.1, .inr (1, [.int (nI x.2.1), .int (nI x.2.2.1), .int 1, .int (bI x.2.2.2.2.1), .long (lN x.2.2.2.2.2), va_rf (hdO l2 none)])) :: chG l2 none)) : va_W) := by
              have hyL : y ∈ l1 ++ x :: l2 := by rw [← hL9]; simp
              rcases List.mem_append.mp hyL with h9 | h9
              · obtain ⟨n9, h8⟩ := chG_memG (some x.1) h9
                exact ⟨_, List.mem_cons_of_mem _ (List.mem_append_left _ h8)⟩
              · rcases List.mem_cons.mp h9 with h9 | h9
                · rw [h9]
                  exact ⟨_, List.mem_cons_of_mem _ (List.mem_append_right _ List.mem_cons_self)⟩
                · obtain ⟨n9, h8⟩ := chG_memG none h9
                  exact ⟨_, List.mem_cons_of_mem _ (List.mem_append_right _ (List.mem_cons_of_mem _ h8))⟩
            obtain ⟨tl, hy⟩ := hy
            obtain ⟨iy, hyi⟩ := List.mem_iff_getElem?.mp hy
            have hyb := (hBd y (by simp)).1
            refine va_get (D := D) (ci := 0) (v := .ref y.1) (C := R_S) (T := F_S) (N := 7) hx hb hg gi_S hown hK hP 0 rfl rfl 2 (by decide) (hg _ gw_83) (fun _ h9 => h9) rfl d_S_take_57 ?_
            refine lv_ifnull hx hb d_S_take_60 ?_
            refine lv_aload_n hx hb d_S_take_63 rfl (lv_at hl 0 rfl) ?_
            refine va_getN (D := D) (ci := 1) (v := .int (nI x.2.1)) (C := R_P) (T := F_P) (N := 6) hx hb hg gi_P hown hK hP ((chG l1 (some x.1)).length + 1) (sw_get1 _ _ _ _) rfl 0 (by decide) (va_Nw.use rfl (hN.1 (47, "begin", "I") (by decide))) (fun _ h9 => h9) rfl d_S_take_64 ?_
            refine lv_aload_n hx hb d_S_take_67 rfl (lv_at hl 1 rfl) ?_
            refine va_get (D := D) (ci := 0) (v := .ref y.1) (C := R_S) (T := F_S) (N := 7) hx hb hg gi_S hown hK hP 0 rfl rfl 2 (by decide) (hg _ gw_83) (fun _ h9 => h9) rfl d_S_take_68 ?_
            refine va_getN (D := D) (ci := 1) (v := .int (nI y.2.1)) (C := R_P) (T := F_P) (N := 6) hx hb hg gi_P hown hK hP iy hyi rfl 0 (by decide) (va_Nw.use rfl (hN.1 (47, "begin", "I") (by decide))) (fun _ h9 => h9) rfl d_S_take_71 ?_
            refine lv_icmp_lt (tgt := 81) hx hb d_S_take_74 (by decide) (fun c_74 => ?_) (fun c_74 => ?_)
            · refine lv_iconst (v := 0) hx hb d_S_take_81 (by decide) ?_
              refine lv_topi (fun y2 ey2 => ?_)
              obtain rfl : y2 = bI (tkM (y :: s1) x) := ey2.trans (by simp [tkM, bI, Nat.not_le.mpr ((nI_ltI (by omega) (by omega)).mp c_74)])
              clear ey2
              refine va_putN (D := D) (ci := 1) (v := .int (bI (tkM (y :: s1) x))) (ty := .boolean) (C := R_P) (T := F_P) (N := 6) hx hb hg gi_P t_P t_P_ok n_P hown hK hP hD hS ((chG l1 (some x.1)).length + 1) (sw_get1 _ _ _ _) rfl 3 (by decide) (va_Nw.use rfl (hN.1 (50, "marked", "Z") (by decide))) (fun _ h9 => h9) rfl (by decide +kernel) (bI_nar _) (bI_fit _) (Nat.le_of_ble_eq_true rfl) d_S_take_82 (fun H locs hP hD hS => ?_)
              rw [sw_set1] at hP hD
              replace hP : va_P D classes ((h, .inr (0, [.int (nI cn), va_rf (hdO (l1 ++ x :: l2) none), .ref y.1, .long (lN f), .int v, .int w, .int z1])) :: ((chG l1 (some x.1)) ++ ((x.1, .inr (1, [.int (nI x.2.1), .int (nI x.2.2.1), .int 1, .int (bI (tkM (y :: s1) x)), .long (lN x.2.2.2.2.2), va_rf (hdO l2 none)])) :: chG l2 none))) _ := hP
              replace hD : va_D A ((h, .inr (0, [.int (nI cn), va_rf (hdO (l1 ++ x :: l2) none), .ref y.1, .long (lN f), .int v, .int w, .int z1])) :: ((chG l1 (some x.1)) ++ ((x.1, .inr (1, [.int (nI x.2.1), .int (nI x.2.2.1), .int 1, .int (bI (tkM (y :: s1) x)), .long (lN x.2.2.2.2.2), va_rf (hdO l2 none)])) :: chG l2 none))) := hD
              refine lv_aload_n hx hb d_S_take_85 rfl (lv_at hl 0 rfl) ?_
              refine va_getN (D := D) (ci := 1) (v := .int (nI x.2.1)) (C := R_P) (T := F_P) (N := 6) hx hb hg gi_P hown hK hP ((chG l1 (some x.1)).length + 1) (sw_get1 _ _ _ _) rfl 0 (by decide) (va_Nw.use rfl (hN.1 (47, "begin", "I") (by decide))) (fun _ h9 => h9) rfl d_S_take_86 ?_
              refine W.widen (k := 1) (n := 6) (Nat.le_of_ble_eq_true rfl) (Nat.le_of_ble_eq_true rfl) ?_
              exact vx_ret (W.iret (v := (nI x.2.1)) hx hb hr (fun t ht hW => ⟨⟨_, _, rfl, ⟨k, hk1, hk2, rfl, Or.inr ⟨x, l1, l2, hwt, hL9, rfl, Or.inl ⟨hle, by rw [hL9, chG_mid]; rfl⟩⟩⟩, at2.of hP hK hD ht hW⟩, hS.F ht⟩) hS.2.2 d_S_take_89)
            · refine lv_iconst (v := 1) hx hb d_S_take_77 (by decide) ?_
              refine lv_goto (tgt := 82) hx hb d_S_take_78 (by decide) ?_
              refine lv_topi (fun y3 ey3 => ?_)
              obtain rfl : y3 = bI (tkM (y :: s1) x) := ey3.trans (by simp [tkM, bI, Nat.not_lt.mp (fun h9 => c_74 ((nI_ltI (by omega) (by omega)).mpr h9))])
              clear ey3
              refine va_putN (D := D) (ci := 1) (v := .int (bI (tkM (y :: s1) x))) (ty := .boolean) (C := R_P) (T := F_P) (N := 6) hx hb hg gi_P t_P t_P_ok n_P hown hK hP hD hS ((chG l1 (some x.1)).length + 1) (sw_get1 _ _ _ _) rfl 3 (by decide) (va_Nw.use rfl (hN.1 (50, "marked", "Z") (by decide))) (fun _ h9 => h9) rfl (by decide +kernel) (bI_nar _) (bI_fit _) (Nat.le_of_ble_eq_true rfl) d_S_take_82 (fun H locs hP hD hS => ?_)
              rw [sw_set1] at hP hD
              replace hP : va_P D classes ((h, .inr (0, [.int (nI cn), va_rf (hdO (l1 ++ x :: l2) none), .ref y.1, .long (lN f), .int v, .int w, .int z1])) :: ((chG l1 (some x.1)) ++ ((x.1, .inr (1, [.int (nI x.2.1), .int (nI x.2.2.1), .int 1, .int (bI (tkM (y :: s1) x)), .long (lN x.2.2.2.2.2), va_rf (hdO l2 none)])) :: chG l2 none))) _ := hP
              replace hD : va_D A ((h, .inr (0, [.int (nI cn), va_rf (hdO (l1 ++ x :: l2) none), .ref y.1, .long (lN f), .int v, .int w, .int z1])) :: ((chG l1 (some x.1)) ++ ((x.1, .inr (1, [.int (nI x.2.1), .int (nI x.2.2.1), .int 1, .int (bI (tkM (y :: s1) x)), .long (lN x.2.2.2.2.2), va_rf (hdO l2 none)])) :: chG l2 none))) := hD
              refine lv_aload_n hx hb d_S_take_85 rfl (lv_at hl 0 rfl) ?_
              refine va_getN (D := D) (ci := 1) (v := .int (nI x.2.1)) (C := R_P) (T := F_P) (N := 6) hx hb hg gi_P hown hK hP ((chG l1 (some x.1)).length + 1) (sw_get1 _ _ _ _) rfl 0 (by decide) (va_Nw.use rfl (hN.1 (47, "begin", "I") (by decide))) (fun _ h9 => h9) rfl d_S_take_86 ?_
              refine W.widen (k := 1) (n := 6) (Nat.le_of_ble_eq_true rfl) (Nat.le_of_ble_eq_true rfl) ?_
              exact vx_ret (W.iret (v := (nI x.2.1)) hx hb hr (fun t ht hW => ⟨⟨_, _, rfl, ⟨k, hk1, hk2, rfl, Or.inr ⟨x, l1, l2, hwt, hL9, rfl, Or.inl ⟨hle, by rw [hL9, chG_mid]; rfl⟩⟩⟩, at2.of hP hK hD ht hW⟩, hS.F ht⟩) hS.2.2 d_S_take_89)
        · replace hP : va_P D classes ((h, .inr (0, [.int (nI cn), va_rf (hdO (l1 ++ x :: l2) none), va_rf (hdO s0 none), .long (lN (f + 1)), .int v, .int w, .int z1])) :: ((chG l1 (some x.1)) ++ ((x.1, .inr (1, [.int (nI x.2.1), .int (nI k), .int (bI x.2.2.2.1), .int (bI x.2.2.2.2.1), .long (lN x.2.2.2.2.2), va_rf (some q)])) :: (pcell (q, x.2.1 + k, x.2.2.1 - k, false, false, f + 1) (hdO l2 none) :: chG l2 none)))) _ := hP
          replace hD : va_D A ((h, .inr (0, [.int (nI cn), va_rf (hdO (l1 ++ x :: l2) none), va_rf (hdO s0 none), .long (lN (f + 1)), .int v, .int w, .int z1])) :: ((chG l1 (some x.1)) ++ ((x.1, .inr (1, [.int (nI x.2.1), .int (nI k), .int (bI x.2.2.2.1), .int (bI x.2.2.2.2.1), .long (lN x.2.2.2.2.2), va_rf (some q)])) :: (pcell (q, x.2.1 + k, x.2.2.1 - k, false, false, f + 1) (hdO l2 none) :: chG l2 none)))) := hD
          refine lv_aload_n hx hb d_S_take_50 rfl (lv_at hl 0 rfl) ?_
          refine lv_iconst (v := 1) hx hb d_S_take_51 (by decide) ?_
          refine va_putN (D := D) (ci := 1) (v := .int 1) (ty := .boolean) (C := R_P) (T := F_P) (N := 6) hx hb hg gi_P t_P t_P_ok n_P hown hK hP hD hS ((chG l1 (some x.1)).length + 1) (sw_get1 _ _ _ _) rfl 2 (by decide) (va_Nw.use rfl (hN.1 (37, "used", "Z") (by decide))) (fun _ h9 => h9) rfl (by decide +kernel) rfl rfl (Nat.le_of_ble_eq_true rfl) d_S_take_52 (fun H locs hP hD hS => ?_)
          rw [sw_set1] at hP hD
          replace hP : va_P D classes ((h, .inr (0, [.int (nI cn), va_rf (hdO (l1 ++ x :: l2) none), va_rf (hdO s0 none), .long (lN (f + 1)), .int v, .int w, .int z1])) :: ((chG l1 (some x.1)) ++ ((x.1, .inr (1, [.int (nI x.2.1), .int (nI k), .int 1, .int (bI x.2.2.2.2.1), .long (lN x.2.2.2.2.2), va_rf (some q)])) :: (pcell (q, x.2.1 + k, x.2.2.1 - k, false, false, f + 1) (hdO l2 none) :: chG l2 none)))) _ := hP
          replace hD : va_D A ((h, .inr (0, [.int (nI cn), va_rf (hdO (l1 ++ x :: l2) none), va_rf (hdO s0 none), .long (lN (f + 1)), .int v, .int w, .int z1])) :: ((chG l1 (some x.1)) ++ ((x.1, .inr (1, [.int (nI x.2.1), .int (nI k), .int 1, .int (bI x.2.2.2.2.1), .long (lN x.2.2.2.2.2), va_rf (some q)])) :: (pcell (q, x.2.1 + k, x.2.2.1 - k, false, false, f + 1) (hdO l2 none) :: chG l2 none)))) := hD
          refine lv_aload_n hx hb d_S_take_55 rfl (lv_at hl 0 rfl) ?_
          refine lv_aload_n hx hb d_S_take_56 rfl (lv_at hl 1 rfl) ?_
          rcases s0 with _ | ⟨y, s1⟩
          · replace hP : va_P D classes ((h, .inr (0, [.int (nI cn), va_rf (hdO (l1 ++ x :: l2) none), .null, .long (lN (f + 1)), .int v, .int w, .int z1])) :: ((chG l1 (some x.1)) ++ ((x.1, .inr (1, [.int (nI x.2.1), .int (nI k), .int 1, .int (bI x.2.2.2.2.1), .long (lN x.2.2.2.2.2), va_rf (some q)])) :: (pcell (q, x.2.1 + k, x.2.2.1 - k, false, false, f + 1) (hdO l2 none) :: chG l2 none)))) _ := hP
            replace hD : va_D A ((h, .inr (0, [.int (nI cn), va_rf (hdO (l1 ++ x :: l2) none), .null, .long (lN (f + 1)), .int v, .int w, .int z1])) :: ((chG l1 (some x.1)) ++ ((x.1, .inr (1, [.int (nI x.2.1), .int (nI k), .int 1, .int (bI x.2.2.2.2.1), .long (lN x.2.2.2.2.2), va_rf (some q)])) :: (pcell (q, x.2.1 + k, x.2.2.1 - k, false, false, f + 1) (hdO l2 none) :: chG l2 none)))) := hD
            refine va_get (D := D) (ci := 0) (v := .null) (C := R_S) (T := F_S) (N := 7) hx hb hg gi_S hown hK hP 0 rfl rfl 2 (by decide) (hg _ gw_83) (fun _ h9 => h9) rfl d_S_take_57 ?_
            refine lv_ifnullN (tgt := 81) hx hb d_S_take_60 (by decide) ?_
            refine lv_iconst (v := 0) hx hb d_S_take_81 (by decide) ?_
            refine lv_topi (fun y4 ey4 => ?_)
            obtain rfl : y4 = bI (tkM [] x) := ey4.trans rfl
            clear ey4
            refine va_putN (D := D) (ci := 1) (v := .int (bI (tkM [] x))) (ty := .boolean) (C := R_P) (T := F_P) (N := 6) hx hb hg gi_P t_P t_P_ok n_P hown hK hP hD hS ((chG l1 (some x.1)).length + 1) (sw_get1 _ _ _ _) rfl 3 (by decide) (va_Nw.use rfl (hN.1 (50, "marked", "Z") (by decide))) (fun _ h9 => h9) rfl (by decide +kernel) (bI_nar _) (bI_fit _) (Nat.le_of_ble_eq_true rfl) d_S_take_82 (fun H locs hP hD hS => ?_)
            rw [sw_set1] at hP hD
            replace hP : va_P D classes ((h, .inr (0, [.int (nI cn), va_rf (hdO (l1 ++ x :: l2) none), .null, .long (lN (f + 1)), .int v, .int w, .int z1])) :: ((chG l1 (some x.1)) ++ ((x.1, .inr (1, [.int (nI x.2.1), .int (nI k), .int 1, .int (bI (tkM [] x)), .long (lN x.2.2.2.2.2), va_rf (some q)])) :: (pcell (q, x.2.1 + k, x.2.2.1 - k, false, false, f + 1) (hdO l2 none) :: chG l2 none)))) _ := hP
            replace hD : va_D A ((h, .inr (0, [.int (nI cn), va_rf (hdO (l1 ++ x :: l2) none), .null, .long (lN (f + 1)), .int v, .int w, .int z1])) :: ((chG l1 (some x.1)) ++ ((x.1, .inr (1, [.int (nI x.2.1), .int (nI k), .int 1, .int (bI (tkM [] x)), .long (lN x.2.2.2.2.2), va_rf (some q)])) :: (pcell (q, x.2.1 + k, x.2.2.1 - k, false, false, f + 1) (hdO l2 none) :: chG l2 none)))) := hD
            refine lv_aload_n hx hb d_S_take_85 rfl (lv_at hl 0 rfl) ?_
            refine va_getN (D := D) (ci := 1) (v := .int (nI x.2.1)) (C := R_P) (T := F_P) (N := 6) hx hb hg gi_P hown hK hP ((chG l1 (some x.1)).length + 1) (sw_get1 _ _ _ _) rfl 0 (by decide) (va_Nw.use rfl (hN.1 (47, "begin", "I") (by decide))) (fun _ h9 => h9) rfl d_S_take_86 ?_
            refine W.widen (k := 1) (n := 6) (Nat.le_of_ble_eq_true rfl) (Nat.le_of_ble_eq_true rfl) ?_
            exact vx_ret (W.iret (v := (nI x.2.1)) hx hb hr (fun t ht hW => ⟨⟨_, _, rfl, ⟨k, hk1, hk2, rfl, Or.inr ⟨x, l1, l2, hwt, hL9, rfl, Or.inr ⟨hlt, q, by rw [hL9, chG_mid]; rfl⟩⟩⟩, at2.of hP hK hD ht hW⟩, hS.F ht⟩) hS.2.2 d_S_take_89)
          · replace hP : va_P D classes ((h, .inr (0, [.int (nI cn), va_rf (hdO (l1 ++ x :: l2) none), .ref y.1, .long (lN (f + 1)), .int v, .int w, .int z1])) :: ((chG l1 (some x.1)) ++ ((x.1, .inr (1, [.int (nI x.2.1), .int (nI k), .int 1, .int (bI x.2.2.2.2.1), .long (lN x.2.2.2.2.2), va_rf (some q)])) :: (pcell (q, x.2.1 + k, x.2.2.1 - k, false, false, f + 1) (hdO l2 none) :: chG l2 none)))) _ := hP
            replace hD : va_D A ((h, .inr (0, [.int (nI cn), va_rf (hdO (l1 ++ x :: l2) none), .ref y.1, .long (lN (f + 1)), .int v, .int w, .int z1])) :: ((chG l1 (some x.1)) ++ ((x.1, .inr (1, [.int (nI x.2.1), .int (nI k), .int 1, .int (bI x.2.2.2.2.1), .long (lN x.2.2.2.2.2), va_rf (some q)])) :: (pcell (q, x.2.1 + k, x.2.2.1 - k, false, false, f + 1) (hdO l2 none) :: chG l2 none)))) := hD
            have hy : ∃ tl, ((y.1, Sum.inr (1, Value.int (nI y.2.1) :: tl)) : Nat × va_E) ∈ ((h, .inr (0, [.int (nI cn), va_rf (hdO (l1 ++ x :: l2) none), .ref y.1, .long (lN (f + 1)), .int v, .int w, .int z1])) :: ((chG l1 (some x.1)) ++ ((x.1, .inr (1, [.int (nI x.2.1), .int (nI k), .int 1, .int (bI x.2.2.2.2.1), .long (lN x.2.2.2.2.2), va_rf (some q)])) :: (pcell (q, x.2.1 + k, x.2.2.1 - k, false, false, f + 1) (hdO l2 none) :: chG l2 none))) : va_W) := by
              have hyL : y ∈ l1 ++ x :: l2 := by rw [← hL9]; simp
              rcases List.mem_append.mp hyL with h9 | h9
              · obtain ⟨n9, h8⟩ := chG_memG (some x.1) h9
                exact ⟨_, List.mem_cons_of_mem _ (List.mem_append_left _ h8)⟩
              · rcases List.mem_cons.mp h9 with h9 | h9
                · rw [h9]
                  exact ⟨_, List.mem_cons_of_mem _ (List.mem_append_right _ List.mem_cons_self)⟩
                · obtain ⟨n9, h8⟩ := chG_memG none h9
                  exact ⟨_, List.mem_cons_of_mem _ (List.mem_append_right _ (List.mem_cons_of_mem _ (List.mem_cons_of_mem _ h8)))⟩
            obtain ⟨tl, hy⟩ := hy
            obtain ⟨iy, hyi⟩ := List.mem_iff_getElem?.mp hy
            have hyb := (hBd y (by simp)).1
            refine va_get (D := D) (ci := 0) (v := .ref y.1) (C := R_S) (T := F_S) (N := 7) hx hb hg gi_S hown hK hP 0 rfl rfl 2 (by decide) (hg _ gw_83) (fun _ h9 => h9) rfl d_S_take_57 ?_
            refine lv_ifnull hx hb d_S_take_60 ?_
            refine lv_aload_n hx hb d_S_take_63 rfl (lv_at hl 0 rfl) ?_
            refine va_getN (D := D) (ci := 1) (v := .int (nI x.2.1)) (C := R_P) (T := F_P) (N := 6) hx hb hg gi_P hown hK hP ((chG l1 (some x.1)).length + 1) (sw_get1 _ _ _ _) rfl 0 (by decide) (va_Nw.use rfl (hN.1 (47, "begin", "I") (by decide))) (fun _ h9 => h9) rfl d_S_take_64 ?_
            refine lv_aload_n hx hb d_S_take_67 rfl (lv_at hl 1 rfl) ?_
            refine va_get (D := D) (ci := 0) (v := .ref y.1) (C := R_S) (T := F_S) (N := 7) hx hb hg gi_S hown hK hP 0 rfl rfl 2 (by decide) (hg _ gw_83) (fun _ h9 => h9) rfl d_S_take_68 ?_
            refine va_getN (D := D) (ci := 1) (v := .int (nI y.2.1)) (C := R_P) (T := F_P) (N := 6) hx hb hg gi_P hown hK hP iy hyi rfl 0 (by decide) (va_Nw.use rfl (hN.1 (47, "begin", "I") (by decide))) (fun _ h9 => h9) rfl d_S_take_71 ?_
            refine lv_icmp_lt (tgt := 81) hx hb d_S_take_74 (by decide) (fun c_74 => ?_) (fun c_74 => ?_)
            · refine lv_iconst (v := 0) hx hb d_S_take_81 (by decide) ?_
              refine lv_topi (fun y5 ey5 => ?_)
              obtain rfl : y5 = bI (tkM (y :: s1) x) := ey5.trans (by simp [tkM, bI, Nat.not_le.mpr ((nI_ltI (by omega) (by omega)).mp c_74)])
              clear ey5
              refine va_putN (D := D) (ci := 1) (v := .int (bI (tkM (y :: s1) x))) (ty := .boolean) (C := R_P) (T := F_P) (N := 6) hx hb hg gi_P t_P t_P_ok n_P hown hK hP hD hS ((chG l1 (some x.1)).length + 1) (sw_get1 _ _ _ _) rfl 3 (by decide) (va_Nw.use rfl (hN.1 (50, "marked", "Z") (by decide))) (fun _ h9 => h9) rfl (by decide +kernel) (bI_nar _) (bI_fit _) (Nat.le_of_ble_eq_true rfl) d_S_take_82 (fun H locs hP hD hS => ?_)
              rw [sw_set1] at hP hD
              replace hP : va_P D classes ((h, .inr (0, [.int (nI cn), va_rf (hdO (l1 ++ x :: l2) none), .ref y.1, .long (lN (f + 1)), .int v, .int w, .int z1])) :: ((chG l1 (some x.1)) ++ ((x.1, .inr (1, [.int (nI x.2.1), .int (nI k), .int 1, .int (bI (tkM (y :: s1) x)), .long (lN x.2.2.2.2.2), va_rf (some q)])) :: (pcell (q, x.2.1 + k, x.2.2.1 - k, false, false, f + 1) (hdO l2 none) :: chG l2 none)))) _ := hP
              replace hD : va_D A ((h, .inr (0, [.int (nI cn), va_rf (hdO (l1 ++ x :: l2) none), .ref y.1, .long (lN (f + 1)), .int v, .int w, .int z1])) :: ((chG l1 (some x.1)) ++ ((x.1, .inr (1, [.int (nI x.2.1), .int (nI k), .int 1, .int (bI (tkM (y :: s1) x)), .long (lN x.2.2.2.2.2), va_rf (some q)])) :: (pcell (q, x.2.1 + k, x.2.2.1 - k, false, false, f + 1) (hdO l2 none) :: chG l2 none)))) := hD
              refine lv_aload_n hx hb d_S_take_85 rfl (lv_at hl 0 rfl) ?_
              refine va_getN (D := D) (ci := 1) (v := .int (nI x.2.1)) (C := R_P) (T := F_P) (N := 6) hx hb hg gi_P hown hK hP ((chG l1 (some x.1)).length + 1) (sw_get1 _ _ _ _) rfl 0 (by decide) (va_Nw.use rfl (hN.1 (47, "begin", "I") (by decide))) (fun _ h9 => h9) rfl d_S_take_86 ?_
              refine W.widen (k := 1) (n := 6) (Nat.le_of_ble_eq_true rfl) (Nat.le_of_ble_eq_true rfl) ?_
              exact vx_ret (W.iret (v := (nI x.2.1)) hx hb hr (fun t ht hW => ⟨⟨_, _, rfl, ⟨k, hk1, hk2, rfl, Or.inr ⟨x, l1, l2, hwt, hL9, rfl, Or.inr ⟨hlt, q, by rw [hL9, chG_mid]; rfl⟩⟩⟩, at2.of hP hK hD ht hW⟩, hS.F ht⟩) hS.2.2 d_S_take_89)
            · refine lv_iconst (v := 1) hx hb d_S_take_77 (by decide) ?_
              refine lv_goto (tgt := 82) hx hb d_S_take_78 (by decide) ?_
              refine lv_topi (fun y6 ey6 => ?_)
              obtain rfl : y6 = bI (tkM (y :: s1) x) := ey6.trans (by simp [tkM, bI, Nat.not_lt.mp (fun h9 => c_74 ((nI_ltI (by omega) (by omega)).mpr h9))])
              clear ey6
              refine va_putN (D := D) (ci := 1) (v := .int (bI (tkM (y :: s1) x))) (ty := .boolean) (C := R_P) (T := F_P) (N := 6) hx hb hg gi_P t_P t_P_ok n_P hown hK hP hD hS ((chG l1 (some x.1)).length + 1) (sw_get1 _ _ _ _) rfl 3 (by decide) (va_Nw.use rfl (hN.1 (50, "marked", "Z") (by decide))) (fun _ h9 => h9) rfl (by decide +kernel) (bI_nar _) (bI_fit _) (Nat.le_of_ble_eq_true rfl) d_S_take_82 (fun H locs hP hD hS => ?_)
              rw [sw_set1] at hP hD
              replace hP : va_P D classes ((h, .inr (0, [.int (nI cn), va_rf (hdO (l1 ++ x :: l2) none), .ref y.1, .long (lN (f + 1)), .int v, .int w, .int z1])) :: ((chG l1 (some x.1)) ++ ((x.1, .inr (1, [.int (nI x.2.1), .int (nI k), .int 1, .int (bI (tkM (y :: s1) x)), .long (lN x.2.2.2.2.2), va_rf (some q)])) :: (pcell (q, x.2.1 + k, x.2.2.1 - k, false, false, f + 1) (hdO l2 none) :: chG l2 none)))) _ := hP
              replace hD : va_D A ((h, .inr (0, [.int (nI cn), va_rf (hdO (l1 ++ x :: l2) none), .ref y.1, .long (lN (f + 1)), .int v, .int w, .int z1])) :: ((chG l1 (some x.1)) ++ ((x.1, .inr (1, [.int (nI x.2.1), .int (nI k), .int 1, .int (bI (tkM (y :: s1) x)), .long (lN x.2.2.2.2.2), va_rf (some q)])) :: (pcell (q, x.2.1 + k, x.2.2.1 - k, false, false, f + 1) (hdO l2 none) :: chG l2 none)))) := hD
              refine lv_aload_n hx hb d_S_take_85 rfl (lv_at hl 0 rfl) ?_
              refine va_getN (D := D) (ci := 1) (v := .int (nI x.2.1)) (C := R_P) (T := F_P) (N := 6) hx hb hg gi_P hown hK hP ((chG l1 (some x.1)).length + 1) (sw_get1 _ _ _ _) rfl 0 (by decide) (va_Nw.use rfl (hN.1 (47, "begin", "I") (by decide))) (fun _ h9 => h9) rfl d_S_take_86 ?_
              refine W.widen (k := 1) (n := 6) (Nat.le_of_ble_eq_true rfl) (Nat.le_of_ble_eq_true rfl) ?_
              exact vx_ret (W.iret (v := (nI x.2.1)) hx hb hr (fun t ht hW => ⟨⟨_, _, rfl, ⟨k, hk1, hk2, rfl, Or.inr ⟨x, l1, l2, hwt, hL9, rfl, Or.inr ⟨hlt, q, by rw [hL9, chG_mid]; rfl⟩⟩⟩, at2.of hP hK hD ht hW⟩, hS.F ht⟩) hS.2.2 d_S_take_89)
    · obtain ⟨sa, hstr⟩ := hE.2.2 (24, "the size is not 3 .. 2000") (by decide)
      exact vx_throwS (own := R_S) (cls := "java/lang/IllegalArgumentException") (names := xNm) hx hb hl9 hown (by decide +kernel) (by decide +kernel) (hg _ gw_142) (hg _ gw_32) hstr (vx_hat (fun w hw => hg w (xg_17 w hw)) xb_17 (xBd_ok hN (by decide))) xo_17 (hE.1.narrow hAN) (hE.2.1.narrow hAN) hS (hl.1.trans hml.symm) d_S_take_12 d_S_take_15 d_S_take_16 d_S_take_18 d_S_take_21 (fun x hx => (hEx x hx).elim) (Nat.le_of_ble_eq_true rfl) (Nat.le_of_ble_eq_true rfl) (Nat.le_of_ble_eq_true rfl) (Nat.le_of_ble_eq_true rfl) hlocks (fun t ha hsz hk => ⟨("java/lang/IllegalArgumentException", _), ⟨rfl, ⟨rfl, Or.inr c_9⟩⟩, ⟨rfl, hP.kept (fun k q hq => hk q.1 (hP k q hq).lt), va_K.moved ha hK, hD⟩, Nat.le_trans hS.1 hsz, fun q h1 h2 => (hk q (Nat.lt_of_lt_of_le h1 hS.1)).trans (hS.2.1 q h1 h2)⟩) hS.2.2 (Nat.le_of_ble_eq_true rfl) (Nat.le_of_ble_eq_true rfl)
