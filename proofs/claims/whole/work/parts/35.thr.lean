set_option maxHeartbeats 4000000 in
set_option maxRecDepth 100000 in
theorem c_S_usedPieceAt (l : Launch) (hl9 : l.stackTraces = false) (D : va_G) (ty : tyL) (N0 sz : Nat) (h cn : Nat) (ha : Option Nat) (f : Nat) (v w z1 : Int32) (L : List AP) (a : Int32) : vx_Met l y_S_usedPieceAt (Cond.code y_S_usedPieceAt b_S_usedPieceAt 3 (some (.object "SweepHand$Piece")) :: GW) ({ frames := 6, cells := 1, slots := 6, locals := 82 }) (va_Pc [.ref h, .int a] (at1 D ty N0 sz (scell h cn (hdO L none) ha f v w z1 :: chG L none))) (va_Qq (fun r ws' => ws' = scell h cn (hdO L none) ha f v w z1 :: chG L none ∧ ∃ x, uAt a L = some x ∧ r = some x.1) (at2 D ty (va_A (scell h cn (hdO L none) ha f v w z1 :: chG L none) sz)) (va_A (scell h cn (hdO L none) ha f v w z1 :: chG L none) sz)) (vx_X (fun z : String × va_W => z.2 = (scell h cn (hdO L none) ha f v w z1 :: chG L none) ∧ z.1 = "java/util/NoSuchElementException" ∧ uAt a L = none) (fun E z t => E = z.1 ∧ at2 D ty (va_A (scell h cn (hdO L none) ha f v w z1 :: chG L none) sz) z.2 t) (va_A (scell h cn (hdO L none) ha f v w z1 :: chG L none) sz)) 1 6 (va_A (scell h cn (hdO L none) ha f v w z1 :: chG L none) sz) := by
  refine vx_ofW (cc := b_S_usedPieceAt) (maxL := 3) (ret := (some (.object "SweepHand$Piece"))) (by decide) rfl ?_
  intro p e s m args below meth c s₁ B hml hEx hv
  obtain ⟨rfl, hsz, hN0, ⟨hP, hK, hN⟩, hD0, hE⟩ := hv
  subst hsz
  have hD := hD0.self (sz := s.heap.size)
  have hAN := sw_AN hD0 hN0
  generalize hAe : va_A (scell h cn (hdO L none) ha f v w z1 :: chG L none) s.heap.size = A at hD hAN ⊢
  have hA : ∀ q : Nat, s.heap.size ≤ q → A q := fun q h => by rw [← hAe]; exact Or.inr h
  have hS : va_S A s.heap s.heap [] := va_S.rf
  have hP : va_P D classes (scell h cn (hdO L none) ha f v w z1 :: chG L none) s.heap := hP
  have hx := B.exec
  have hb := B.bytes
  have hr := B.returns
  have hg : ∀ w ∈ GW, w.before _ s = true := fun w h => atoms_spec (ws := Cond.code y_S_usedPieceAt b_S_usedPieceAt 3 (some (.object "SweepHand$Piece")) :: GW) B.pre w (List.mem_cons_of_mem _ h)
  have hown : s.vm.findClass R_S = some m.cls := findClass_of_methodNamed B.named
  have hlocks := B.notSynchronized
  have hl := lv_entry ([.ref h, .int a]) (n := 3) (Nat.le_of_ble_eq_true rfl)
  rw [lg_entry_eq]
  generalize (lg_sl ([.ref h, .int a]) ++ List.replicate (3 - (lg_sl ([.ref h, .int a])).length) Slot.unset).toArray = ls at hl ⊢
  replace hl : lv_has ls 3 [(0, .ref h), (1, .int a)] := hl
  refine lv_aload_n hx hb d_S_usedPieceAt_0 rfl (lv_at hl 0 rfl) ?_
  refine lv_iload_n hx hb d_S_usedPieceAt_1 rfl (lv_at hl 1 rfl) ?_
  refine va_csq (va_runV (As := [.int a]) (rest := []) ⟨hx, hb, hml, hown, hg⟩ (c_S_pieceAt l D ty h cn ha f v w z1 L a) (cwV 1 hg (gw_V gw_111 gw_113 gw_2 gw_26 gw_114) rfl rfl rfl (by decide +kernel) ⟨Nat.le_of_ble_eq_true rfl, Nat.le_of_ble_eq_true rfl⟩) (pre_roV hP hK hN (ci := 0) (k := 0) rfl rfl) rfl rfl hl.1 rfl (lv_room (Nat.le_of_ble_eq_true rfl)) d_S_usedPieceAt_2 ⟨Nat.le_of_ble_eq_true rfl, Nat.le_of_ble_eq_true rfl⟩).run (fun r1 hr1 => ?_)
  rcases hpa : pAt a L with _ | x
  · rw [hpa] at hr1
    replace hr1 : r1 = none := hr1
    subst hr1
    refine lv_astore_nN (lv' := [(2, .null), (0, .ref h), (1, .int a)]) hx hb d_S_usedPieceAt_5 rfl hl (by decide) rfl (fun ls hl => ?_)
    refine lv_aload_nN hx hb d_S_usedPieceAt_6 rfl (lv_at hl 0 rfl) ?_
    refine lv_ifnullN (tgt := 17) hx hb d_S_usedPieceAt_7 (by decide) ?_
    obtain ⟨sa, hstr⟩ := hE.2.2 (124, "no used piece begins there") (by decide)
    exact nx_throw hx hb hl9 hown hg hN hstr (hE.1.narrow hAN) (hE.2.1.narrow hAN) hS (hl.1.trans hml.symm) d_S_usedPieceAt_17 d_S_usedPieceAt_20 d_S_usedPieceAt_21 d_S_usedPieceAt_23 d_S_usedPieceAt_26 (fun x hx => (hEx x hx).elim) (Nat.le_of_ble_eq_true rfl) (Nat.le_of_ble_eq_true rfl) (Nat.le_of_ble_eq_true rfl) (Nat.le_of_ble_eq_true rfl) hlocks (fun t ha hsz hk => ⟨("java/util/NoSuchElementException", _), ⟨rfl, ⟨rfl, by simp [uAt, hpa]⟩⟩, ⟨rfl, hP.kept (fun k q hq => hk q.1 (hP k q hq).lt), va_K.moved ha hK, hD⟩, Nat.le_trans hS.1 hsz, fun q h1 h2 => (hk q (Nat.lt_of_lt_of_le h1 hS.1)).trans (hS.2.1 q h1 h2)⟩) hS.2.2 (Nat.le_of_ble_eq_true rfl) (Nat.le_of_ble_eq_true rfl)
  · rw [hpa] at hr1
    replace hr1 : r1 = some x.1 := hr1
    subst hr1
    obtain ⟨jx, nx, he⟩ := chG_mem (scell h cn (hdO L none) ha f v w z1) none (pAt_mem hpa).1
    refine lv_astore_n (lv' := [(2, .ref x.1), (0, .ref h), (1, .int a)]) hx hb d_S_usedPieceAt_5 rfl hl (by decide) rfl (fun ls hl => ?_)
    refine lv_aload_n hx hb d_S_usedPieceAt_6 rfl (lv_at hl 0 rfl) ?_
    refine lv_ifnull hx hb d_S_usedPieceAt_7 ?_
    refine lv_aload_n hx hb d_S_usedPieceAt_10 rfl (lv_at hl 0 rfl) ?_
    refine va_getN (D := D) (ci := 1) (v := .int (bI x.2.2.2.1)) (C := R_P) (T := F_P) (N := 6) hx hb hg gi_P hown hK hP jx he rfl 2 (by decide) (va_Nw.use rfl (hN.1 (37, "used", "Z") (by decide))) (fun _ h9 => h9) rfl d_S_usedPieceAt_11 ?_
    refine lv_if_ne (tgt := 27) hx hb d_S_usedPieceAt_14 (by decide) (fun c_14 => ?_) (fun c_14 => ?_)
    · refine lv_aload_n hx hb d_S_usedPieceAt_27 rfl (lv_at hl 0 rfl) ?_
      refine W.widen (k := 1) (n := 6) (Nat.le_of_ble_eq_true rfl) (Nat.le_of_ble_eq_true rfl) ?_
      exact vx_ret (W.aret (v := .ref x.1) hx hb hr (Or.inl ⟨_, rfl⟩) (Or.inr ⟨_, rfl⟩) (fun t ht hW => ⟨⟨(some x.1), _, rfl, ⟨rfl, x, by simp [uAt, hpa, bI_n0.mp c_14], rfl⟩, at2.of hP hK hD ht hW⟩, hS.F ht⟩) hS.2.2 d_S_usedPieceAt_28)
    · obtain ⟨sa, hstr⟩ := hE.2.2 (124, "no used piece begins there") (by decide)
      exact nx_throw hx hb hl9 hown hg hN hstr (hE.1.narrow hAN) (hE.2.1.narrow hAN) hS (hl.1.trans hml.symm) d_S_usedPieceAt_17 d_S_usedPieceAt_20 d_S_usedPieceAt_21 d_S_usedPieceAt_23 d_S_usedPieceAt_26 (fun x hx => (hEx x hx).elim) (Nat.le_of_ble_eq_true rfl) (Nat.le_of_ble_eq_true rfl) (Nat.le_of_ble_eq_true rfl) (Nat.le_of_ble_eq_true rfl) hlocks (fun t ha hsz hk => ⟨("java/util/NoSuchElementException", _), ⟨rfl, ⟨rfl, by simp [uAt, hpa, bI_0.mp c_14]⟩⟩, ⟨rfl, hP.kept (fun k q hq => hk q.1 (hP k q hq).lt), va_K.moved ha hK, hD⟩, Nat.le_trans hS.1 hsz, fun q h1 h2 => (hk q (Nat.lt_of_lt_of_le h1 hS.1)).trans (hS.2.1 q h1 h2)⟩) hS.2.2 (Nat.le_of_ble_eq_true rfl) (Nat.le_of_ble_eq_true rfl)
set_option maxHeartbeats 4000000 in
set_option maxRecDepth 100000 in
theorem c_S_refuseDuringSweep (l : Launch) (hl9 : l.stackTraces = false) (D : va_G) (ty : tyL) (N0 sz : Nat) (h cn : Nat) (ha : Option Nat) (f : Nat) (v w z1 : Int32) (L : List AP) : vx_Met l y_S_refuseDuringSweep (Cond.code y_S_refuseDuringSweep b_S_refuseDuringSweep 1 none :: GW) ({ frames := 6, cells := 1, slots := 6, locals := 82 }) (va_Pc [.ref h] (at1 D ty N0 sz (scell h cn (hdO L none) ha f v w z1 :: chG L none))) (va_Qv (fun ws' => ws' = scell h cn (hdO L none) ha f v w z1 :: chG L none ∧ ha = none) (at2 D ty (va_A (scell h cn (hdO L none) ha f v w z1 :: chG L none) sz)) (va_A (scell h cn (hdO L none) ha f v w z1 :: chG L none) sz)) (vx_X (fun z : String × va_W => z.2 = (scell h cn (hdO L none) ha f v w z1 :: chG L none) ∧ z.1 = "java/lang/IllegalStateException" ∧ ¬ ha = none) (fun E z t => E = z.1 ∧ at2 D ty (va_A (scell h cn (hdO L none) ha f v w z1 :: chG L none) sz) z.2 t) (va_A (scell h cn (hdO L none) ha f v w z1 :: chG L none) sz)) 1 6 (va_A (scell h cn (hdO L none) ha f v w z1 :: chG L none) sz) := by
  refine vx_ofW (cc := b_S_refuseDuringSweep) (maxL := 1) (ret := none) (by decide) rfl ?_
  intro p e s m args below meth c s₁ B hml hEx hv
  obtain ⟨rfl, hsz, hN0, ⟨hP, hK, hN⟩, hD0, hE⟩ := hv
  subst hsz
  have hD := hD0.self (sz := s.heap.size)
  have hAN := sw_AN hD0 hN0
  generalize hAe : va_A (scell h cn (hdO L none) ha f v w z1 :: chG L none) s.heap.size = A at hD hAN ⊢
  have hA : ∀ q : Nat, s.heap.size ≤ q → A q := fun q h => by rw [← hAe]; exact Or.inr h
  have hS : va_S A s.heap s.heap [] := va_S.rf
  have hP : va_P D classes (scell h cn (hdO L none) ha f v w z1 :: chG L none) s.heap := hP
  have hx := B.exec
  have hb := B.bytes
  have hr := B.returns
  have hg : ∀ w ∈ GW, w.before _ s = true := fun w h => atoms_spec (ws := Cond.code y_S_refuseDuringSweep b_S_refuseDuringSweep 1 none :: GW) B.pre w (List.mem_cons_of_mem _ h)
  have hown : s.vm.findClass R_S = some m.cls := findClass_of_methodNamed B.named
  have hlocks := B.notSynchronized
  have hl := lv_entry ([.ref h]) (n := 1) (Nat.le_of_ble_eq_true rfl)
  rw [lg_entry_eq]
  generalize (lg_sl ([.ref h]) ++ List.replicate (1 - (lg_sl ([.ref h])).length) Slot.unset).toArray = ls at hl ⊢
  replace hl : lv_has ls 1 [(0, .ref h)] := hl
  refine lv_aload_n hx hb d_S_refuseDuringSweep_0 rfl (lv_at hl 0 rfl) ?_
  refine va_get (D := D) (ci := 0) (v := va_rf ha) (C := R_S) (T := F_S) (N := 7) hx hb hg gi_S hown hK hP 0 rfl rfl 2 (by decide) (hg _ gw_83) (fun _ h9 => h9) rfl d_S_refuseDuringSweep_1 ?_
  refine sv_ifnull (tgt := 17) hx hb d_S_refuseDuringSweep_4 (by decide) (fun c_4 => ?_) (fun y0 c_4 => ?_)
  · refine W.widen (k := 1) (n := 6) (Nat.le_of_ble_eq_true rfl) (Nat.le_of_ble_eq_true rfl) ?_
    exact vx_ret (W.vret hx hb hr (fun t ht hW => ⟨⟨_, rfl, ⟨rfl, c_4⟩, at2.of hP hK hD ht hW⟩, hS.F ht⟩) hS.2.2 d_S_refuseDuringSweep_17)
  · obtain ⟨sa, hstr⟩ := hE.2.2 (119, "there is a sweep") (by decide)
    exact vx_throwS (own := R_S) (cls := "java/lang/IllegalStateException") (names := xNm) hx hb hl9 hown (by decide +kernel) (by decide +kernel) (hg _ gw_273) (hg _ gw_34) hstr (vx_hat (fun w hw => hg w (xg_121 w hw)) xb_121 (xBd_ok hN (by decide))) xo_121 (hE.1.narrow hAN) (hE.2.1.narrow hAN) hS (hl.1.trans hml.symm) d_S_refuseDuringSweep_7 d_S_refuseDuringSweep_10 d_S_refuseDuringSweep_11 d_S_refuseDuringSweep_13 d_S_refuseDuringSweep_16 (fun x hx => (hEx x hx).elim) (Nat.le_of_ble_eq_true rfl) (Nat.le_of_ble_eq_true rfl) (Nat.le_of_ble_eq_true rfl) (Nat.le_of_ble_eq_true rfl) hlocks (fun t ha hsz hk => ⟨("java/lang/IllegalStateException", _), ⟨rfl, ⟨rfl, by rw [c_4]; exact (fun h9 => by cases h9)⟩⟩, ⟨rfl, hP.kept (fun k q hq => hk q.1 (hP k q hq).lt), va_K.moved ha hK, hD⟩, Nat.le_trans hS.1 hsz, fun q h1 h2 => (hk q (Nat.lt_of_lt_of_le h1 hS.1)).trans (hS.2.1 q h1 h2)⟩) hS.2.2 (Nat.le_of_ble_eq_true rfl) (Nat.le_of_ble_eq_true rfl)
set_option maxHeartbeats 4000000 in
set_option maxRecDepth 100000 in
theorem c_S_space (l : Launch) (hl9 : l.stackTraces = false) (D : va_G) (ty : tyL) (N0 sz : Nat) (h cn f : Nat) (v w z1 : Int32) (p0 s0 : List AP) (n : Int32) : vx_Met l y_S_space (Cond.code y_S_space b_S_space 3 (some .int) :: GW) ({ frames := 6, cells := 1, slots := 6, locals := 82 }) (va_Pc [.ref h, .int n] (at1 D ty N0 sz (scell h cn (hdO (p0 ++ s0) none) (hdO s0 none) f v w z1 :: chG (p0 ++ s0) none))) (va_Qi (fun r ws' => r = nI cn ∧ ∃ k q : Nat, 16 ≤ k ∧ k ≤ 16384 ∧ n = nI k ∧ ws' = [scell h k (some q) none 1 0 0 0, pcell (q, 1, k, false, false, 1) none]) (at2 D ty (va_A (scell h cn (hdO (p0 ++ s0) none) (hdO s0 none) f v w z1 :: chG (p0 ++ s0) none) sz)) (va_A (scell h cn (hdO (p0 ++ s0) none) (hdO s0 none) f v w z1 :: chG (p0 ++ s0) none) sz)) (vx_X (fun z : String × va_W => z.2 = (scell h cn (hdO (p0 ++ s0) none) (hdO s0 none) f v w z1 :: chG (p0 ++ s0) none) ∧ z.1 = "java/lang/IllegalArgumentException" ∧ (n < 16 ∨ ¬ n ≤ 16384)) (fun E z t => E = z.1 ∧ at2 D ty (va_A (scell h cn (hdO (p0 ++ s0) none) (hdO s0 none) f v w z1 :: chG (p0 ++ s0) none) sz) z.2 t) (va_A (scell h cn (hdO (p0 ++ s0) none) (hdO s0 none) f v w z1 :: chG (p0 ++ s0) none) sz)) 1 6 (va_A (scell h cn (hdO (p0 ++ s0) none) (hdO s0 none) f v w z1 :: chG (p0 ++ s0) none) sz) := by
  refine vx_ofW (cc := b_S_space) (maxL := 3) (ret := (some .int)) (by decide) rfl ?_
  intro p e s m args below meth c s₁ B hml hEx hv
  obtain ⟨rfl, hsz, hN0, ⟨hP, hK, hN⟩, hD0, hE⟩ := hv
  subst hsz
  have hD := hD0.self (sz := s.heap.size)
  have hAN := sw_AN hD0 hN0
  generalize hAe : va_A (scell h cn (hdO (p0 ++ s0) none) (hdO s0 none) f v w z1 :: chG (p0 ++ s0) none) s.heap.size = A at hD hAN ⊢
  have hA : ∀ q : Nat, s.heap.size ≤ q → A q := fun q h => by rw [← hAe]; exact Or.inr h
  have hS : va_S A s.heap s.heap [] := va_S.rf
  have hP : va_P D classes (scell h cn (hdO (p0 ++ s0) none) (hdO s0 none) f v w z1 :: chG (p0 ++ s0) none) s.heap := hP
  have hx := B.exec
  have hb := B.bytes
  have hr := B.returns
  have hg : ∀ w ∈ GW, w.before _ s = true := fun w h => atoms_spec (ws := Cond.code y_S_space b_S_space 3 (some .int) :: GW) B.pre w (List.mem_cons_of_mem _ h)
  have hown : s.vm.findClass R_S = some m.cls := findClass_of_methodNamed B.named
  have hlocks := B.notSynchronized
  have hl := lv_entry ([.ref h, .int n]) (n := 3) (Nat.le_of_ble_eq_true rfl)
  rw [lg_entry_eq]
  generalize (lg_sl ([.ref h, .int n]) ++ List.replicate (3 - (lg_sl ([.ref h, .int n])).length) Slot.unset).toArray = ls at hl ⊢
  replace hl : lv_has ls 3 [(0, .ref h), (1, .int n)] := hl
  refine lv_iload_n hx hb d_S_space_0 rfl (lv_at hl 1 rfl) ?_
  refine lv_bipush (v := 16) hx hb d_S_space_1 (by decide) ?_
  refine lv_icmp_lt (tgt := 13) hx hb d_S_space_3 (by decide) (fun c_3 => ?_) (fun c_3 => ?_)
  · obtain ⟨sa, hstr⟩ := hE.2.2 (15, "the number of cells is not 16 .. 16384") (by decide)
    exact vx_throwS (own := R_S) (cls := "java/lang/IllegalArgumentException") (names := xNm) hx hb hl9 hown (by decide +kernel) (by decide +kernel) (hg _ gw_142) (hg _ gw_32) hstr (vx_hat (fun w hw => hg w (xg_17 w hw)) xb_17 (xBd_ok hN (by decide))) xo_17 (hE.1.narrow hAN) (hE.2.1.narrow hAN) hS (hl.1.trans hml.symm) d_S_space_13 d_S_space_16 d_S_space_17 d_S_space_19 d_S_space_22 (fun x hx => (hEx x hx).elim) (Nat.le_of_ble_eq_true rfl) (Nat.le_of_ble_eq_true rfl) (Nat.le_of_ble_eq_true rfl) (Nat.le_of_ble_eq_true rfl) hlocks (fun t ha hsz hk => ⟨("java/lang/IllegalArgumentException", _), ⟨rfl, ⟨rfl, Or.inl c_3⟩⟩, ⟨rfl, hP.kept (fun k q hq => hk q.1 (hP k q hq).lt), va_K.moved ha hK, hD⟩, Nat.le_trans hS.1 hsz, fun q h1 h2 => (hk q (Nat.lt_of_lt_of_le h1 hS.1)).trans (hS.2.1 q h1 h2)⟩) hS.2.2 (Nat.le_of_ble_eq_true rfl) (Nat.le_of_ble_eq_true rfl)
  · refine lv_iload_n hx hb d_S_space_6 rfl (lv_at hl 1 rfl) ?_
    refine lv_sipush (v := 16384) hx hb d_S_space_7 (by decide) ?_
    refine lv_icmp_le (tgt := 23) hx hb d_S_space_10 (by decide) (fun c_10 => ?_) (fun c_10 => ?_)
    · refine lv_aload_n hx hb d_S_space_23 rfl (lv_at hl 0 rfl) ?_
      refine va_get (D := D) (ci := 0) (v := .int (nI cn)) (C := R_S) (T := F_S) (N := 7) hx hb hg gi_S hown hK hP 0 rfl rfl 0 (by decide) (hg _ gw_81) (fun _ h9 => h9) rfl d_S_space_24 ?_
      refine lv_istore_n (lv' := [(2, .int (nI cn)), (0, .ref h), (1, .int n)]) hx hb d_S_space_27 rfl hl (by decide) rfl (fun ls hl => ?_)
      refine lv_aload_n hx hb d_S_space_28 rfl (lv_at hl 1 rfl) ?_
      refine lv_iload_n hx hb d_S_space_29 rfl (lv_at hl 2 rfl) ?_
      obtain ⟨k, hk1, hk2, rfl⟩ := rng (lo := 16) (hi := 16384) c_3 c_10 (by decide) (by decide)
      have hFc := sw_free hD hS hA
      refine va_callv (va_runV (As := [.int (nI k)]) (rest := []) ⟨hx, hb, hml, hown, hg⟩ (c_S_startAnew l D ty N0 _ h cn (hdO (p0 ++ s0) none) (hdO s0 none) f v w z1 (chG (p0 ++ s0) none) k) (cwV 1 hg (gw_V gw_43 gw_45 gw_0 gw_26 gw_46) rfl rfl rfl (by decide +kernel) ⟨Nat.le_of_ble_eq_true rfl, Nat.le_of_ble_eq_true rfl⟩) (pre_wrV hP hK hN hD hS hAN hN0 hE (ci := 0) (k := 0) rfl rfl) rfl rfl hl.1 rfl (lv_room (Nat.le_of_ble_eq_true rfl)) d_S_space_30 ⟨Nat.le_of_ble_eq_true rfl, Nat.le_of_ble_eq_true rfl⟩) hS (fun q _ h => hFc q h) hFc (fun u t H locs ht hvm hw hB hz1 hk1 hS => ?_)
      obtain ⟨hP, hK1, hD1⟩ := hB
      rw [ht] at hP
      have hD := hD1.weaken (fun _ _ _ h => hFc _ h)
      clear hK1 hD1 hFc hk1 hz1
      obtain ⟨q, rfl⟩ := hw
      refine lv_iload_n hx hb d_S_space_33 rfl (lv_at hl 0 rfl) ?_
      refine W.widen (k := 1) (n := 6) (Nat.le_of_ble_eq_true rfl) (Nat.le_of_ble_eq_true rfl) ?_
      exact vx_ret (W.iret (v := (nI cn)) hx hb hr (fun t ht hW => ⟨⟨_, _, rfl, ⟨rfl, k, q, hk1, hk2, rfl, rfl⟩, at2.of hP hK hD ht hW⟩, hS.F ht⟩) hS.2.2 d_S_space_34)
    · obtain ⟨sa, hstr⟩ := hE.2.2 (15, "the number of cells is not 16 .. 16384") (by decide)
      exact vx_throwS (own := R_S) (cls := "java/lang/IllegalArgumentException") (names := xNm) hx hb hl9 hown (by decide +kernel) (by decide +kernel) (hg _ gw_142) (hg _ gw_32) hstr (vx_hat (fun w hw => hg w (xg_17 w hw)) xb_17 (xBd_ok hN (by decide))) xo_17 (hE.1.narrow hAN) (hE.2.1.narrow hAN) hS (hl.1.trans hml.symm) d_S_space_13 d_S_space_16 d_S_space_17 d_S_space_19 d_S_space_22 (fun x hx => (hEx x hx).elim) (Nat.le_of_ble_eq_true rfl) (Nat.le_of_ble_eq_true rfl) (Nat.le_of_ble_eq_true rfl) (Nat.le_of_ble_eq_true rfl) hlocks (fun t ha hsz hk => ⟨("java/lang/IllegalArgumentException", _), ⟨rfl, ⟨rfl, Or.inr c_10⟩⟩, ⟨rfl, hP.kept (fun k q hq => hk q.1 (hP k q hq).lt), va_K.moved ha hK, hD⟩, Nat.le_trans hS.1 hsz, fun q h1 h2 => (hk q (Nat.lt_of_lt_of_le h1 hS.1)).trans (hS.2.1 q h1 h2)⟩) hS.2.2 (Nat.le_of_ble_eq_true rfl) (Nat.le_of_ble_eq_true rfl)
set_option maxHeartbeats 4000000 in
set_option maxRecDepth 100000 in
theorem c_S_give (l : Launch) (hl9 : l.stackTraces = false) (D : va_G) (ty : tyL) (N0 sz : Nat) (h cn f : Nat) (v w z1 : Int32) (p0 s0 : List AP) (a : Int32) : vx_Met l y_S_give (Cond.code y_S_give b_S_give 3 (some .int) :: GW) ({ frames := 7, cells := 1, slots := 6, locals := 104 }) (va_Pc [.ref h, .int a] (at1 D ty N0 sz (scell h cn (hdO (p0 ++ s0) none) (hdO s0 none) f v w z1 :: chG (p0 ++ s0) none))) (va_Qi (fun r ws' => ∃ x l1 l2, uAt a (p0 ++ s0) = some x ∧ p0 ++ s0 = l1 ++ x :: l2 ∧ r = nI x.2.2.1 ∧ ws' = scell h cn (hdO (p0 ++ s0) none) (hdO s0 none) (f + 1) v w z1 :: chG (l1 ++ (x.1, x.2.1, x.2.2.1, false, false, f + 1) :: l2) none) (at2 D ty (va_A (scell h cn (hdO (p0 ++ s0) none) (hdO s0 none) f v w z1 :: chG (p0 ++ s0) none) sz)) (va_A (scell h cn (hdO (p0 ++ s0) none) (hdO s0 none) f v w z1 :: chG (p0 ++ s0) none) sz)) (vx_X (fun z : String × va_W => z.2 = (scell h cn (hdO (p0 ++ s0) none) (hdO s0 none) f v w z1 :: chG (p0 ++ s0) none) ∧ z.1 = "java/util/NoSuchElementException" ∧ uAt a (p0 ++ s0) = none) (fun E z t => E = z.1 ∧ at2 D ty (va_A (scell h cn (hdO (p0 ++ s0) none) (hdO s0 none) f v w z1 :: chG (p0 ++ s0) none) sz) z.2 t) (va_A (scell h cn (hdO (p0 ++ s0) none) (hdO s0 none) f v w z1 :: chG (p0 ++ s0) none) sz)) 1 6 (va_A (scell h cn (hdO (p0 ++ s0) none) (hdO s0 none) f v w z1 :: chG (p0 ++ s0) none) sz) := by
  refine vx_ofW (cc := b_S_give) (maxL := 3) (ret := (some .int)) (by decide) rfl ?_
  intro p e s m args below meth c s₁ B hml hEx hv
  obtain ⟨rfl, hsz, hN0, ⟨hP, hK, hN⟩, hD0, hE⟩ := hv
  subst hsz
  have hD := hD0.self (sz := s.heap.size)
  have hAN := sw_AN hD0 hN0
  generalize hAe : va_A (scell h cn (hdO (p0 ++ s0) none) (hdO s0 none) f v w z1 :: chG (p0 ++ s0) none) s.heap.size = A at hD hAN ⊢
  have hA : ∀ q : Nat, s.heap.size ≤ q → A q := fun q h => by rw [← hAe]; exact Or.inr h
  have hS : va_S A s.heap s.heap [] := va_S.rf
  have hP : va_P D classes (scell h cn (hdO (p0 ++ s0) none) (hdO s0 none) f v w z1 :: chG (p0 ++ s0) none) s.heap := hP
  have hx := B.exec
  have hb := B.bytes
  have hr := B.returns
  have hg : ∀ w ∈ GW, w.before _ s = true := fun w h => atoms_spec (ws := Cond.code y_S_give b_S_give 3 (some .int) :: GW) B.pre w (List.mem_cons_of_mem _ h)
  have hown : s.vm.findClass R_S = some m.cls := findClass_of_methodNamed B.named
  have hlocks := B.notSynchronized
  have hl := lv_entry ([.ref h, .int a]) (n := 3) (Nat.le_of_ble_eq_true rfl)
  rw [lg_entry_eq]
  generalize (lg_sl ([.ref h, .int a]) ++ List.replicate (3 - (lg_sl ([.ref h, .int a])).length) Slot.unset).toArray = ls at hl ⊢
  replace hl : lv_has ls 3 [(0, .ref h), (1, .int a)] := hl
  refine lv_aload_n hx hb d_S_give_0 rfl (lv_at hl 0 rfl) ?_
  refine lv_iload_n hx hb d_S_give_1 rfl (lv_at hl 1 rfl) ?_
  have hFc := sw_free hD hS hA
  refine vx_callq (vx_runV (As := [.int a]) (rest := []) ⟨hx, hb, hml, hown, hg⟩ (c_S_usedPieceAt l hl9 D ty N0 _ h cn (hdO s0 none) f v w z1 (p0 ++ s0) a) (cwV 1 hg (gw_V gw_241 gw_243 gw_9 gw_26 gw_244) rfl rfl rfl (by decide +kernel) ⟨Nat.le_of_ble_eq_true rfl, Nat.le_of_ble_eq_true rfl⟩) (pre_wrV hP hK hN hD hS hAN hN0 hE (ci := 0) (k := 0) rfl rfl) rfl rfl hl.1 rfl (lv_room (Nat.le_of_ble_eq_true rfl)) d_S_give_2 ⟨Nat.le_of_ble_eq_true rfl, Nat.le_of_ble_eq_true rfl⟩) hS (fun q _ h => hFc q h) hFc (fun q _ h => hFc q h) (fun E ce q9 z t H locs ht hvm hw hB hz1 hk1 hS hce hcv hcl => ?_) (fun r1 u t H locs ht hvm hw hB hz1 hk1 hS => ?_)
  · obtain ⟨hE9, hP, hK1, hD1⟩ := hB
    obtain ⟨hw1, hw2⟩ := hw
    rw [ht, hw1] at hP
    rw [hw1] at hD1
    replace hD := hD1.weaken (fun _ _ _ h => hFc _ h)
    exact vx_out (E := E) (fun x hx => (hEx x hx).elim) hlocks hce hcv hcl (fun t' ht' ha => ⟨(E, _), ⟨rfl, ⟨hE9.trans hw2.1, hw2.2⟩⟩, ⟨rfl, by rw [ht']; exact hP, va_K.moved ha hK, hD⟩, hS.F ht'⟩) hS.2.2 (Nat.le_of_ble_eq_true rfl) (Nat.le_of_ble_eq_true rfl)
  · obtain ⟨hP, hK1, hD1⟩ := hB
    rw [ht] at hP
    have hD := hD1.weaken (fun _ _ _ h => hFc _ h)
    clear hK1 hD1 hFc hk1 hz1
    obtain ⟨rfl, x, hux, rfl⟩ := hw
    obtain ⟨hxL, hxu, hpa⟩ := uAt_mem hux
    obtain ⟨l1, l2, hL9⟩ := List.append_of_mem hxL
    refine W.eq (g2 := F0 m 5 ls [.ref x.1]) rfl ?_
    rw [hL9, chG_mid] at hP hD
    replace hP : va_P D classes ((h, .inr (0, [.int (nI cn), va_rf (hdO (l1 ++ x :: l2) none), va_rf (hdO s0 none), .long (lN f), .int v, .int w, .int z1])) :: ((chG l1 (some x.1)) ++ ((x.1, .inr (1, [.int (nI x.2.1), .int (nI x.2.2.1), .int (bI x.2.2.2.1), .int (bI x.2.2.2.2.1), .long (lN x.2.2.2.2.2), va_rf (hdO l2 none)])) :: chG l2 none))) _ := hP
    replace hD : va_D A ((h, .inr (0, [.int (nI cn), va_rf (hdO (l1 ++ x :: l2) none), va_rf (hdO s0 none), .long (lN f), .int v, .int w, .int z1])) :: ((chG l1 (some x.1)) ++ ((x.1, .inr (1, [.int (nI x.2.1), .int (nI x.2.2.1), .int (bI x.2.2.2.1), .int (bI x.2.2.2.2.1), .long (lN x.2.2.2.2.2), va_rf (hdO l2 none)])) :: chG l2 none))) := hD
    refine lv_astore_n (lv' := [(2, .ref x.1), (0, .ref h), (1, .int a)]) hx hb d_S_give_5 rfl hl (by decide) rfl (fun ls hl => ?_)
    refine lv_aload_n hx hb d_S_give_6 rfl (lv_at hl 1 rfl) ?_
    refine lv_aload_n hx hb d_S_give_7 rfl (lv_at hl 0 rfl) ?_
    have hFc := sw_free hD hS hA
    refine va_callv (va_runV (As := [.ref x.1]) (rest := []) ⟨hx, hb, hml, hown, hg⟩ (c_S_comeToBeFree l D ty N0 _ h cn (hdO (l1 ++ x :: l2) none) (hdO s0 none) f v w z1 (chG l1 (some x.1)) (chG l2 none) x (hdO l2 none)) (cwV 1 hg (gw_V gw_77 gw_79 gw_1 gw_26 gw_80) rfl rfl rfl (by decide +kernel) ⟨Nat.le_of_ble_eq_true rfl, Nat.le_of_ble_eq_true rfl⟩) (pre_wrV hP hK hN hD hS hAN hN0 hE (ci := 0) (k := 0) rfl rfl) rfl rfl hl.1 rfl (lv_room (Nat.le_of_ble_eq_true rfl)) d_S_give_8 ⟨Nat.le_of_ble_eq_true rfl, Nat.le_of_ble_eq_true rfl⟩) hS (fun q _ h => hFc q h) hFc (fun u t H locs ht hvm hw hB hz1 hk1 hS => ?_)
    obtain ⟨hP, hK1, hD1⟩ := hB
    rw [ht] at hP
    have hD := hD1.weaken (fun _ _ _ h => hFc _ h)
    clear hK1 hD1 hFc hk1 hz1
    subst hw
    refine lv_aload_n hx hb d_S_give_11 rfl (lv_at hl 0 rfl) ?_
    refine va_getN (D := D) (ci := 1) (v := .int (nI x.2.2.1)) (C := R_P) (T := F_P) (N := 6) hx hb hg gi_P hown hK hP ((chG l1 (some x.1)).length + 1) (sw_get1 _ _ _ _) rfl 1 (by decide) (va_Nw.use rfl (hN.1 (60, "size", "I") (by decide))) (fun _ h9 => h9) rfl d_S_give_12 ?_
    refine W.widen (k := 1) (n := 6) (Nat.le_of_ble_eq_true rfl) (Nat.le_of_ble_eq_true rfl) ?_
    exact vx_ret (W.iret (v := (nI x.2.2.1)) hx hb hr (fun t ht hW => ⟨⟨_, _, rfl, ⟨x, l1, l2, hux, hL9, rfl, by rw [hL9, chG_mid]⟩, at2.of hP hK hD ht hW⟩, hS.F ht⟩) hS.2.2 d_S_give_15)
set_option maxHeartbeats 4000000 in
set_option maxRecDepth 100000 in
theorem c_S_mark (l : Launch) (hl9 : l.stackTraces = false) (D : va_G) (ty : tyL) (N0 sz : Nat) (h cn f : Nat) (v w z1 : Int32) (p0 s0 : List AP) (a : Int32) : vx_Met l y_S_mark (Cond.code y_S_mark b_S_mark 4 (some .boolean) :: GW) ({ frames := 7, cells := 2, slots := 12, locals := 104 }) (va_Pc [.ref h, .int a] (at1 D ty N0 sz (scell h cn (hdO (p0 ++ s0) none) (hdO s0 none) f v w z1 :: chG (p0 ++ s0) none))) (va_Qi (fun r ws' => s0 = [] ∧ ∃ x l1 l2, uAt a (p0 ++ s0) = some x ∧ p0 ++ s0 = l1 ++ x :: l2 ∧ r = bI (!x.2.2.2.2.1) ∧ ws' = scell h cn (hdO (p0 ++ s0) none) (hdO s0 none) f v w z1 :: chG (l1 ++ (x.1, x.2.1, x.2.2.1, x.2.2.2.1, true, x.2.2.2.2.2) :: l2) none) (at2 D ty (va_A (scell h cn (hdO (p0 ++ s0) none) (hdO s0 none) f v w z1 :: chG (p0 ++ s0) none) sz)) (va_A (scell h cn (hdO (p0 ++ s0) none) (hdO s0 none) f v w z1 :: chG (p0 ++ s0) none) sz)) (vx_X (fun z : String × va_W => z.2 = (scell h cn (hdO (p0 ++ s0) none) (hdO s0 none) f v w z1 :: chG (p0 ++ s0) none) ∧ (z.1 = "java/util/NoSuchElementException" ∧ uAt a (p0 ++ s0) = none ∨ z.1 = "java/lang/IllegalStateException" ∧ ¬ uAt a (p0 ++ s0) = none ∧ ¬ s0 = [])) (fun E z t => E = z.1 ∧ at2 D ty (va_A (scell h cn (hdO (p0 ++ s0) none) (hdO s0 none) f v w z1 :: chG (p0 ++ s0) none) sz) z.2 t) (va_A (scell h cn (hdO (p0 ++ s0) none) (hdO s0 none) f v w z1 :: chG (p0 ++ s0) none) sz)) 2 12 (va_A (scell h cn (hdO (p0 ++ s0) none) (hdO s0 none) f v w z1 :: chG (p0 ++ s0) none) sz) := by
  refine vx_ofW (cc := b_S_mark) (maxL := 4) (ret := (some .boolean)) (by decide) rfl ?_
  intro p e s m args below meth c s₁ B hml hEx hv
  obtain ⟨rfl, hsz, hN0, ⟨hP, hK, hN⟩, hD0, hE⟩ := hv
  subst hsz
  have hD := hD0.self (sz := s.heap.size)
  have hAN := sw_AN hD0 hN0
  generalize hAe : va_A (scell h cn (hdO (p0 ++ s0) none) (hdO s0 none) f v w z1 :: chG (p0 ++ s0) none) s.heap.size = A at hD hAN ⊢
  have hA : ∀ q : Nat, s.heap.size ≤ q → A q := fun q h => by rw [← hAe]; exact Or.inr h
  have hS : va_S A s.heap s.heap [] := va_S.rf
  have hP : va_P D classes (scell h cn (hdO (p0 ++ s0) none) (hdO s0 none) f v w z1 :: chG (p0 ++ s0) none) s.heap := hP
  have hx := B.exec
  have hb := B.bytes
  have hr := B.returns
  have hg : ∀ w ∈ GW, w.before _ s = true := fun w h => atoms_spec (ws := Cond.code y_S_mark b_S_mark 4 (some .boolean) :: GW) B.pre w (List.mem_cons_of_mem _ h)
  have hown : s.vm.findClass R_S = some m.cls := findClass_of_methodNamed B.named
  have hlocks := B.notSynchronized
  have hl := lv_entry ([.ref h, .int a]) (n := 4) (Nat.le_of_ble_eq_true rfl)
  rw [lg_entry_eq]
  generalize (lg_sl ([.ref h, .int a]) ++ List.replicate (4 - (lg_sl ([.ref h, .int a])).length) Slot.unset).toArray = ls at hl ⊢
  replace hl : lv_has ls 4 [(0, .ref h), (1, .int a)] := hl
  refine lv_aload_n hx hb d_S_mark_0 rfl (lv_at hl 0 rfl) ?_
  refine lv_iload_n hx hb d_S_mark_1 rfl (lv_at hl 1 rfl) ?_
  have hFc := sw_free hD hS hA
  refine vx_callq (vx_runV (As := [.int a]) (rest := []) ⟨hx, hb, hml, hown, hg⟩ (c_S_usedPieceAt l hl9 D ty N0 _ h cn (hdO s0 none) f v w z1 (p0 ++ s0) a) (cwV 1 hg (gw_V gw_241 gw_243 gw_9 gw_26 gw_244) rfl rfl rfl (by decide +kernel) ⟨Nat.le_of_ble_eq_true rfl, Nat.le_of_ble_eq_true rfl⟩) (pre_wrV hP hK hN hD hS hAN hN0 hE (ci := 0) (k := 0) rfl rfl) rfl rfl hl.1 rfl (lv_room (Nat.le_of_ble_eq_true rfl)) d_S_mark_2 ⟨Nat.le_of_ble_eq_true rfl, Nat.le_of_ble_eq_true rfl⟩) hS (fun q _ h => hFc q h) hFc (fun q _ h => hFc q h) (fun E ce q9 z t H locs ht hvm hw hB hz1 hk1 hS hce hcv hcl => ?_) (fun r1 u t H locs ht hvm hw hB hz1 hk1 hS => ?_)
  · obtain ⟨hE9, hP, hK1, hD1⟩ := hB
    obtain ⟨hw1, hw2⟩ := hw
    rw [ht, hw1] at hP
    rw [hw1] at hD1
    replace hD := hD1.weaken (fun _ _ _ h => hFc _ h)
    exact vx_out (E := E) (fun x hx => (hEx x hx).elim) hlocks hce hcv hcl (fun t' ht' ha => ⟨(E, _), ⟨rfl, Or.inl ⟨hE9.trans hw2.1, hw2.2⟩⟩, ⟨rfl, by rw [ht']; exact hP, va_K.moved ha hK, hD⟩, hS.F ht'⟩) hS.2.2 (Nat.le_of_ble_eq_true rfl) (Nat.le_of_ble_eq_true rfl)
  · obtain ⟨hP, hK1, hD1⟩ := hB
    rw [ht] at hP
    have hD := hD1.weaken (fun _ _ _ h => hFc _ h)
    clear hK1 hD1 hFc hk1 hz1
    obtain ⟨rfl, x, hux, rfl⟩ := hw
    obtain ⟨hxL, hxu, hpa⟩ := uAt_mem hux
    obtain ⟨l1, l2, hL9⟩ := List.append_of_mem hxL
    refine W.eq (g2 := F0 m 5 ls [.ref x.1]) rfl ?_
    refine lv_astore_n (lv' := [(2, .ref x.1), (0, .ref h), (1, .int a)]) hx hb d_S_mark_5 rfl hl (by decide) rfl (fun ls hl => ?_)
    refine lv_aload_n hx hb d_S_mark_6 rfl (lv_at hl 1 rfl) ?_
    have hFc := sw_free hD hS hA
    refine vx_callv (vx_runV (As := []) (rest := []) ⟨hx, hb, hml, hown, hg⟩ (c_S_refuseDuringSweep l hl9 D ty N0 _ h cn (hdO s0 none) f v w z1 (p0 ++ s0)) (cwV 0 hg (gw_V gw_269 gw_271 gw_10 gw_26 gw_272) rfl rfl rfl (by decide +kernel) ⟨Nat.le_of_ble_eq_true rfl, Nat.le_of_ble_eq_true rfl⟩) (pre_wrV hP hK hN hD hS hAN hN0 hE (ci := 0) (k := 0) rfl rfl) rfl rfl hl.1 rfl (lv_room (Nat.le_of_ble_eq_true rfl)) d_S_mark_7 ⟨Nat.le_of_ble_eq_true rfl, Nat.le_of_ble_eq_true rfl⟩) hS (fun q _ h => hFc q h) hFc (fun q _ h => hFc q h) (fun E ce q9 z t H locs ht hvm hw hB hz1 hk1 hS hce hcv hcl => ?_) (fun u t H locs ht hvm hw hB hz1 hk1 hS => ?_)
    · obtain ⟨hE9, hP, hK1, hD1⟩ := hB
      obtain ⟨hw1, hw2⟩ := hw
      rw [ht, hw1] at hP
      rw [hw1] at hD1
      replace hD := hD1.weaken (fun _ _ _ h => hFc _ h)
      exact vx_out (E := E) (fun x hx => (hEx x hx).elim) hlocks hce hcv hcl (fun t' ht' ha => ⟨(E, _), ⟨rfl, Or.inr ⟨hE9.trans hw2.1, by rw [hux]; exact (fun h9 => by cases h9), fun h9 => hw2.2 (hdO_none.mpr h9)⟩⟩, ⟨rfl, by rw [ht']; exact hP, va_K.moved ha hK, hD⟩, hS.F ht'⟩) hS.2.2 (Nat.le_of_ble_eq_true rfl) (Nat.le_of_ble_eq_true rfl)
    · obtain ⟨hP, hK1, hD1⟩ := hB
      rw [ht] at hP
      have hD := hD1.weaken (fun _ _ _ h => hFc _ h)
      clear hK1 hD1 hFc hk1 hz1
      obtain ⟨rfl, hnone⟩ := hw
      rw [hL9, chG_mid] at hP hD
      replace hP : va_P D classes ((h, .inr (0, [.int (nI cn), va_rf (hdO (l1 ++ x :: l2) none), va_rf (hdO s0 none), .long (lN f), .int v, .int w, .int z1])) :: ((chG l1 (some x.1)) ++ ((x.1, .inr (1, [.int (nI x.2.1), .int (nI x.2.2.1), .int (bI x.2.2.2.1), .int (bI x.2.2.2.2.1), .long (lN x.2.2.2.2.2), va_rf (hdO l2 none)])) :: chG l2 none))) _ := hP
      replace hD : va_D A ((h, .inr (0, [.int (nI cn), va_rf (hdO (l1 ++ x :: l2) none), va_rf (hdO s0 none), .long (lN f), .int v, .int w, .int z1])) :: ((chG l1 (some x.1)) ++ ((x.1, .inr (1, [.int (nI x.2.1), .int (nI x.2.2.1), .int (bI x.2.2.2.1), .int (bI x.2.2.2.2.1), .long (lN x.2.2.2.2.2), va_rf (hdO l2 none)])) :: chG l2 none))) := hD
      refine lv_aload_n hx hb d_S_mark_10 rfl (lv_at hl 0 rfl) ?_
      refine va_getN (D := D) (ci := 1) (v := .int (bI x.2.2.2.2.1)) (C := R_P) (T := F_P) (N := 6) hx hb hg gi_P hown hK hP ((chG l1 (some x.1)).length + 1) (sw_get1 _ _ _ _) rfl 3 (by decide) (va_Nw.use rfl (hN.1 (50, "marked", "Z") (by decide))) (fun _ h9 => h9) rfl d_S_mark_11 ?_
      refine lv_if_ne (tgt := 21) hx hb d_S_mark_14 (by decide) (fun c_14 => ?_) (fun c_14 => ?_)
      · refine lv_iconst (v := 0) hx hb d_S_mark_21 (by decide) ?_
        refine lv_topi (fun y1 ey1 => ?_)
        obtain rfl : y1 = bI (!x.2.2.2.2.1) := ey1.trans (by rw [bI_n0.mp c_14]; rfl)
        clear ey1
        refine lv_istore_n (lv' := [(3, .int (bI (!x.2.2.2.2.1))), (2, .ref x.1), (0, .ref h), (1, .int a)]) hx hb d_S_mark_22 rfl hl (by decide) rfl (fun ls hl => ?_)
        refine lv_aload_n hx hb d_S_mark_23 rfl (lv_at hl 1 rfl) ?_
        refine lv_iconst (v := 1) hx hb d_S_mark_24 (by decide) ?_
        refine va_putN (D := D) (ci := 1) (v := .int 1) (ty := .boolean) (C := R_P) (T := F_P) (N := 6) hx hb hg gi_P t_P t_P_ok n_P hown hK hP hD hS ((chG l1 (some x.1)).length + 1) (sw_get1 _ _ _ _) rfl 3 (by decide) (va_Nw.use rfl (hN.1 (50, "marked", "Z") (by decide))) (fun _ h9 => h9) rfl (by decide +kernel) rfl rfl (Nat.le_of_ble_eq_true rfl) d_S_mark_25 (fun H locs hP hD hS => ?_)
        rw [sw_set1] at hP hD
        replace hP : va_P D classes ((h, .inr (0, [.int (nI cn), va_rf (hdO (l1 ++ x :: l2) none), va_rf (hdO s0 none), .long (lN f), .int v, .int w, .int z1])) :: ((chG l1 (some x.1)) ++ ((x.1, .inr (1, [.int (nI x.2.1), .int (nI x.2.2.1), .int (bI x.2.2.2.1), .int 1, .long (lN x.2.2.2.2.2), va_rf (hdO l2 none)])) :: chG l2 none))) _ := hP
        replace hD : va_D A ((h, .inr (0, [.int (nI cn), va_rf (hdO (l1 ++ x :: l2) none), va_rf (hdO s0 none), .long (lN f), .int v, .int w, .int z1])) :: ((chG l1 (some x.1)) ++ ((x.1, .inr (1, [.int (nI x.2.1), .int (nI x.2.2.1), .int (bI x.2.2.2.1), .int 1, .long (lN x.2.2.2.2.2), va_rf (hdO l2 none)])) :: chG l2 none))) := hD
        refine lv_iload_n hx hb d_S_mark_28 rfl (lv_at hl 0 rfl) ?_
        refine W.widen (k := 2) (n := 12) (Nat.le_of_ble_eq_true rfl) (Nat.le_of_ble_eq_true rfl) ?_
        exact vx_ret (W.zret (v := (bI (!x.2.2.2.2.1))) hx hb hr (bI_nar _) (fun t ht hW => ⟨⟨_, _, rfl, ⟨hdO_none.mp hnone, x, l1, l2, hux, hL9, rfl, by rw [hL9, chG_mid]; rfl⟩, at2.of hP hK hD ht hW⟩, hS.F ht⟩) hS.2.2 d_S_mark_29)
      · refine lv_iconst (v := 1) hx hb d_S_mark_17 (by decide) ?_
        refine lv_goto (tgt := 22) hx hb d_S_mark_18 (by decide) ?_
        refine lv_topi (fun y2 ey2 => ?_)
        obtain rfl : y2 = bI (!x.2.2.2.2.1) := ey2.trans (by rw [bI_0.mp c_14]; rfl)
        clear ey2
        refine lv_istore_n (lv' := [(3, .int (bI (!x.2.2.2.2.1))), (2, .ref x.1), (0, .ref h), (1, .int a)]) hx hb d_S_mark_22 rfl hl (by decide) rfl (fun ls hl => ?_)
        refine lv_aload_n hx hb d_S_mark_23 rfl (lv_at hl 1 rfl) ?_
        refine lv_iconst (v := 1) hx hb d_S_mark_24 (by decide) ?_
        refine va_putN (D := D) (ci := 1) (v := .int 1) (ty := .boolean) (C := R_P) (T := F_P) (N := 6) hx hb hg gi_P t_P t_P_ok n_P hown hK hP hD hS ((chG l1 (some x.1)).length + 1) (sw_get1 _ _ _ _) rfl 3 (by decide) (va_Nw.use rfl (hN.1 (50, "marked", "Z") (by decide))) (fun _ h9 => h9) rfl (by decide +kernel) rfl rfl (Nat.le_of_ble_eq_true rfl) d_S_mark_25 (fun H locs hP hD hS => ?_)
        rw [sw_set1] at hP hD
        replace hP : va_P D classes ((h, .inr (0, [.int (nI cn), va_rf (hdO (l1 ++ x :: l2) none), va_rf (hdO s0 none), .long (lN f), .int v, .int w, .int z1])) :: ((chG l1 (some x.1)) ++ ((x.1, .inr (1, [.int (nI x.2.1), .int (nI x.2.2.1), .int (bI x.2.2.2.1), .int 1, .long (lN x.2.2.2.2.2), va_rf (hdO l2 none)])) :: chG l2 none))) _ := hP
        replace hD : va_D A ((h, .inr (0, [.int (nI cn), va_rf (hdO (l1 ++ x :: l2) none), va_rf (hdO s0 none), .long (lN f), .int v, .int w, .int z1])) :: ((chG l1 (some x.1)) ++ ((x.1, .inr (1, [.int (nI x.2.1), .int (nI x.2.2.1), .int (bI x.2.2.2.1), .int 1, .long (lN x.2.2.2.2.2), va_rf (hdO l2 none)])) :: chG l2 none))) := hD
        refine lv_iload_n hx hb d_S_mark_28 rfl (lv_at hl 0 rfl) ?_
        refine W.widen (k := 2) (n := 12) (Nat.le_of_ble_eq_true rfl) (Nat.le_of_ble_eq_true rfl) ?_
        exact vx_ret (W.zret (v := (bI (!x.2.2.2.2.1))) hx hb hr (bI_nar _) (fun t ht hW => ⟨⟨_, _, rfl, ⟨hdO_none.mp hnone, x, l1, l2, hux, hL9, rfl, by rw [hL9, chG_mid]; rfl⟩, at2.of hP hK hD ht hW⟩, hS.F ht⟩) hS.2.2 d_S_mark_29)
set_option maxHeartbeats 4000000 in
set_option maxRecDepth 100000 in
theorem c_S_begin (l : Launch) (hl9 : l.stackTraces = false) (D : va_G) (ty : tyL) (N0 sz : Nat) (h cn f : Nat) (v w z1 : Int32) (p0 s0 : List AP) : vx_Met l y_S_begin (Cond.code y_S_begin b_S_begin 1 none :: GW) ({ frames := 7, cells := 1, slots := 6, locals := 102 }) (va_Pc [.ref h] (at1 D ty N0 sz (scell h cn (hdO (p0 ++ s0) none) (hdO s0 none) f v w z1 :: chG (p0 ++ s0) none))) (va_Qv (fun ws' => s0 = [] ∧ ws' = scell h cn (hdO (p0 ++ s0) none) (hdO (p0 ++ s0) none) f v w z1 :: chG (p0 ++ s0) none) (at2 D ty (va_A (scell h cn (hdO (p0 ++ s0) none) (hdO s0 none) f v w z1 :: chG (p0 ++ s0) none) sz)) (va_A (scell h cn (hdO (p0 ++ s0) none) (hdO s0 none) f v w z1 :: chG (p0 ++ s0) none) sz)) (vx_X (fun z : String × va_W => z.2 = (scell h cn (hdO (p0 ++ s0) none) (hdO s0 none) f v w z1 :: chG (p0 ++ s0) none) ∧ z.1 = "java/lang/IllegalStateException" ∧ ¬ s0 = []) (fun E z t => E = z.1 ∧ at2 D ty (va_A (scell h cn (hdO (p0 ++ s0) none) (hdO s0 none) f v w z1 :: chG (p0 ++ s0) none) sz) z.2 t) (va_A (scell h cn (hdO (p0 ++ s0) none) (hdO s0 none) f v w z1 :: chG (p0 ++ s0) none) sz)) 1 6 (va_A (scell h cn (hdO (p0 ++ s0) none) (hdO s0 none) f v w z1 :: chG (p0 ++ s0) none) sz) := by
  refine vx_ofW (cc := b_S_begin) (maxL := 1) (ret := none) (by decide) rfl ?_
  intro p e s m args below meth c s₁ B hml hEx hv
  obtain ⟨rfl, hsz, hN0, ⟨hP, hK, hN⟩, hD0, hE⟩ := hv
  subst hsz
  have hD := hD0.self (sz := s.heap.size)
  have hAN := sw_AN hD0 hN0
  generalize hAe : va_A (scell h cn (hdO (p0 ++ s0) none) (hdO s0 none) f v w z1 :: chG (p0 ++ s0) none) s.heap.size = A at hD hAN ⊢
  have hA : ∀ q : Nat, s.heap.size ≤ q → A q := fun q h => by rw [← hAe]; exact Or.inr h
  have hS : va_S A s.heap s.heap [] := va_S.rf
  have hP : va_P D classes (scell h cn (hdO (p0 ++ s0) none) (hdO s0 none) f v w z1 :: chG (p0 ++ s0) none) s.heap := hP
  have hx := B.exec
  have hb := B.bytes
  have hr := B.returns
  have hg : ∀ w ∈ GW, w.before _ s = true := fun w h => atoms_spec (ws := Cond.code y_S_begin b_S_begin 1 none :: GW) B.pre w (List.mem_cons_of_mem _ h)
  have hown : s.vm.findClass R_S = some m.cls := findClass_of_methodNamed B.named
  have hlocks := B.notSynchronized
  have hl := lv_entry ([.ref h]) (n := 1) (Nat.le_of_ble_eq_true rfl)
  rw [lg_entry_eq]
  generalize (lg_sl ([.ref h]) ++ List.replicate (1 - (lg_sl ([.ref h])).length) Slot.unset).toArray = ls at hl ⊢
  replace hl : lv_has ls 1 [(0, .ref h)] := hl
  refine lv_aload_n hx hb d_S_begin_0 rfl (lv_at hl 0 rfl) ?_
  have hFc := sw_free hD hS hA
  refine vx_callv (vx_runV (As := []) (rest := []) ⟨hx, hb, hml, hown, hg⟩ (c_S_refuseDuringSweep l hl9 D ty N0 _ h cn (hdO s0 none) f v w z1 (p0 ++ s0)) (cwV 0 hg (gw_V gw_269 gw_271 gw_10 gw_26 gw_272) rfl rfl rfl (by decide +kernel) ⟨Nat.le_of_ble_eq_true rfl, Nat.le_of_ble_eq_true rfl⟩) (pre_wrV hP hK hN hD hS hAN hN0 hE (ci := 0) (k := 0) rfl rfl) rfl rfl hl.1 rfl (lv_room (Nat.le_of_ble_eq_true rfl)) d_S_begin_1 ⟨Nat.le_of_ble_eq_true rfl, Nat.le_of_ble_eq_true rfl⟩) hS (fun q _ h => hFc q h) hFc (fun q _ h => hFc q h) (fun E ce q9 z t H locs ht hvm hw hB hz1 hk1 hS hce hcv hcl => ?_) (fun u t H locs ht hvm hw hB hz1 hk1 hS => ?_)
  · obtain ⟨hE9, hP, hK1, hD1⟩ := hB
    obtain ⟨hw1, hw2⟩ := hw
    rw [ht, hw1] at hP
    rw [hw1] at hD1
    replace hD := hD1.weaken (fun _ _ _ h => hFc _ h)
    exact vx_out (E := E) (fun x hx => (hEx x hx).elim) hlocks hce hcv hcl (fun t' ht' ha => ⟨(E, _), ⟨rfl, ⟨hE9.trans hw2.1, fun h9 => hw2.2 (hdO_none.mpr h9)⟩⟩, ⟨rfl, by rw [ht']; exact hP, va_K.moved ha hK, hD⟩, hS.F ht'⟩) hS.2.2 (Nat.le_of_ble_eq_true rfl) (Nat.le_of_ble_eq_true rfl)
  · obtain ⟨hP, hK1, hD1⟩ := hB
    rw [ht] at hP
    have hD := hD1.weaken (fun _ _ _ h => hFc _ h)
    clear hK1 hD1 hFc hk1 hz1
    obtain ⟨rfl, hnone⟩ := hw
    refine lv_aload_n hx hb d_S_begin_4 rfl (lv_at hl 0 rfl) ?_
    refine lv_aload_n hx hb d_S_begin_5 rfl (lv_at hl 0 rfl) ?_
    refine va_get (D := D) (ci := 0) (v := va_rf (hdO (p0 ++ s0) none)) (C := R_S) (T := F_S) (N := 7) hx hb hg gi_S hown hK hP 0 rfl rfl 1 (by decide) (hg _ gw_82) (fun _ h9 => h9) rfl d_S_begin_6 ?_
    refine va_put (D := D) (ci := 0) (v := va_rf (hdO (p0 ++ s0) none)) (ty := .object "SweepHand$Piece") (C := R_S) (T := F_S) (N := 7) hx hb hg gi_S t_S t_S_ok n_S hown hK hP hD hS 0 rfl rfl 2 (by decide) (hg _ gw_83) (fun _ h9 => h9) rfl (by decide +kernel) (sv_nar _ _) (sv_fit _ _) (Nat.le_of_ble_eq_true rfl) d_S_begin_9 (fun H locs hP hD hS => ?_)
    replace hP : va_P D classes ((h, .inr (0, [.int (nI cn), va_rf (hdO (p0 ++ s0) none), va_rf (hdO (p0 ++ s0) none), .long (lN f), .int v, .int w, .int z1])) :: chG (p0 ++ s0) none) _ := hP
    replace hD : va_D A ((h, .inr (0, [.int (nI cn), va_rf (hdO (p0 ++ s0) none), va_rf (hdO (p0 ++ s0) none), .long (lN f), .int v, .int w, .int z1])) :: chG (p0 ++ s0) none) := hD
    refine W.widen (k := 1) (n := 6) (Nat.le_of_ble_eq_true rfl) (Nat.le_of_ble_eq_true rfl) ?_
    exact vx_ret (W.vret hx hb hr (fun t ht hW => ⟨⟨_, rfl, ⟨hdO_none.mp hnone, rfl⟩, at2.of hP hK hD ht hW⟩, hS.F ht⟩) hS.2.2 d_S_begin_12)
