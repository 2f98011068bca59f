set_option maxHeartbeats 4000000 in
set_option maxRecDepth 100000 in
theorem c_S_isTakenBefore (l : Launch) (D : va_G) (ty : tyL) (ws : va_W) (i j : Nat) (x y : AP) (nx ny : Option Nat) (hi : ws[i]? = some (pcell x nx)) (hj : ws[j]? = some (pcell y ny)) (h1 : x.2.2.1 < 2 ^ 31) (h2 : y.2.2.1 < 2 ^ 31) (h3 : x.2.2.2.2.2 < 2 ^ 63) (h4 : y.2.2.2.2.2 < 2 ^ 63) : Met l y_S_isTakenBefore (Cond.code y_S_isTakenBefore b_S_isTakenBefore 2 (some .boolean) :: GW) ({ frames := 0, cells := 0, slots := 0, locals := 0 }) (va_Pc [.ref x.1, .ref y.1] (at0 D ty ws)) (vp_Si (fun r => r = bI (befo x y))) 0 0 (fun _ => False) := by
  refine Met.ofW (cc := b_S_isTakenBefore) (maxL := 2) (ret := (some .boolean)) (by decide) rfl ?_
  intro p e s m args below meth c s₁ B hml hv
  obtain ⟨rfl, hP, hK, hN⟩ := hv
  have hx := B.exec
  have hb := B.bytes
  have hr := B.returns
  have hg : ∀ w ∈ GW, w.before _ s = true := fun w h => atoms_spec (ws := Cond.code y_S_isTakenBefore b_S_isTakenBefore 2 (some .boolean) :: GW) B.pre w (List.mem_cons_of_mem _ h)
  have hown : s.vm.findClass R_S = some m.cls := findClass_of_methodNamed B.named
  have hlocks := B.notSynchronized
  have hl := lv_entry ([.ref x.1, .ref y.1]) (n := 2) (Nat.le_of_ble_eq_true rfl)
  rw [lg_entry_eq]
  generalize (lg_sl ([.ref x.1, .ref y.1]) ++ List.replicate (2 - (lg_sl ([.ref x.1, .ref y.1])).length) Slot.unset).toArray = ls at hl ⊢
  replace hl : lv_has ls 2 [(0, .ref x.1), (1, .ref y.1)] := hl
  refine lv_aload_n hx hb d_S_isTakenBefore_0 rfl (lv_at hl 0 rfl) ?_
  refine va_getN (D := D) (ci := 1) (v := .int (nI x.2.2.1)) (C := R_P) (T := F_P) (N := 6) hx hb hg gi_P hown hK hP i hi rfl 1 (by decide) (va_Nw.use rfl (hN.1 (60, "size", "I") (by decide))) (fun _ h9 => h9) rfl d_S_isTakenBefore_1 ?_
  refine lv_aload_n hx hb d_S_isTakenBefore_4 rfl (lv_at hl 1 rfl) ?_
  refine va_getN (D := D) (ci := 1) (v := .int (nI y.2.2.1)) (C := R_P) (T := F_P) (N := 6) hx hb hg gi_P hown hK hP j hj rfl 1 (by decide) (va_Nw.use rfl (hN.1 (60, "size", "I") (by decide))) (fun _ h9 => h9) rfl d_S_isTakenBefore_5 ?_
  refine lv_icmp_eq (tgt := 28) hx hb d_S_isTakenBefore_8 (by decide) (fun c_8 => ?_) (fun c_8 => ?_)
  · refine lv_aload_n hx hb d_S_isTakenBefore_28 rfl (lv_at hl 0 rfl) ?_
    refine va_getN (D := D) (ci := 1) (v := .long (lN x.2.2.2.2.2)) (C := R_P) (T := F_P) (N := 6) hx hb hg gi_P hown hK hP i hi rfl 4 (by decide) (va_Nw.use rfl (hN.1 (114, "freedAt", "J") (by decide))) (fun _ h9 => h9) rfl d_S_isTakenBefore_29 ?_
    refine lv_aload_n hx hb d_S_isTakenBefore_32 rfl (lv_at hl 1 rfl) ?_
    refine va_getN (D := D) (ci := 1) (v := .long (lN y.2.2.2.2.2)) (C := R_P) (T := F_P) (N := 6) hx hb hg gi_P hown hK hP j hj rfl 4 (by decide) (va_Nw.use rfl (hN.1 (114, "freedAt", "J") (by decide))) (fun _ h9 => h9) rfl d_S_isTakenBefore_33 ?_
    refine W.lcmp hx hb d_S_isTakenBefore_36 ?_
    refine lv_if_le (tgt := 44) hx hb d_S_isTakenBefore_37 (by decide) (fun c_37 => ?_) (fun c_37 => ?_)
    · refine lv_iconst (v := 0) hx hb d_S_isTakenBefore_44 (by decide) ?_
      exact W.zret (v := 0) hx hb hr rfl (fun t ht hW => ⟨_, rfl, (by have h := (pk_lLE h3 h4).mp ((lg_cmp_le _ _).mp c_37); simp [befo, (nI_eq h1 h2).mp c_8, Nat.not_lt.mpr h, bI]), ht⟩) (fun q h => nomatch h) d_S_isTakenBefore_45
    · refine lv_iconst (v := 1) hx hb d_S_isTakenBefore_40 (by decide) ?_
      refine lv_goto (tgt := 45) hx hb d_S_isTakenBefore_41 (by decide) ?_
      exact W.zret (v := 1) hx hb hr rfl (fun t ht hW => ⟨_, rfl, (by have h := Nat.not_le.mp (fun h => c_37 ((lg_cmp_le _ _).mpr ((pk_lLE h3 h4).mpr h))); simp [befo, (nI_eq h1 h2).mp c_8, h, bI]), ht⟩) (fun q h => nomatch h) d_S_isTakenBefore_45
  · refine lv_aload_n hx hb d_S_isTakenBefore_11 rfl (lv_at hl 0 rfl) ?_
    refine va_getN (D := D) (ci := 1) (v := .int (nI x.2.2.1)) (C := R_P) (T := F_P) (N := 6) hx hb hg gi_P hown hK hP i hi rfl 1 (by decide) (va_Nw.use rfl (hN.1 (60, "size", "I") (by decide))) (fun _ h9 => h9) rfl d_S_isTakenBefore_12 ?_
    refine lv_aload_n hx hb d_S_isTakenBefore_15 rfl (lv_at hl 1 rfl) ?_
    refine va_getN (D := D) (ci := 1) (v := .int (nI y.2.2.1)) (C := R_P) (T := F_P) (N := 6) hx hb hg gi_P hown hK hP j hj rfl 1 (by decide) (va_Nw.use rfl (hN.1 (60, "size", "I") (by decide))) (fun _ h9 => h9) rfl d_S_isTakenBefore_16 ?_
    refine lv_icmp_ge (tgt := 26) hx hb d_S_isTakenBefore_19 (by decide) (fun c_19 => ?_) (fun c_19 => ?_)
    · refine lv_iconst (v := 0) hx hb d_S_isTakenBefore_26 (by decide) ?_
      exact W.zret (v := 0) hx hb hr rfl (fun t ht hW => ⟨_, rfl, (by have h := (nI_leI h2 h1).mp c_19; simp [befo, show ¬ x.2.2.1 = y.2.2.1 from (fun h => c_8 (by rw [h])), Nat.not_lt.mpr h, bI]), ht⟩) (fun q h => nomatch h) d_S_isTakenBefore_27
    · refine lv_iconst (v := 1) hx hb d_S_isTakenBefore_22 (by decide) ?_
      refine lv_goto (tgt := 27) hx hb d_S_isTakenBefore_23 (by decide) ?_
      exact W.zret (v := 1) hx hb hr rfl (fun t ht hW => ⟨_, rfl, (by have h := Nat.not_le.mp (fun h => c_19 ((nI_leI h2 h1).mpr h)); simp [befo, show ¬ x.2.2.1 = y.2.2.1 from (fun h => c_8 (by rw [h])), h, bI]), ht⟩) (fun q h => nomatch h) d_S_isTakenBefore_27
set_option maxHeartbeats 4000000 in
set_option maxRecDepth 100000 in
theorem c_S_pieceAt (l : Launch) (D : va_G) (ty : tyL) (h cn : Nat) (ha : Option Nat) (f : Nat) (v w z : Int32) (L : List AP) (a : Int32) : Met l y_S_pieceAt (Cond.code y_S_pieceAt b_S_pieceAt 3 (some (.object "SweepHand$Piece")) :: GW) ({ frames := 0, cells := 0, slots := 0, locals := 0 }) (va_Pc [.ref h, .int a] (at0 D ty (scell h cn (hdO L none) ha f v w z :: chG L none))) (va_Sq (fun r => r = (pAt a L).map Prod.fst)) 0 0 (fun _ => False) := by
  refine Met.ofW (cc := b_S_pieceAt) (maxL := 3) (ret := (some (.object "SweepHand$Piece"))) (by decide) rfl ?_
  intro p e s m args below meth c s₁ B hml hv
  obtain ⟨rfl, hP, hK, hN⟩ := hv
  have hx := B.exec
  have hb := B.bytes
  have hr := B.returns
  have hg : ∀ w ∈ GW, w.before _ s = true := fun w h => atoms_spec (ws := Cond.code y_S_pieceAt b_S_pieceAt 3 (some (.object "SweepHand$Piece")) :: GW) B.pre w (List.mem_cons_of_mem _ h)
  have hown : s.vm.findClass R_S = some m.cls := findClass_of_methodNamed B.named
  have hlocks := B.notSynchronized
  have hl := lv_entry ([.ref h, .int a]) (n := 3) (Nat.le_of_ble_eq_true rfl)
  rw [lg_entry_eq]
  generalize (lg_sl ([.ref h, .int a]) ++ List.replicate (3 - (lg_sl ([.ref h, .int a])).length) Slot.unset).toArray = ls at hl ⊢
  replace hl : lv_has ls 3 [(0, .ref h), (1, .int a)] := hl
  refine lv_aload_n hx hb d_S_pieceAt_0 rfl (lv_at hl 0 rfl) ?_
  refine va_get (D := D) (ci := 0) (v := va_rf (hdO L none)) (C := R_S) (T := F_S) (N := 7) hx hb hg gi_S hown hK hP 0 rfl rfl 1 (by decide) (hg _ gw_82) (fun _ h9 => h9) rfl d_S_pieceAt_1 ?_
  refine sv_astore_n (lv' := [(2, va_rf (hdO L none)), (0, .ref h), (1, .int a)]) hx hb d_S_pieceAt_4 rfl hl (by decide) rfl (fun ls hl => ?_)
  obtain ⟨suf, hs⟩ : ∃ suf, suf = L := ⟨_, rfl⟩
  replace hl := lv_sub hl [0, 1, 2] rfl
  replace hl : lv_has ls 3 [(2, va_rf (hdO L none)), (0, .ref h), (1, .int a)] := hl
  replace hl : lv_has ls 3 [(2, va_rf (hdO suf none)), (0, .ref h), (1, .int a)] := by rw [hs]; exact hl
  have hpre : ∃ pre, L = pre ++ suf := ⟨[], hs.symm⟩
  have hq : pAt a L = pAt a suf := by rw [hs]
  clear hs
  revert hq; revert hpre; revert hl; revert ls
  induction suf with
  | nil =>
    intro ls hl hpre hq
    replace hl : lv_has ls 3 [(2, .null), (0, .ref h), (1, .int a)] := hl
    refine lv_aload_nN hx hb d_S_pieceAt_5 rfl (lv_at hl 0 rfl) ?_
    refine lv_ifnullN (tgt := 35) hx hb d_S_pieceAt_6 (by decide) ?_
    refine lv_null hx hb d_S_pieceAt_35 ?_
    exact W.aret (v := .null) hx hb hr (Or.inl ⟨_, rfl⟩) (Or.inl rfl) (fun t ht hW => ⟨none, rfl, (by rw [hq]; rfl), ht⟩) (fun q h => nomatch h) d_S_pieceAt_36
  | cons x suf ih =>
    intro ls hl hpre hq
    replace hl : lv_has ls 3 [(2, .ref x.1), (0, .ref h), (1, .int a)] := hl
    obtain ⟨pre, hpre⟩ := hpre
    have he := chG_at (scell h cn (hdO L none) ha f v w z) pre x suf none
    rw [← hpre] at he
    refine lv_aload_n hx hb d_S_pieceAt_5 rfl (lv_at hl 0 rfl) ?_
    refine lv_ifnull hx hb d_S_pieceAt_6 ?_
    refine lv_aload_n hx hb d_S_pieceAt_9 rfl (lv_at hl 0 rfl) ?_
    refine va_getN (D := D) (ci := 1) (v := .int (nI x.2.1)) (C := R_P) (T := F_P) (N := 6) hx hb hg gi_P hown hK hP (pre.length + 1) he rfl 0 (by decide) (va_Nw.use rfl (hN.1 (47, "begin", "I") (by decide))) (fun _ h9 => h9) rfl d_S_pieceAt_10 ?_
    refine lv_iload_n hx hb d_S_pieceAt_13 rfl (lv_at hl 2 rfl) ?_
    refine lv_icmp_gt (tgt := 35) hx hb d_S_pieceAt_14 (by decide) (fun c_14 => ?_) (fun c_14 => ?_)
    · refine lv_null hx hb d_S_pieceAt_35 ?_
      exact W.aret (v := .null) hx hb hr (Or.inl ⟨_, rfl⟩) (Or.inl rfl) (fun t ht hW => ⟨none, rfl, (by rw [hq, pAt, if_neg (Int32.not_le.mpr c_14)]; rfl), ht⟩) (fun q h => nomatch h) d_S_pieceAt_36
    · refine lv_aload_n hx hb d_S_pieceAt_17 rfl (lv_at hl 0 rfl) ?_
      refine va_getN (D := D) (ci := 1) (v := .int (nI x.2.1)) (C := R_P) (T := F_P) (N := 6) hx hb hg gi_P hown hK hP (pre.length + 1) he rfl 0 (by decide) (va_Nw.use rfl (hN.1 (47, "begin", "I") (by decide))) (fun _ h9 => h9) rfl d_S_pieceAt_18 ?_
      refine lv_iload_n hx hb d_S_pieceAt_21 rfl (lv_at hl 2 rfl) ?_
      refine lv_icmp_ne (tgt := 27) hx hb d_S_pieceAt_22 (by decide) (fun c_22 => ?_) (fun c_22 => ?_)
      · refine lv_aload_n hx hb d_S_pieceAt_27 rfl (lv_at hl 0 rfl) ?_
        refine va_getN (D := D) (ci := 1) (v := va_rf (hdO suf none)) (C := R_P) (T := F_P) (N := 6) hx hb hg gi_P hown hK hP (pre.length + 1) he rfl 5 (by decide) (va_Nw.use rfl (hN.1 (69, "next", "LSweepHand$Piece;") (by decide))) (fun _ h9 => h9) rfl d_S_pieceAt_28 ?_
        refine sv_astore_n (lv' := [(2, va_rf (hdO suf none)), (0, .ref h), (1, .int a)]) hx hb d_S_pieceAt_31 rfl hl (by decide) rfl (fun ls hl => ?_)
        refine lv_goto (tgt := 5) hx hb d_S_pieceAt_32 (by decide) ?_
        exact ih ls (lv_sub hl [0, 1, 2] rfl) ⟨pre ++ [x], by rw [hpre, List.append_assoc]; rfl⟩ (by rw [hq, pAt, if_pos (Int32.not_lt.mp c_14), if_neg c_22])
      · refine lv_aload_n hx hb d_S_pieceAt_25 rfl (lv_at hl 0 rfl) ?_
        exact W.aret (v := .ref x.1) hx hb hr (Or.inl ⟨_, rfl⟩) (Or.inr ⟨_, rfl⟩) (fun t ht hW => ⟨(some x.1), rfl, (by rw [hq, pAt, if_pos (Int32.not_lt.mp c_14), if_pos c_22]; rfl), ht⟩) (fun q h => nomatch h) d_S_pieceAt_26
set_option maxHeartbeats 4000000 in
set_option maxRecDepth 100000 in
theorem c_S_whatIsTakenFor (l : Launch) (D : va_G) (ty : tyL) (h cn : Nat) (ha : Option Nat) (f : Nat) (v w z : Int32) (L : List AP) (n : Nat) (hBd : Bd L) (hn : n < 2 ^ 31) : Met l y_S_whatIsTakenFor (Cond.code y_S_whatIsTakenFor b_S_whatIsTakenFor 4 (some (.object "SweepHand$Piece")) :: GW) ({ frames := 1, cells := 0, slots := 0, locals := 21 }) (va_Pc [.ref h, .int (nI n)] (at0 D ty (scell h cn (hdO L none) ha f v w z :: chG L none))) (va_Sq (fun r => r = (wtf n L none).map Prod.fst)) 0 0 (fun _ => False) := by
  refine Met.ofW (cc := b_S_whatIsTakenFor) (maxL := 4) (ret := (some (.object "SweepHand$Piece"))) (by decide) rfl ?_
  intro p e s m args below meth c s₁ B hml hv
  obtain ⟨rfl, hP, hK, hN⟩ := hv
  have hx := B.exec
  have hb := B.bytes
  have hr := B.returns
  have hg : ∀ w ∈ GW, w.before _ s = true := fun w h => atoms_spec (ws := Cond.code y_S_whatIsTakenFor b_S_whatIsTakenFor 4 (some (.object "SweepHand$Piece")) :: GW) B.pre w (List.mem_cons_of_mem _ h)
  have hown : s.vm.findClass R_S = some m.cls := findClass_of_methodNamed B.named
  have hlocks := B.notSynchronized
  have hl := lv_entry ([.ref h, .int (nI n)]) (n := 4) (Nat.le_of_ble_eq_true rfl)
  rw [lg_entry_eq]
  generalize (lg_sl ([.ref h, .int (nI n)]) ++ List.replicate (4 - (lg_sl ([.ref h, .int (nI n)])).length) Slot.unset).toArray = ls at hl ⊢
  replace hl : lv_has ls 4 [(0, .ref h), (1, .int (nI n))] := hl
  refine lv_null hx hb d_S_whatIsTakenFor_0 ?_
  refine lv_astore_nN (lv' := [(2, .null), (0, .ref h), (1, .int (nI n))]) hx hb d_S_whatIsTakenFor_1 rfl hl (by decide) rfl (fun ls hl => ?_)
  refine lv_aload_n hx hb d_S_whatIsTakenFor_2 rfl (lv_at hl 1 rfl) ?_
  refine va_get (D := D) (ci := 0) (v := va_rf (hdO L none)) (C := R_S) (T := F_S) (N := 7) hx hb hg gi_S hown hK hP 0 rfl rfl 1 (by decide) (hg _ gw_82) (fun _ h9 => h9) rfl d_S_whatIsTakenFor_3 ?_
  refine sv_astore_n (lv' := [(3, va_rf (hdO L none)), (2, .null), (0, .ref h), (1, .int (nI n))]) hx hb d_S_whatIsTakenFor_6 rfl hl (by decide) rfl (fun ls hl => ?_)
  obtain ⟨acc, hacc⟩ : ∃ acc : Option AP, acc = none := ⟨_, rfl⟩
  obtain ⟨suf, hs⟩ : ∃ suf, suf = L := ⟨_, rfl⟩
  replace hl := lv_sub hl [0, 1, 2, 3] rfl
  replace hl : lv_has ls 4 [(3, va_rf (hdO L none)), (2, .null), (0, .ref h), (1, .int (nI n))] := hl
  replace hl : lv_has ls 4 [(3, va_rf (hdO suf none)), (2, va_rf (acc.map Prod.fst)), (0, .ref h), (1, .int (nI n))] := by rw [hs, hacc]; exact hl
  have hpre : ∃ pre, L = pre ++ suf := ⟨[], hs.symm⟩
  have hq : wtf n L none = wtf n suf acc := by rw [hs, hacc]
  have hm : ∀ y, acc = some y → y ∈ L := by rw [hacc]; intro y h; cases h
  clear hs hacc
  revert hm; revert hq; revert hpre; revert hl; revert acc; revert ls
  induction suf with
  | nil =>
    intro ls acc hl hpre hq hm
    replace hl : lv_has ls 4 [(3, .null), (2, va_rf (acc.map Prod.fst)), (0, .ref h), (1, .int (nI n))] := hl
    refine lv_aload_nN hx hb d_S_whatIsTakenFor_7 rfl (lv_at hl 0 rfl) ?_
    refine lv_ifnullN (tgt := 48) hx hb d_S_whatIsTakenFor_8 (by decide) ?_
    refine sv_aload_n hx hb d_S_whatIsTakenFor_48 rfl (lv_at hl 1 rfl) ?_
    exact W.aret (v := va_rf (acc.map Prod.fst)) hx hb hr (Or.inl ⟨_, rfl⟩) (va_rf_or _) (fun t ht hW => ⟨(acc.map Prod.fst), rfl, (by rw [hq]; rfl), ht⟩) (fun q h => nomatch h) d_S_whatIsTakenFor_49
  | cons x suf ih =>
    intro ls acc hl hpre hq hm
    replace hl : lv_has ls 4 [(3, .ref x.1), (2, va_rf (acc.map Prod.fst)), (0, .ref h), (1, .int (nI n))] := hl
    obtain ⟨pre, hpre⟩ := hpre
    have he := chG_at (scell h cn (hdO L none) ha f v w z) pre x suf none
    rw [← hpre] at he
    have hxL : x ∈ L := by rw [hpre]; simp
    obtain ⟨hb1, hb2, hb3⟩ := hBd x hxL
    refine lv_aload_n hx hb d_S_whatIsTakenFor_7 rfl (lv_at hl 0 rfl) ?_
    refine lv_ifnull hx hb d_S_whatIsTakenFor_8 ?_
    refine lv_aload_n hx hb d_S_whatIsTakenFor_11 rfl (lv_at hl 0 rfl) ?_
    refine vp_callSi (va_runVN (As := []) (rest := []) ⟨hx, hb, hml, hown, hg⟩ (c_P_isFreeForTaking l D ty _ (pre.length + 1) x (hdO suf none) he (by omega)) ⟨va_cnB 0 hg (gw_c gw_225) rfl rfl rfl (hN.2.1 (127, y_P_isFreeForTaking) (by decide +kernel)) (hg _ gw_27) (by decide +kernel) ⟨Nat.le_of_ble_eq_true rfl, Nat.le_of_ble_eq_true rfl⟩, hg _ gw_224, hg _ gw_7⟩ (pre_roV hP hK hN (ci := 1) rfl he) rfl rfl hl.1 rfl (lv_room (Nat.le_of_ble_eq_true rfl)) d_S_whatIsTakenFor_12 ⟨Nat.le_of_ble_eq_true rfl, Nat.le_of_ble_eq_true rfl⟩).run (fun r1 hr1 => ?_)
    refine lv_if_eq (tgt := 40) hx hb d_S_whatIsTakenFor_15 (by decide) (fun c_15 => ?_) (fun c_15 => ?_)
    · refine lv_aload_n hx hb d_S_whatIsTakenFor_40 rfl (lv_at hl 0 rfl) ?_
      refine va_getN (D := D) (ci := 1) (v := va_rf (hdO suf none)) (C := R_P) (T := F_P) (N := 6) hx hb hg gi_P hown hK hP (pre.length + 1) he rfl 5 (by decide) (va_Nw.use rfl (hN.1 (69, "next", "LSweepHand$Piece;") (by decide))) (fun _ h9 => h9) rfl d_S_whatIsTakenFor_41 ?_
      refine sv_astore_n (lv' := [(3, va_rf (hdO suf none)), (2, va_rf (acc.map Prod.fst)), (0, .ref h), (1, .int (nI n))]) hx hb d_S_whatIsTakenFor_44 rfl hl (by decide) (by generalize (acc.map Prod.fst) = o9; cases o9 <;> rfl) (fun ls hl => ?_)
      refine lv_goto (tgt := 7) hx hb d_S_whatIsTakenFor_45 (by decide) ?_
      exact ih ls acc (lv_sub hl [0, 1, 2, 3] rfl) ⟨pre ++ [x], by rw [hpre, List.append_assoc]; rfl⟩ (by rw [hq, wtf, if_neg (by simp [wtfC, show isFT x = false from bI_0.mp (by rw [← hr1]; exact c_15)])]) hm
    · refine lv_aload_n hx hb d_S_whatIsTakenFor_18 rfl (lv_at hl 0 rfl) ?_
      refine va_getN (D := D) (ci := 1) (v := .int (nI x.2.2.1)) (C := R_P) (T := F_P) (N := 6) hx hb hg gi_P hown hK hP (pre.length + 1) he rfl 1 (by decide) (va_Nw.use rfl (hN.1 (60, "size", "I") (by decide))) (fun _ h9 => h9) rfl d_S_whatIsTakenFor_19 ?_
      refine lv_iload_n hx hb d_S_whatIsTakenFor_22 rfl (lv_at hl 3 rfl) ?_
      refine lv_icmp_lt (tgt := 40) hx hb d_S_whatIsTakenFor_23 (by decide) (fun c_23 => ?_) (fun c_23 => ?_)
      · refine lv_aload_n hx hb d_S_whatIsTakenFor_40 rfl (lv_at hl 0 rfl) ?_
        refine va_getN (D := D) (ci := 1) (v := va_rf (hdO suf none)) (C := R_P) (T := F_P) (N := 6) hx hb hg gi_P hown hK hP (pre.length + 1) he rfl 5 (by decide) (va_Nw.use rfl (hN.1 (69, "next", "LSweepHand$Piece;") (by decide))) (fun _ h9 => h9) rfl d_S_whatIsTakenFor_41 ?_
        refine sv_astore_n (lv' := [(3, va_rf (hdO suf none)), (2, va_rf (acc.map Prod.fst)), (0, .ref h), (1, .int (nI n))]) hx hb d_S_whatIsTakenFor_44 rfl hl (by decide) (by generalize (acc.map Prod.fst) = o9; cases o9 <;> rfl) (fun ls hl => ?_)
        refine lv_goto (tgt := 7) hx hb d_S_whatIsTakenFor_45 (by decide) ?_
        exact ih ls acc (lv_sub hl [0, 1, 2, 3] rfl) ⟨pre ++ [x], by rw [hpre, List.append_assoc]; rfl⟩ (by rw [hq, wtf, if_neg (by simp [wtfC, Nat.not_le.mpr ((nI_ltI (by omega) hn).mp c_23)])]) hm
      · rcases acc with _ | y
        · replace hl : lv_has ls 4 [(3, .ref x.1), (2, .null), (0, .ref h), (1, .int (nI n))] := hl
          refine lv_aload_nN hx hb d_S_whatIsTakenFor_26 rfl (lv_at hl 1 rfl) ?_
          refine lv_ifnullN (tgt := 38) hx hb d_S_whatIsTakenFor_27 (by decide) ?_
          refine lv_aload_n hx hb d_S_whatIsTakenFor_38 rfl (lv_at hl 0 rfl) ?_
          refine lv_astore_n (lv' := [(2, .ref x.1), (3, .ref x.1), (0, .ref h), (1, .int (nI n))]) hx hb d_S_whatIsTakenFor_39 rfl hl (by decide) rfl (fun ls hl => ?_)
          refine lv_aload_n hx hb d_S_whatIsTakenFor_40 rfl (lv_at hl 1 rfl) ?_
          refine va_getN (D := D) (ci := 1) (v := va_rf (hdO suf none)) (C := R_P) (T := F_P) (N := 6) hx hb hg gi_P hown hK hP (pre.length + 1) he rfl 5 (by decide) (va_Nw.use rfl (hN.1 (69, "next", "LSweepHand$Piece;") (by decide))) (fun _ h9 => h9) rfl d_S_whatIsTakenFor_41 ?_
          refine sv_astore_n (lv' := [(3, va_rf (hdO suf none)), (2, .ref x.1), (0, .ref h), (1, .int (nI n))]) hx hb d_S_whatIsTakenFor_44 rfl hl (by decide) rfl (fun ls hl => ?_)
          refine lv_goto (tgt := 7) hx hb d_S_whatIsTakenFor_45 (by decide) ?_
          exact ih ls (some x) (lv_sub hl [0, 1, 2, 3] rfl) ⟨pre ++ [x], by rw [hpre, List.append_assoc]; rfl⟩ (by rw [hq, wtf, if_pos (by simp [wtfC, show isFT x = true from bI_n0.mp (by rw [← hr1]; exact c_15), show n ≤ x.2.2.1 from Nat.not_lt.mp (fun h9 => c_23 ((nI_ltI (by omega) hn).mpr h9))])]) (fun y9 h9 => by cases h9; exact hxL)
        · replace hl : lv_has ls 4 [(3, .ref x.1), (2, .ref y.1), (0, .ref h), (1, .int (nI n))] := hl
          have hyL := hm y rfl
          obtain ⟨hy1, hy2, hy3⟩ := hBd y hyL
          obtain ⟨jy, ny, hj⟩ := chG_mem (scell h cn (hdO L none) ha f v w z) none hyL
          refine lv_aload_n hx hb d_S_whatIsTakenFor_26 rfl (lv_at hl 1 rfl) ?_
          refine lv_ifnull hx hb d_S_whatIsTakenFor_27 ?_
          refine lv_aload_n hx hb d_S_whatIsTakenFor_30 rfl (lv_at hl 0 rfl) ?_
          refine lv_aload_n hx hb d_S_whatIsTakenFor_31 rfl (lv_at hl 1 rfl) ?_
          refine vp_callSi (va_runS (As := [.ref x.1, .ref y.1]) (rest := []) ⟨hx, hb, hml, hown, hg⟩ (c_S_isTakenBefore l D ty _ (pre.length + 1) jy x y (hdO suf none) ny he hj (by omega) (by omega) (by omega) (by omega)) (va_cwS 2 hg (gw_S gw_226 gw_227 gw_26 gw_228) rfl rfl rfl (by decide +kernel) ⟨Nat.le_of_ble_eq_true rfl, Nat.le_of_ble_eq_true rfl⟩) (pre_roS hP hK hN) rfl rfl hl.1 rfl (lv_room (Nat.le_of_ble_eq_true rfl)) d_S_whatIsTakenFor_32 ⟨Nat.le_of_ble_eq_true rfl, Nat.le_of_ble_eq_true rfl⟩).run (fun r2 hr2 => ?_)
          refine lv_if_eq (tgt := 40) hx hb d_S_whatIsTakenFor_35 (by decide) (fun c_35 => ?_) (fun c_35 => ?_)
          · refine lv_aload_n hx hb d_S_whatIsTakenFor_40 rfl (lv_at hl 0 rfl) ?_
            refine va_getN (D := D) (ci := 1) (v := va_rf (hdO suf none)) (C := R_P) (T := F_P) (N := 6) hx hb hg gi_P hown hK hP (pre.length + 1) he rfl 5 (by decide) (va_Nw.use rfl (hN.1 (69, "next", "LSweepHand$Piece;") (by decide))) (fun _ h9 => h9) rfl d_S_whatIsTakenFor_41 ?_
            refine sv_astore_n (lv' := [(3, va_rf (hdO suf none)), (2, .ref y.1), (0, .ref h), (1, .int (nI n))]) hx hb d_S_whatIsTakenFor_44 rfl hl (by decide) rfl (fun ls hl => ?_)
            refine lv_goto (tgt := 7) hx hb d_S_whatIsTakenFor_45 (by decide) ?_
            exact ih ls (some y) (lv_sub hl [0, 1, 2, 3] rfl) ⟨pre ++ [x], by rw [hpre, List.append_assoc]; rfl⟩ (by rw [hq, wtf, if_neg (by simp [wtfC, show befo x y = false from bI_0.mp (by rw [← hr2]; exact c_35)])]) hm
          · refine lv_aload_n hx hb d_S_whatIsTakenFor_38 rfl (lv_at hl 0 rfl) ?_
            refine lv_astore_n (lv' := [(2, .ref x.1), (3, .ref x.1), (0, .ref h), (1, .int (nI n))]) hx hb d_S_whatIsTakenFor_39 rfl hl (by decide) rfl (fun ls hl => ?_)
            refine lv_aload_n hx hb d_S_whatIsTakenFor_40 rfl (lv_at hl 1 rfl) ?_
            refine va_getN (D := D) (ci := 1) (v := va_rf (hdO suf none)) (C := R_P) (T := F_P) (N := 6) hx hb hg gi_P hown hK hP (pre.length + 1) he rfl 5 (by decide) (va_Nw.use rfl (hN.1 (69, "next", "LSweepHand$Piece;") (by decide))) (fun _ h9 => h9) rfl d_S_whatIsTakenFor_41 ?_
            refine sv_astore_n (lv' := [(3, va_rf (hdO suf none)), (2, .ref x.1), (0, .ref h), (1, .int (nI n))]) hx hb d_S_whatIsTakenFor_44 rfl hl (by decide) rfl (fun ls hl => ?_)
            refine lv_goto (tgt := 7) hx hb d_S_whatIsTakenFor_45 (by decide) ?_
            exact ih ls (some x) (lv_sub hl [0, 1, 2, 3] rfl) ⟨pre ++ [x], by rw [hpre, List.append_assoc]; rfl⟩ (by rw [hq, wtf, if_pos (by simp [wtfC, show isFT x = true from bI_n0.mp (by rw [← hr1]; exact c_15), show n ≤ x.2.2.1 from Nat.not_lt.mp (fun h9 => c_23 ((nI_ltI (by omega) hn).mpr h9)), show befo x y = true from bI_n0.mp (by rw [← hr2]; exact c_35)])]) (fun y9 h9 => by cases h9; exact hxL)
