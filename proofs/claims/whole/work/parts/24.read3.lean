set_option maxHeartbeats 4000000 in
set_option maxRecDepth 100000 in
theorem c_S_hand (l : Launch) (D : va_G) (ty : tyL) (h cn f : Nat) (v w z : Int32) (p0 s0 : List AP) : Met l y_S_hand (Cond.code y_S_hand b_S_hand 1 (some .int) :: GW) ({ frames := 0, cells := 0, slots := 0, locals := 0 }) (va_Pc [.ref h] (at0 D ty (scell h cn (hdO (p0 ++ s0) none) (hdO s0 none) f v w z :: chG (p0 ++ s0) none))) (vp_Si (fun r => r = nI (hdB s0))) 0 0 (fun _ => False) := by
  refine Met.ofW (cc := b_S_hand) (maxL := 1) (ret := (some .int)) (by decide) rfl ?_
  intro p e s m args below meth c s₁ B hml hv
  obtain ⟨rfl, hP, hK, hN⟩ := hv
  have hx := B.exec
  have hb := B.bytes
  have hr := B.returns
  have hg : ∀ w ∈ GW, w.before _ s = true := fun w h => atoms_spec (ws := Cond.code y_S_hand b_S_hand 1 (some .int) :: GW) B.pre w (List.mem_cons_of_mem _ h)
  have hown : s.vm.findClass R_S = some m.cls := findClass_of_methodNamed B.named
  have hlocks := B.notSynchronized
  have hl := lv_entry ([.ref h]) (n := 1) (Nat.le_of_ble_eq_true rfl)
  rw [lg_entry_eq]
  generalize (lg_sl ([.ref h]) ++ List.replicate (1 - (lg_sl ([.ref h])).length) Slot.unset).toArray = ls at hl ⊢
  replace hl : lv_has ls 1 [(0, .ref h)] := hl
  rcases s0 with _ | ⟨x, s0⟩
  · refine lv_aload_n hx hb d_S_hand_0 rfl (lv_at hl 0 rfl) ?_
    refine va_get (D := D) (ci := 0) (v := .null) (C := R_S) (T := F_S) (N := 7) hx hb hg gi_S hown hK hP 0 rfl rfl 2 (by decide) (hg _ gw_83) (fun _ h9 => h9) rfl d_S_hand_1 ?_
    refine lv_ifnonnullN hx hb d_S_hand_4 ?_
    refine lv_iconst (v := 0) hx hb d_S_hand_7 (by decide) ?_
    refine lv_goto (tgt := 18) hx hb d_S_hand_8 (by decide) ?_
    exact W.iret (v := 0) hx hb hr (fun t ht hW => ⟨_, rfl, rfl, ht⟩) (fun q h => nomatch h) d_S_hand_18
  · have he := chG_at (scell h cn (hdO (p0 ++ x :: s0) none) (hdO (x :: s0) none) f v w z) p0 x s0 none
    refine lv_aload_n hx hb d_S_hand_0 rfl (lv_at hl 0 rfl) ?_
    refine va_get (D := D) (ci := 0) (v := .ref x.1) (C := R_S) (T := F_S) (N := 7) hx hb hg gi_S hown hK hP 0 rfl rfl 2 (by decide) (hg _ gw_83) (fun _ h9 => h9) rfl d_S_hand_1 ?_
    refine lv_ifnonnull (tgt := 11) hx hb d_S_hand_4 (by decide) ?_
    refine lv_aload_n hx hb d_S_hand_11 rfl (lv_at hl 0 rfl) ?_
    refine va_get (D := D) (ci := 0) (v := .ref x.1) (C := R_S) (T := F_S) (N := 7) hx hb hg gi_S hown hK hP 0 rfl rfl 2 (by decide) (hg _ gw_83) (fun _ h9 => h9) rfl d_S_hand_12 ?_
    refine va_getN (D := D) (ci := 1) (v := .int (nI x.2.1)) (C := R_P) (T := F_P) (N := 6) hx hb hg gi_P hown hK hP (p0.length + 1) he rfl 0 (by decide) (va_Nw.use rfl (hN.1 (47, "begin", "I") (by decide))) (fun _ h9 => h9) rfl d_S_hand_15 ?_
    exact W.iret (v := (nI x.2.1)) hx hb hr (fun t ht hW => ⟨_, rfl, rfl, ht⟩) (fun q h => nomatch h) d_S_hand_18
set_option maxHeartbeats 4000000 in
set_option maxRecDepth 100000 in
theorem c_S_piece (l : Launch) (D : va_G) (ty : tyL) (h cn : Nat) (ha : Option Nat) (f : Nat) (v w z : Int32) (L : List AP) (a : Int32) : Met l y_S_piece (Cond.code y_S_piece b_S_piece 3 (some .int) :: GW) ({ frames := 1, cells := 0, slots := 0, locals := 22 }) (va_Pc [.ref h, .int a] (at0 D ty (scell h cn (hdO L none) ha f v w z :: chG L none))) (vp_Si (fun r => r = (match pAt a L with | none => 0 | some x => if x.2.2.2.1 then nI x.2.2.1 else -nI x.2.2.1))) 0 0 (fun _ => False) := by
  refine Met.ofW (cc := b_S_piece) (maxL := 3) (ret := (some .int)) (by decide) rfl ?_
  intro p e s m args below meth c s₁ B hml hv
  obtain ⟨rfl, hP, hK, hN⟩ := hv
  have hx := B.exec
  have hb := B.bytes
  have hr := B.returns
  have hg : ∀ w ∈ GW, w.before _ s = true := fun w h => atoms_spec (ws := Cond.code y_S_piece b_S_piece 3 (some .int) :: GW) B.pre w (List.mem_cons_of_mem _ h)
  have hown : s.vm.findClass R_S = some m.cls := findClass_of_methodNamed B.named
  have hlocks := B.notSynchronized
  have hl := lv_entry ([.ref h, .int a]) (n := 3) (Nat.le_of_ble_eq_true rfl)
  rw [lg_entry_eq]
  generalize (lg_sl ([.ref h, .int a]) ++ List.replicate (3 - (lg_sl ([.ref h, .int a])).length) Slot.unset).toArray = ls at hl ⊢
  replace hl : lv_has ls 3 [(0, .ref h), (1, .int a)] := hl
  refine lv_aload_n hx hb d_S_piece_0 rfl (lv_at hl 0 rfl) ?_
  refine lv_iload_n hx hb d_S_piece_1 rfl (lv_at hl 1 rfl) ?_
  refine va_csq (va_runV (As := [.int a]) (rest := []) ⟨hx, hb, hml, hown, hg⟩ (c_S_pieceAt l D ty h cn ha f v w z L a) (cwV 1 hg (gw_V gw_111 gw_113 gw_2 gw_26 gw_114) rfl rfl rfl (by decide +kernel) ⟨Nat.le_of_ble_eq_true rfl, Nat.le_of_ble_eq_true rfl⟩) (pre_roV hP hK hN (ci := 0) (k := 0) rfl rfl) rfl rfl hl.1 rfl (lv_room (Nat.le_of_ble_eq_true rfl)) d_S_piece_2 ⟨Nat.le_of_ble_eq_true rfl, Nat.le_of_ble_eq_true rfl⟩).run (fun r1 hr1 => ?_)
  rcases hpa : pAt a L with _ | x
  · rw [hpa] at hr1
    replace hr1 : r1 = none := hr1
    subst hr1
    refine lv_astore_nN (lv' := [(2, .null), (0, .ref h), (1, .int a)]) hx hb d_S_piece_5 rfl hl (by decide) rfl (fun ls hl => ?_)
    refine lv_aload_nN hx hb d_S_piece_6 rfl (lv_at hl 0 rfl) ?_
    refine lv_ifnonnullN hx hb d_S_piece_7 ?_
    refine lv_iconst (v := 0) hx hb d_S_piece_10 (by decide) ?_
    exact W.iret (v := 0) hx hb hr (fun t ht hW => ⟨_, rfl, rfl, ht⟩) (fun q h => nomatch h) d_S_piece_11
  · rw [hpa] at hr1
    replace hr1 : r1 = some x.1 := hr1
    subst hr1
    obtain ⟨jx, nx, he⟩ := chG_mem (scell h cn (hdO L none) ha f v w z) none (pAt_mem hpa).1
    refine lv_astore_n (lv' := [(2, .ref x.1), (0, .ref h), (1, .int a)]) hx hb d_S_piece_5 rfl hl (by decide) rfl (fun ls hl => ?_)
    refine lv_aload_n hx hb d_S_piece_6 rfl (lv_at hl 0 rfl) ?_
    refine lv_ifnonnull (tgt := 12) hx hb d_S_piece_7 (by decide) ?_
    refine lv_aload_n hx hb d_S_piece_12 rfl (lv_at hl 0 rfl) ?_
    refine va_getN (D := D) (ci := 1) (v := .int (bI x.2.2.2.1)) (C := R_P) (T := F_P) (N := 6) hx hb hg gi_P hown hK hP jx he rfl 2 (by decide) (va_Nw.use rfl (hN.1 (37, "used", "Z") (by decide))) (fun _ h9 => h9) rfl d_S_piece_13 ?_
    refine lv_if_eq (tgt := 26) hx hb d_S_piece_16 (by decide) (fun c_16 => ?_) (fun c_16 => ?_)
    · refine lv_aload_n hx hb d_S_piece_26 rfl (lv_at hl 0 rfl) ?_
      refine va_getN (D := D) (ci := 1) (v := .int (nI x.2.2.1)) (C := R_P) (T := F_P) (N := 6) hx hb hg gi_P hown hK hP jx he rfl 1 (by decide) (va_Nw.use rfl (hN.1 (60, "size", "I") (by decide))) (fun _ h9 => h9) rfl d_S_piece_27 ?_
      refine lv_ineg hx hb d_S_piece_30 ?_
      exact W.iret (v := (-(nI x.2.2.1))) hx hb hr (fun t ht hW => ⟨_, rfl, (by simp [hpa, show x.2.2.2.1 = false from bI_0.mp c_16]), ht⟩) (fun q h => nomatch h) d_S_piece_31
    · refine lv_aload_n hx hb d_S_piece_19 rfl (lv_at hl 0 rfl) ?_
      refine va_getN (D := D) (ci := 1) (v := .int (nI x.2.2.1)) (C := R_P) (T := F_P) (N := 6) hx hb hg gi_P hown hK hP jx he rfl 1 (by decide) (va_Nw.use rfl (hN.1 (60, "size", "I") (by decide))) (fun _ h9 => h9) rfl d_S_piece_20 ?_
      refine lv_goto (tgt := 31) hx hb d_S_piece_23 (by decide) ?_
      exact W.iret (v := (nI x.2.2.1)) hx hb hr (fun t ht hW => ⟨_, rfl, (by simp [hpa, show x.2.2.2.1 = true from bI_n0.mp c_16]), ht⟩) (fun q h => nomatch h) d_S_piece_31
set_option maxHeartbeats 4000000 in
set_option maxRecDepth 100000 in
theorem c_S_marked (l : Launch) (D : va_G) (ty : tyL) (h cn : Nat) (ha : Option Nat) (f : Nat) (v w z : Int32) (L : List AP) (a : Int32) : Met l y_S_marked (Cond.code y_S_marked b_S_marked 3 (some .boolean) :: GW) ({ frames := 1, cells := 0, slots := 0, locals := 22 }) (va_Pc [.ref h, .int a] (at0 D ty (scell h cn (hdO L none) ha f v w z :: chG L none))) (vp_Si (fun r => r = bI (match pAt a L with | none => false | some x => x.2.2.2.2.1))) 0 0 (fun _ => False) := by
  refine Met.ofW (cc := b_S_marked) (maxL := 3) (ret := (some .boolean)) (by decide) rfl ?_
  intro p e s m args below meth c s₁ B hml hv
  obtain ⟨rfl, hP, hK, hN⟩ := hv
  have hx := B.exec
  have hb := B.bytes
  have hr := B.returns
  have hg : ∀ w ∈ GW, w.before _ s = true := fun w h => atoms_spec (ws := Cond.code y_S_marked b_S_marked 3 (some .boolean) :: GW) B.pre w (List.mem_cons_of_mem _ h)
  have hown : s.vm.findClass R_S = some m.cls := findClass_of_methodNamed B.named
  have hlocks := B.notSynchronized
  have hl := lv_entry ([.ref h, .int a]) (n := 3) (Nat.le_of_ble_eq_true rfl)
  rw [lg_entry_eq]
  generalize (lg_sl ([.ref h, .int a]) ++ List.replicate (3 - (lg_sl ([.ref h, .int a])).length) Slot.unset).toArray = ls at hl ⊢
  replace hl : lv_has ls 3 [(0, .ref h), (1, .int a)] := hl
  refine lv_aload_n hx hb d_S_marked_0 rfl (lv_at hl 0 rfl) ?_
  refine lv_iload_n hx hb d_S_marked_1 rfl (lv_at hl 1 rfl) ?_
  refine va_csq (va_runV (As := [.int a]) (rest := []) ⟨hx, hb, hml, hown, hg⟩ (c_S_pieceAt l D ty h cn ha f v w z L a) (cwV 1 hg (gw_V gw_111 gw_113 gw_2 gw_26 gw_114) rfl rfl rfl (by decide +kernel) ⟨Nat.le_of_ble_eq_true rfl, Nat.le_of_ble_eq_true rfl⟩) (pre_roV hP hK hN (ci := 0) (k := 0) rfl rfl) rfl rfl hl.1 rfl (lv_room (Nat.le_of_ble_eq_true rfl)) d_S_marked_2 ⟨Nat.le_of_ble_eq_true rfl, Nat.le_of_ble_eq_true rfl⟩).run (fun r1 hr1 => ?_)
  rcases hpa : pAt a L with _ | x
  · rw [hpa] at hr1
    replace hr1 : r1 = none := hr1
    subst hr1
    refine lv_astore_nN (lv' := [(2, .null), (0, .ref h), (1, .int a)]) hx hb d_S_marked_5 rfl hl (by decide) rfl (fun ls hl => ?_)
    refine lv_aload_nN hx hb d_S_marked_6 rfl (lv_at hl 0 rfl) ?_
    refine lv_ifnullN (tgt := 21) hx hb d_S_marked_7 (by decide) ?_
    refine lv_iconst (v := 0) hx hb d_S_marked_21 (by decide) ?_
    exact W.zret (v := 0) hx hb hr rfl (fun t ht hW => ⟨_, rfl, rfl, ht⟩) (fun q h => nomatch h) d_S_marked_22
  · rw [hpa] at hr1
    replace hr1 : r1 = some x.1 := hr1
    subst hr1
    obtain ⟨jx, nx, he⟩ := chG_mem (scell h cn (hdO L none) ha f v w z) none (pAt_mem hpa).1
    refine lv_astore_n (lv' := [(2, .ref x.1), (0, .ref h), (1, .int a)]) hx hb d_S_marked_5 rfl hl (by decide) rfl (fun ls hl => ?_)
    refine lv_aload_n hx hb d_S_marked_6 rfl (lv_at hl 0 rfl) ?_
    refine lv_ifnull hx hb d_S_marked_7 ?_
    refine lv_aload_n hx hb d_S_marked_10 rfl (lv_at hl 0 rfl) ?_
    refine va_getN (D := D) (ci := 1) (v := .int (bI x.2.2.2.2.1)) (C := R_P) (T := F_P) (N := 6) hx hb hg gi_P hown hK hP jx he rfl 3 (by decide) (va_Nw.use rfl (hN.1 (50, "marked", "Z") (by decide))) (fun _ h9 => h9) rfl d_S_marked_11 ?_
    refine lv_if_eq (tgt := 21) hx hb d_S_marked_14 (by decide) (fun c_14 => ?_) (fun c_14 => ?_)
    · refine lv_iconst (v := 0) hx hb d_S_marked_21 (by decide) ?_
      exact W.zret (v := 0) hx hb hr rfl (fun t ht hW => ⟨_, rfl, (by simp [hpa, show x.2.2.2.2.1 = false from bI_0.mp c_14, bI]), ht⟩) (fun q h => nomatch h) d_S_marked_22
    · refine lv_iconst (v := 1) hx hb d_S_marked_17 (by decide) ?_
      refine lv_goto (tgt := 22) hx hb d_S_marked_18 (by decide) ?_
      exact W.zret (v := 1) hx hb hr rfl (fun t ht hW => ⟨_, rfl, (by simp [hpa, show x.2.2.2.2.1 = true from bI_n0.mp c_14, bI]), ht⟩) (fun q h => nomatch h) d_S_marked_22
set_option maxHeartbeats 4000000 in
set_option maxRecDepth 100000 in
theorem c_S_faults (l : Launch) (D : va_G) (ty : tyL) (h cn f : Nat) (v w z : Int32) (L p0 s0 : List AP) (hL : L = p0 ++ s0) (hBd : Bd L) (hf : f < 2 ^ 62) (hcn : cn < 2 ^ 30) (hT : Til 1 L (cn + 1)) (hM : MkU L) (hO : TmO f L) (hNo : NoM p0 s0) (hnd : (L.map Prod.fst).Nodup) : Met l y_S_faults (Cond.code y_S_faults b_S_faults 5 (some .int) :: GW) ({ frames := 1, cells := 0, slots := 0, locals := 21 }) (va_Pc [.ref h] (at0 D ty (scell h cn (hdO L none) (hdO s0 none) f v w z :: chG L none))) (vp_Si (fun r => r = 0)) 0 0 (fun _ => False) := by
  refine Met.ofW (cc := b_S_faults) (maxL := 5) (ret := (some .int)) (by decide) rfl ?_
  intro p e s m args below meth c s₁ B hml hv
  obtain ⟨rfl, hP, hK, hN⟩ := hv
  have hx := B.exec
  have hb := B.bytes
  have hr := B.returns
  have hg : ∀ w ∈ GW, w.before _ s = true := fun w h => atoms_spec (ws := Cond.code y_S_faults b_S_faults 5 (some .int) :: GW) B.pre w (List.mem_cons_of_mem _ h)
  have hown : s.vm.findClass R_S = some m.cls := findClass_of_methodNamed B.named
  have hlocks := B.notSynchronized
  have hl := lv_entry ([.ref h]) (n := 5) (Nat.le_of_ble_eq_true rfl)
  rw [lg_entry_eq]
  generalize (lg_sl ([.ref h]) ++ List.replicate (5 - (lg_sl ([.ref h])).length) Slot.unset).toArray = ls at hl ⊢
  replace hl : lv_has ls 5 [(0, .ref h)] := hl
  refine lv_iconst (v := 0) hx hb d_S_faults_0 (by decide) ?_
  refine lv_istore_n (lv' := [(1, .int 0), (0, .ref h)]) hx hb d_S_faults_1 rfl hl (by decide) rfl (fun ls hl => ?_)
  refine lv_iconst (v := 1) hx hb d_S_faults_2 (by decide) ?_
  refine lv_istore_n (lv' := [(2, .int 1), (1, .int 0), (0, .ref h)]) hx hb d_S_faults_3 rfl hl (by decide) rfl (fun ls hl => ?_)
  refine lv_aload_n hx hb d_S_faults_4 rfl (lv_at hl 2 rfl) ?_
  refine va_get (D := D) (ci := 0) (v := va_rf (hdO s0 none)) (C := R_S) (T := F_S) (N := 7) hx hb hg gi_S hown hK hP 0 rfl rfl 2 (by decide) (hg _ gw_83) (fun _ h9 => h9) rfl d_S_faults_5 ?_
  have hmet : ∃ met : Bool, (met = true ∨ (met = false ∧ ∃ q, L = q ++ s0 ∧ s0 ≠ [] ∧ ∀ x ∈ q, x.2.2.2.2.1 = false)) ∧ (met = (hdO s0 none).isNone) := by
    rcases s0 with _ | ⟨y, s1⟩
    · exact ⟨true, Or.inl rfl, rfl⟩
    · exact ⟨false, Or.inr ⟨rfl, p0, hL, by simp, hNo (by simp)⟩, rfl⟩
  obtain ⟨met, hmt, hme⟩ := hmet
  refine sv_ifnonnull (tgt := 15) hx hb d_S_faults_8 (by decide) (fun y0 c_8 => ?_) (fun c_8 => ?_)
  · replace hme : met = false := by rw [hme, c_8]; rfl
    refine lv_iconst (v := 0) hx hb d_S_faults_15 (by decide) ?_
    refine lv_topi (fun y1 ey1 => ?_)
    obtain rfl : y1 = bI met := ey1.trans (by rw [hme]; rfl)
    clear ey1
    clear hme c_8
    refine lv_istore_n (lv' := [(3, .int (bI met)), (2, .int 1), (1, .int 0), (0, .ref h)]) hx hb d_S_faults_16 rfl hl (by decide) rfl (fun ls hl => ?_)
    refine lv_aload_n hx hb d_S_faults_17 rfl (lv_at hl 3 rfl) ?_
    refine va_get (D := D) (ci := 0) (v := va_rf (hdO L none)) (C := R_S) (T := F_S) (N := 7) hx hb hg gi_S hown hK hP 0 rfl rfl 1 (by decide) (hg _ gw_82) (fun _ h9 => h9) rfl d_S_faults_18 ?_
    refine sv_astore (lv' := [(4, va_rf (hdO L none)), (3, .int (bI met)), (2, .int 1), (1, .int 0), (0, .ref h)]) hx hb d_S_faults_21 hl (by decide) rfl (fun ls hl => ?_)
    have hmt0 := hmt
    obtain ⟨d, hd⟩ : ∃ q : Nat, q = 1 := ⟨_, rfl⟩
    obtain ⟨mt, hmt⟩ : ∃ q : Bool, q = met := ⟨_, rfl⟩
    obtain ⟨suf, hs⟩ : ∃ suf, suf = L := ⟨_, rfl⟩
    replace hl := lv_sub hl [0, 1, 2, 3, 4] rfl
    replace hl : lv_has ls 5 [(4, va_rf (hdO L none)), (3, .int (bI met)), (2, .int 1), (1, .int 0), (0, .ref h)] := hl
    replace hl : lv_has ls 5 [(4, va_rf (hdO suf none)), (3, .int (bI mt)), (2, .int (nI d)), (1, .int 0), (0, .ref h)] := by rw [hs, hmt, hd]; exact hl
    have hpre : ∃ pre, L = pre ++ suf := ⟨[], hs.symm⟩
    have hq : Til d suf (cn + 1) := by rw [hs, hd]; exact hT
    have hb9 : (mt = true ∨ (mt = false ∧ ∃ q, suf = q ++ s0 ∧ s0 ≠ [] ∧ ∀ x ∈ q, x.2.2.2.2.1 = false)) := by rw [hs, hmt]; exact hmt0
    clear hs hd hmt
    revert hb9
    revert hq
    revert hpre
    revert hl
    revert mt
    revert d
    revert ls
    induction suf with
    | nil =>
      intro ls d mt hl hpre hq hb9
      replace hl : lv_has ls 5 [(4, .null), (3, .int (bI mt)), (2, .int (nI d)), (1, .int 0), (0, .ref h)] := hl
      refine lv_aloadN hx hb d_S_faults_23 (lv_at hl 0 rfl) ?_
      refine lv_ifnullN (tgt := 131) hx hb d_S_faults_25 (by decide) ?_
      have hd9 : d = cn + 1 := hq
      have hmt9 : mt = true := by
        rcases hb9 with h9 | ⟨-, q, h9, hs0, -⟩
        · exact h9
        · exact absurd (List.append_eq_nil_iff.mp h9.symm).2 hs0
      subst hd9 hmt9
      refine lv_iload_n hx hb d_S_faults_131 rfl (lv_at hl 3 rfl) ?_
      refine lv_iload_n hx hb d_S_faults_132 rfl (lv_at hl 2 rfl) ?_
      refine lv_iconst (v := 1) hx hb d_S_faults_133 (by decide) ?_
      refine lv_aload_n hx hb d_S_faults_134 rfl (lv_at hl 4 rfl) ?_
      refine va_get (D := D) (ci := 0) (v := .int (nI cn)) (C := R_S) (T := F_S) (N := 7) hx hb hg gi_S hown hK hP 0 rfl rfl 0 (by decide) (hg _ gw_81) (fun _ h9 => h9) rfl d_S_faults_135 ?_
      refine lv_iadd hx hb d_S_faults_138 ?_
      refine lv_icmp_ne (tgt := 146) hx hb d_S_faults_139 (by decide) (fun c_139 => ?_) (fun c_139 => ?_)
      · exact absurd (by rw [show (1 : Int32) = nI 1 from rfl, nI_add, Nat.add_comm]) c_139
      · refine lv_iconst (v := 0) hx hb d_S_faults_142 (by decide) ?_
        refine lv_goto (tgt := 147) hx hb d_S_faults_143 (by decide) ?_
        refine lv_iadd hx hb d_S_faults_147 ?_
        refine lv_topi (fun y2 ey2 => ?_)
        obtain rfl : y2 = 0 := ey2.trans rfl
        clear ey2
        refine lv_istore_n (lv' := [(1, .int 0), (4, .null), (3, .int (bI true)), (2, .int (nI (cn + 1))), (0, .ref h)]) hx hb d_S_faults_148 rfl hl (by decide) rfl (fun ls hl => ?_)
        refine lv_iload_n hx hb d_S_faults_149 rfl (lv_at hl 0 rfl) ?_
        refine lv_iload_n hx hb d_S_faults_150 rfl (lv_at hl 2 rfl) ?_
        refine lv_if_eq (tgt := 158) hx hb d_S_faults_151 (by decide) (fun c_151 => ?_) (fun c_151 => ?_)
        · exact absurd c_151 (by decide)
        · refine lv_iconst (v := 0) hx hb d_S_faults_154 (by decide) ?_
          refine lv_goto (tgt := 159) hx hb d_S_faults_155 (by decide) ?_
          refine lv_iadd hx hb d_S_faults_159 ?_
          refine lv_topi (fun y3 ey3 => ?_)
          obtain rfl : y3 = 0 := ey3.trans rfl
          clear ey3
          refine lv_istore_n (lv' := [(1, .int 0), (4, .null), (3, .int (bI true)), (2, .int (nI (cn + 1))), (0, .ref h)]) hx hb d_S_faults_160 rfl hl (by decide) rfl (fun ls hl => ?_)
          refine lv_iload_n hx hb d_S_faults_161 rfl (lv_at hl 0 rfl) ?_
          exact W.iret (v := 0) hx hb hr (fun t ht hW => ⟨_, rfl, rfl, ht⟩) (fun q h => nomatch h) d_S_faults_162
    | cons x suf ih =>
      intro ls d mt hl hpre hq hb9
      replace hl : lv_has ls 5 [(4, .ref x.1), (3, .int (bI mt)), (2, .int (nI d)), (1, .int 0), (0, .ref h)] := hl
      obtain ⟨pre, hpre⟩ := hpre
      have he := chG_at (scell h cn (hdO L none) (hdO s0 none) f v w z) pre x suf none
      rw [← hpre] at he
      have hxL : x ∈ L := by rw [hpre]; simp
      obtain ⟨hb1, hb2, hb3⟩ := hBd x hxL
      obtain ⟨hq1, hq2, hq3⟩ := hq
      refine lv_aload hx hb d_S_faults_23 (lv_at hl 0 rfl) ?_
      refine lv_ifnull hx hb d_S_faults_25 ?_
      rcases hb9 with hb9 | ⟨hb9, q, hq4, hs0, hq5⟩
      · subst hb9
        refine lv_iload_n hx hb d_S_faults_28 rfl (lv_at hl 1 rfl) ?_
        refine lv_if_ne (tgt := 41) hx hb d_S_faults_29 (by decide) (fun c_29 => ?_) (fun c_29 => ?_)
        · refine lv_iconst (v := 1) hx hb d_S_faults_41 (by decide) ?_
          refine lv_goto (tgt := 46) hx hb d_S_faults_42 (by decide) ?_
          refine lv_topi (fun y4 ey4 => ?_)
          obtain rfl : y4 = bI true := ey4.trans rfl
          clear ey4
          refine lv_istore_n (lv' := [(3, .int (bI true)), (4, .ref x.1), (2, .int (nI d)), (1, .int 0), (0, .ref h)]) hx hb d_S_faults_46 rfl hl (by decide) rfl (fun ls hl => ?_)
          refine lv_iload_n hx hb d_S_faults_47 rfl (lv_at hl 3 rfl) ?_
          refine lv_aload hx hb d_S_faults_48 (lv_at hl 1 rfl) ?_
          refine va_getN (D := D) (ci := 1) (v := .int (nI x.2.1)) (C := R_P) (T := F_P) (N := 6) hx hb hg gi_P hown hK hP (pre.length + 1) he rfl 0 (by decide) (va_Nw.use rfl (hN.1 (47, "begin", "I") (by decide))) (fun _ h9 => h9) rfl d_S_faults_50 ?_
          refine lv_iload_n hx hb d_S_faults_53 rfl (lv_at hl 2 rfl) ?_
          refine lv_icmp_ne (tgt := 61) hx hb d_S_faults_54 (by decide) (fun c_54 => ?_) (fun c_54 => ?_)
          · exact absurd (by rw [hq1]) c_54
          · refine lv_iconst (v := 0) hx hb d_S_faults_57 (by decide) ?_
            refine lv_goto (tgt := 62) hx hb d_S_faults_58 (by decide) ?_
            refine lv_iadd hx hb d_S_faults_62 ?_
            refine lv_topi (fun y5 ey5 => ?_)
            obtain rfl : y5 = 0 := ey5.trans rfl
            clear ey5
            refine lv_istore_n (lv' := [(1, .int 0), (3, .int (bI true)), (4, .ref x.1), (2, .int (nI d)), (0, .ref h)]) hx hb d_S_faults_63 rfl hl (by decide) rfl (fun ls hl => ?_)
            refine lv_iload_n hx hb d_S_faults_64 rfl (lv_at hl 0 rfl) ?_
            refine lv_aload hx hb d_S_faults_65 (lv_at hl 2 rfl) ?_
            refine va_getN (D := D) (ci := 1) (v := .int (nI x.2.2.1)) (C := R_P) (T := F_P) (N := 6) hx hb hg gi_P hown hK hP (pre.length + 1) he rfl 1 (by decide) (va_Nw.use rfl (hN.1 (60, "size", "I") (by decide))) (fun _ h9 => h9) rfl d_S_faults_67 ?_
            refine lv_iconst (v := 1) hx hb d_S_faults_70 (by decide) ?_
            refine lv_icmp_lt (tgt := 78) hx hb d_S_faults_71 (by decide) (fun c_71 => ?_) (fun c_71 => ?_)
            · exact absurd c_71 (fun h9 => by have h8 := (nI_ltI (b := 1) (by omega) (by decide)).mp h9; omega)
            · refine lv_iconst (v := 0) hx hb d_S_faults_74 (by decide) ?_
              refine lv_goto (tgt := 79) hx hb d_S_faults_75 (by decide) ?_
              refine lv_iadd hx hb d_S_faults_79 ?_
              refine lv_topi (fun y6 ey6 => ?_)
              obtain rfl : y6 = 0 := ey6.trans rfl
              clear ey6
              refine lv_istore_n (lv' := [(1, .int 0), (3, .int (bI true)), (4, .ref x.1), (2, .int (nI d)), (0, .ref h)]) hx hb d_S_faults_80 rfl hl (by decide) rfl (fun ls hl => ?_)
              refine lv_iload_n hx hb d_S_faults_81 rfl (lv_at hl 0 rfl) ?_
              refine lv_aload hx hb d_S_faults_82 (lv_at hl 2 rfl) ?_
              refine lv_iload_n hx hb d_S_faults_84 rfl (lv_at hl 1 rfl) ?_
              refine vp_callSi (va_runS (As := [.ref x.1, .int (bI true)]) (rest := [.int 0]) ⟨hx, hb, hml, hown, hg⟩ (c_S_isMarkRight l D ty _ (pre.length + 1) x (hdO suf none) he true) (va_cwS 2 hg (gw_S gw_123 gw_124 gw_26 gw_125) rfl rfl rfl (by decide +kernel) ⟨Nat.le_of_ble_eq_true rfl, Nat.le_of_ble_eq_true rfl⟩) (pre_roS hP hK hN) rfl rfl hl.1 rfl (lv_room (Nat.le_of_ble_eq_true rfl)) d_S_faults_85 ⟨Nat.le_of_ble_eq_true rfl, Nat.le_of_ble_eq_true rfl⟩).run (fun r1 hr1 => ?_)
              refine lv_if_eq (tgt := 95) hx hb d_S_faults_88 (by decide) (fun c_88 => ?_) (fun c_88 => ?_)
              · exact absurd c_88 (by
                  rw [hr1]
                  cases h9 : x.2.2.2.2.1
                  · simp [bI]
                  · simp [hM x hxL h9, bI])
              · refine lv_iconst (v := 0) hx hb d_S_faults_91 (by decide) ?_
                refine lv_goto (tgt := 96) hx hb d_S_faults_92 (by decide) ?_
                refine lv_iadd hx hb d_S_faults_96 ?_
                refine lv_topi (fun y7 ey7 => ?_)
                obtain rfl : y7 = 0 := ey7.trans rfl
                clear ey7
                refine lv_istore_n (lv' := [(1, .int 0), (3, .int (bI true)), (4, .ref x.1), (2, .int (nI d)), (0, .ref h)]) hx hb d_S_faults_97 rfl hl (by decide) rfl (fun ls hl => ?_)
                refine lv_iload_n hx hb d_S_faults_98 rfl (lv_at hl 0 rfl) ?_
                refine lv_aload_n hx hb d_S_faults_99 rfl (lv_at hl 4 rfl) ?_
                refine lv_aload hx hb d_S_faults_100 (lv_at hl 2 rfl) ?_
                refine vp_callSi (va_runV (As := [.ref x.1]) (rest := [.int 0]) ⟨hx, hb, hml, hown, hg⟩ (c_S_isTimeRight l D ty h cn (hdO s0 none) f v w z L (pre.length + 1) x (hdO suf none) he (by omega) (by omega)) (cwV 1 hg (gw_V gw_126 gw_128 gw_3 gw_26 gw_129) rfl rfl rfl (by decide +kernel) ⟨Nat.le_of_ble_eq_true rfl, Nat.le_of_ble_eq_true rfl⟩) (pre_roV hP hK hN (ci := 0) (k := 0) rfl rfl) rfl rfl hl.1 rfl (lv_room (Nat.le_of_ble_eq_true rfl)) d_S_faults_102 ⟨Nat.le_of_ble_eq_true rfl, Nat.le_of_ble_eq_true rfl⟩).run (fun r2 hr2 => ?_)
                refine lv_if_eq (tgt := 112) hx hb d_S_faults_105 (by decide) (fun c_105 => ?_) (fun c_105 => ?_)
                · exact absurd c_105 (by
                    rw [hr2]
                    cases h9 : x.2.2.2.1
                    · simp [hO x hxL h9, bI]
                    · simp [bI])
                · refine lv_iconst (v := 0) hx hb d_S_faults_108 (by decide) ?_
                  refine lv_goto (tgt := 113) hx hb d_S_faults_109 (by decide) ?_
                  refine lv_iadd hx hb d_S_faults_113 ?_
                  refine lv_topi (fun y8 ey8 => ?_)
                  obtain rfl : y8 = 0 := ey8.trans rfl
                  clear ey8
                  refine lv_istore_n (lv' := [(1, .int 0), (3, .int (bI true)), (4, .ref x.1), (2, .int (nI d)), (0, .ref h)]) hx hb d_S_faults_114 rfl hl (by decide) rfl (fun ls hl => ?_)
                  refine lv_aload hx hb d_S_faults_115 (lv_at hl 2 rfl) ?_
                  refine vp_callSi (va_runVN (As := []) (rest := []) ⟨hx, hb, hml, hown, hg⟩ (c_P_end l D ty _ (pre.length + 1) x (hdO suf none) he) ⟨va_cnB 0 hg (gw_c gw_133) rfl rfl rfl (hN.2.1 (104, y_P_end) (by decide +kernel)) (hg _ gw_27) (by decide +kernel) ⟨Nat.le_of_ble_eq_true rfl, Nat.le_of_ble_eq_true rfl⟩, hg _ gw_132, hg _ gw_4⟩ (pre_roV hP hK hN (ci := 1) rfl he) rfl rfl hl.1 rfl (lv_room (Nat.le_of_ble_eq_true rfl)) d_S_faults_117 ⟨Nat.le_of_ble_eq_true rfl, Nat.le_of_ble_eq_true rfl⟩).run (fun r3 hr3 => ?_)
                  subst hr3
                  refine lv_istore_n (lv' := [(2, .int (nI (x.2.1 + x.2.2.1))), (1, .int 0), (3, .int (bI true)), (4, .ref x.1), (0, .ref h)]) hx hb d_S_faults_120 rfl hl (by decide) rfl (fun ls hl => ?_)
                  refine lv_aload hx hb d_S_faults_121 (lv_at hl 3 rfl) ?_
                  refine va_getN (D := D) (ci := 1) (v := va_rf (hdO suf none)) (C := R_P) (T := F_P) (N := 6) hx hb hg gi_P hown hK hP (pre.length + 1) he rfl 5 (by decide) (va_Nw.use rfl (hN.1 (69, "next", "LSweepHand$Piece;") (by decide))) (fun _ h9 => h9) rfl d_S_faults_123 ?_
                  refine sv_astore (lv' := [(4, va_rf (hdO suf none)), (2, .int (nI (x.2.1 + x.2.2.1))), (1, .int 0), (3, .int (bI true)), (0, .ref h)]) hx hb d_S_faults_126 hl (by decide) rfl (fun ls hl => ?_)
                  refine lv_goto (tgt := 23) hx hb d_S_faults_128 (by decide) ?_
                  exact ih ls (x.2.1 + x.2.2.1) true (lv_sub hl [0, 3, 1, 2, 4] rfl) ⟨pre ++ [x], by rw [hpre, List.append_assoc]; rfl⟩ (by rw [hq1]; exact hq3) (Or.inl rfl)
        · exact absurd c_29 (by decide)
      · rcases q with _ | ⟨x9, q⟩
        · subst hb9
          have hha : hdO s0 none = some x.1 := by rw [← show x :: suf = s0 from hq4]; rfl
          refine lv_iload_n hx hb d_S_faults_28 rfl (lv_at hl 1 rfl) ?_
          refine lv_if_ne (tgt := 41) hx hb d_S_faults_29 (by decide) (fun c_29 => ?_) (fun c_29 => ?_)
          · exact absurd rfl c_29
          · refine lv_aload hx hb d_S_faults_32 (lv_at hl 0 rfl) ?_
            refine lv_aload_n hx hb d_S_faults_34 rfl (lv_at hl 4 rfl) ?_
            refine va_get (D := D) (ci := 0) (v := va_rf (hdO s0 none)) (C := R_S) (T := F_S) (N := 7) hx hb hg gi_S hown hK hP 0 rfl rfl 2 (by decide) (hg _ gw_83) (fun _ h9 => h9) rfl d_S_faults_35 ?_
            refine lv_acmp_ne (rx := (some x.1)) (ry := (hdO s0 none)) (tgt := 45) hx hb d_S_faults_38 (by decide) (fun c_38 => ?_) (fun c_38 => ?_)
            · exact absurd hha.symm c_38
            · refine lv_iconst (v := 1) hx hb d_S_faults_41 (by decide) ?_
              refine lv_goto (tgt := 46) hx hb d_S_faults_42 (by decide) ?_
              refine lv_topi (fun y9 ey9 => ?_)
              obtain rfl : y9 = bI true := ey9.trans rfl
              clear ey9
              refine lv_istore_n (lv' := [(3, .int (bI true)), (4, .ref x.1), (2, .int (nI d)), (1, .int 0), (0, .ref h)]) hx hb d_S_faults_46 rfl hl (by decide) rfl (fun ls hl => ?_)
              refine lv_iload_n hx hb d_S_faults_47 rfl (lv_at hl 3 rfl) ?_
              refine lv_aload hx hb d_S_faults_48 (lv_at hl 1 rfl) ?_
              refine va_getN (D := D) (ci := 1) (v := .int (nI x.2.1)) (C := R_P) (T := F_P) (N := 6) hx hb hg gi_P hown hK hP (pre.length + 1) he rfl 0 (by decide) (va_Nw.use rfl (hN.1 (47, "begin", "I") (by decide))) (fun _ h9 => h9) rfl d_S_faults_50 ?_
              refine lv_iload_n hx hb d_S_faults_53 rfl (lv_at hl 2 rfl) ?_
              refine lv_icmp_ne (tgt := 61) hx hb d_S_faults_54 (by decide) (fun c_54 => ?_) (fun c_54 => ?_)
              · exact absurd (by rw [hq1]) c_54
              · refine lv_iconst (v := 0) hx hb d_S_faults_57 (by decide) ?_
                refine lv_goto (tgt := 62) hx hb d_S_faults_58 (by decide) ?_
                refine lv_iadd hx hb d_S_faults_62 ?_
                refine lv_topi (fun y10 ey10 => ?_)
                obtain rfl : y10 = 0 := ey10.trans rfl
                clear ey10
                refine lv_istore_n (lv' := [(1, .int 0), (3, .int (bI true)), (4, .ref x.1), (2, .int (nI d)), (0, .ref h)]) hx hb d_S_faults_63 rfl hl (by decide) rfl (fun ls hl => ?_)
                refine lv_iload_n hx hb d_S_faults_64 rfl (lv_at hl 0 rfl) ?_
                refine lv_aload hx hb d_S_faults_65 (lv_at hl 2 rfl) ?_
                refine va_getN (D := D) (ci := 1) (v := .int (nI x.2.2.1)) (C := R_P) (T := F_P) (N := 6) hx hb hg gi_P hown hK hP (pre.length + 1) he rfl 1 (by decide) (va_Nw.use rfl (hN.1 (60, "size", "I") (by decide))) (fun _ h9 => h9) rfl d_S_faults_67 ?_
                refine lv_iconst (v := 1) hx hb d_S_faults_70 (by decide) ?_
                refine lv_icmp_lt (tgt := 78) hx hb d_S_faults_71 (by decide) (fun c_71 => ?_) (fun c_71 => ?_)
                · exact absurd c_71 (fun h9 => by have h8 := (nI_ltI (b := 1) (by omega) (by decide)).mp h9; omega)
                · refine lv_iconst (v := 0) hx hb d_S_faults_74 (by decide) ?_
                  refine lv_goto (tgt := 79) hx hb d_S_faults_75 (by decide) ?_
                  refine lv_iadd hx hb d_S_faults_79 ?_
                  refine lv_topi (fun y11 ey11 => ?_)
                  obtain rfl : y11 = 0 := ey11.trans rfl
                  clear ey11
                  refine lv_istore_n (lv' := [(1, .int 0), (3, .int (bI true)), (4, .ref x.1), (2, .int (nI d)), (0, .ref h)]) hx hb d_S_faults_80 rfl hl (by decide) rfl (fun ls hl => ?_)
                  refine lv_iload_n hx hb d_S_faults_81 rfl (lv_at hl 0 rfl) ?_
                  refine lv_aload hx hb d_S_faults_82 (lv_at hl 2 rfl) ?_
                  refine lv_iload_n hx hb d_S_faults_84 rfl (lv_at hl 1 rfl) ?_
                  refine vp_callSi (va_runS (As := [.ref x.1, .int (bI true)]) (rest := [.int 0]) ⟨hx, hb, hml, hown, hg⟩ (c_S_isMarkRight l D ty _ (pre.length + 1) x (hdO suf none) he true) (va_cwS 2 hg (gw_S gw_123 gw_124 gw_26 gw_125) rfl rfl rfl (by decide +kernel) ⟨Nat.le_of_ble_eq_true rfl, Nat.le_of_ble_eq_true rfl⟩) (pre_roS hP hK hN) rfl rfl hl.1 rfl (lv_room (Nat.le_of_ble_eq_true rfl)) d_S_faults_85 ⟨Nat.le_of_ble_eq_true rfl, Nat.le_of_ble_eq_true rfl⟩).run (fun r1 hr1 => ?_)
                  refine lv_if_eq (tgt := 95) hx hb d_S_faults_88 (by decide) (fun c_88 => ?_) (fun c_88 => ?_)
                  · exact absurd c_88 (by
                      rw [hr1]
                      cases h9 : x.2.2.2.2.1
                      · simp [bI]
                      · simp [hM x hxL h9, bI])
                  · refine lv_iconst (v := 0) hx hb d_S_faults_91 (by decide) ?_
                    refine lv_goto (tgt := 96) hx hb d_S_faults_92 (by decide) ?_
                    refine lv_iadd hx hb d_S_faults_96 ?_
                    refine lv_topi (fun y12 ey12 => ?_)
                    obtain rfl : y12 = 0 := ey12.trans rfl
                    clear ey12
                    refine lv_istore_n (lv' := [(1, .int 0), (3, .int (bI true)), (4, .ref x.1), (2, .int (nI d)), (0, .ref h)]) hx hb d_S_faults_97 rfl hl (by decide) rfl (fun ls hl => ?_)
                    refine lv_iload_n hx hb d_S_faults_98 rfl (lv_at hl 0 rfl) ?_
                    refine lv_aload_n hx hb d_S_faults_99 rfl (lv_at hl 4 rfl) ?_
                    refine lv_aload hx hb d_S_faults_100 (lv_at hl 2 rfl) ?_
                    refine vp_callSi (va_runV (As := [.ref x.1]) (rest := [.int 0]) ⟨hx, hb, hml, hown, hg⟩ (c_S_isTimeRight l D ty h cn (hdO s0 none) f v w z L (pre.length + 1) x (hdO suf none) he (by omega) (by omega)) (cwV 1 hg (gw_V gw_126 gw_128 gw_3 gw_26 gw_129) rfl rfl rfl (by decide +kernel) ⟨Nat.le_of_ble_eq_true rfl, Nat.le_of_ble_eq_true rfl⟩) (pre_roV hP hK hN (ci := 0) (k := 0) rfl rfl) rfl rfl hl.1 rfl (lv_room (Nat.le_of_ble_eq_true rfl)) d_S_faults_102 ⟨Nat.le_of_ble_eq_true rfl, Nat.le_of_ble_eq_true rfl⟩).run (fun r2 hr2 => ?_)
                    refine lv_if_eq (tgt := 112) hx hb d_S_faults_105 (by decide) (fun c_105 => ?_) (fun c_105 => ?_)
                    · exact absurd c_105 (by
                        rw [hr2]
                        cases h9 : x.2.2.2.1
                        · simp [hO x hxL h9, bI]
                        · simp [bI])
                    · refine lv_iconst (v := 0) hx hb d_S_faults_108 (by decide) ?_
                      refine lv_goto (tgt := 113) hx hb d_S_faults_109 (by decide) ?_
                      refine lv_iadd hx hb d_S_faults_113 ?_
                      refine lv_topi (fun y13 ey13 => ?_)
                      obtain rfl : y13 = 0 := ey13.trans rfl
                      clear ey13
                      refine lv_istore_n (lv' := [(1, .int 0), (3, .int (bI true)), (4, .ref x.1), (2, .int (nI d)), (0, .ref h)]) hx hb d_S_faults_114 rfl hl (by decide) rfl (fun ls hl => ?_)
                      refine lv_aload hx hb d_S_faults_115 (lv_at hl 2 rfl) ?_
                      refine vp_callSi (va_runVN (As := []) (rest := []) ⟨hx, hb, hml, hown, hg⟩ (c_P_end l D ty _ (pre.length + 1) x (hdO suf none) he) ⟨va_cnB 0 hg (gw_c gw_133) rfl rfl rfl (hN.2.1 (104, y_P_end) (by decide +kernel)) (hg _ gw_27) (by decide +kernel) ⟨Nat.le_of_ble_eq_true rfl, Nat.le_of_ble_eq_true rfl⟩, hg _ gw_132, hg _ gw_4⟩ (pre_roV hP hK hN (ci := 1) rfl he) rfl rfl hl.1 rfl (lv_room (Nat.le_of_ble_eq_true rfl)) d_S_faults_117 ⟨Nat.le_of_ble_eq_true rfl, Nat.le_of_ble_eq_true rfl⟩).run (fun r3 hr3 => ?_)
                      subst hr3
                      refine lv_istore_n (lv' := [(2, .int (nI (x.2.1 + x.2.2.1))), (1, .int 0), (3, .int (bI true)), (4, .ref x.1), (0, .ref h)]) hx hb d_S_faults_120 rfl hl (by decide) rfl (fun ls hl => ?_)
                      refine lv_aload hx hb d_S_faults_121 (lv_at hl 3 rfl) ?_
                      refine va_getN (D := D) (ci := 1) (v := va_rf (hdO suf none)) (C := R_P) (T := F_P) (N := 6) hx hb hg gi_P hown hK hP (pre.length + 1) he rfl 5 (by decide) (va_Nw.use rfl (hN.1 (69, "next", "LSweepHand$Piece;") (by decide))) (fun _ h9 => h9) rfl d_S_faults_123 ?_
                      refine sv_astore (lv' := [(4, va_rf (hdO suf none)), (2, .int (nI (x.2.1 + x.2.2.1))), (1, .int 0), (3, .int (bI true)), (0, .ref h)]) hx hb d_S_faults_126 hl (by decide) rfl (fun ls hl => ?_)
                      refine lv_goto (tgt := 23) hx hb d_S_faults_128 (by decide) ?_
                      exact ih ls (x.2.1 + x.2.2.1) true (lv_sub hl [0, 3, 1, 2, 4] rfl) ⟨pre ++ [x], by rw [hpre, List.append_assoc]; rfl⟩ (by rw [hq1]; exact hq3) (Or.inl rfl)
        · subst hb9
          have hq6 : suf = q ++ s0 := (List.cons.inj hq4).2
          obtain rfl := (List.cons.inj hq4).1
          have hxk : x.2.2.2.2.1 = false := hq5 x List.mem_cons_self
          have hha : ¬ (some x.1 : Option Nat) = hdO s0 none := by
            rcases s0 with _ | ⟨y, s1⟩
            · exact absurd rfl hs0
            · intro h9
              have h8 : x.1 = y.1 := Option.some.inj h9
              rw [hpre, hq6] at hnd
              rw [List.map_append, List.map_cons, List.map_append, List.map_cons] at hnd
              have h7 := (List.nodup_append.mp hnd).2.1
              exact (List.nodup_cons.mp h7).1 (by rw [h8]; simp)
          refine lv_iload_n hx hb d_S_faults_28 rfl (lv_at hl 1 rfl) ?_
          refine lv_if_ne (tgt := 41) hx hb d_S_faults_29 (by decide) (fun c_29 => ?_) (fun c_29 => ?_)
          · exact absurd rfl c_29
          · refine lv_aload hx hb d_S_faults_32 (lv_at hl 0 rfl) ?_
            refine lv_aload_n hx hb d_S_faults_34 rfl (lv_at hl 4 rfl) ?_
            refine va_get (D := D) (ci := 0) (v := va_rf (hdO s0 none)) (C := R_S) (T := F_S) (N := 7) hx hb hg gi_S hown hK hP 0 rfl rfl 2 (by decide) (hg _ gw_83) (fun _ h9 => h9) rfl d_S_faults_35 ?_
            refine lv_acmp_ne (rx := (some x.1)) (ry := (hdO s0 none)) (tgt := 45) hx hb d_S_faults_38 (by decide) (fun c_38 => ?_) (fun c_38 => ?_)
            · refine lv_iconst (v := 0) hx hb d_S_faults_45 (by decide) ?_
              refine lv_topi (fun y14 ey14 => ?_)
              obtain rfl : y14 = bI false := ey14.trans rfl
              clear ey14
              refine lv_istore_n (lv' := [(3, .int (bI false)), (4, .ref x.1), (2, .int (nI d)), (1, .int 0), (0, .ref h)]) hx hb d_S_faults_46 rfl hl (by decide) rfl (fun ls hl => ?_)
              refine lv_iload_n hx hb d_S_faults_47 rfl (lv_at hl 3 rfl) ?_
              refine lv_aload hx hb d_S_faults_48 (lv_at hl 1 rfl) ?_
              refine va_getN (D := D) (ci := 1) (v := .int (nI x.2.1)) (C := R_P) (T := F_P) (N := 6) hx hb hg gi_P hown hK hP (pre.length + 1) he rfl 0 (by decide) (va_Nw.use rfl (hN.1 (47, "begin", "I") (by decide))) (fun _ h9 => h9) rfl d_S_faults_50 ?_
              refine lv_iload_n hx hb d_S_faults_53 rfl (lv_at hl 2 rfl) ?_
              refine lv_icmp_ne (tgt := 61) hx hb d_S_faults_54 (by decide) (fun c_54 => ?_) (fun c_54 => ?_)
              · exact absurd (by rw [hq1]) c_54
              · refine lv_iconst (v := 0) hx hb d_S_faults_57 (by decide) ?_
                refine lv_goto (tgt := 62) hx hb d_S_faults_58 (by decide) ?_
                refine lv_iadd hx hb d_S_faults_62 ?_
                refine lv_topi (fun y15 ey15 => ?_)
                obtain rfl : y15 = 0 := ey15.trans rfl
                clear ey15
                refine lv_istore_n (lv' := [(1, .int 0), (3, .int (bI false)), (4, .ref x.1), (2, .int (nI d)), (0, .ref h)]) hx hb d_S_faults_63 rfl hl (by decide) rfl (fun ls hl => ?_)
                refine lv_iload_n hx hb d_S_faults_64 rfl (lv_at hl 0 rfl) ?_
                refine lv_aload hx hb d_S_faults_65 (lv_at hl 2 rfl) ?_
                refine va_getN (D := D) (ci := 1) (v := .int (nI x.2.2.1)) (C := R_P) (T := F_P) (N := 6) hx hb hg gi_P hown hK hP (pre.length + 1) he rfl 1 (by decide) (va_Nw.use rfl (hN.1 (60, "size", "I") (by decide))) (fun _ h9 => h9) rfl d_S_faults_67 ?_
                refine lv_iconst (v := 1) hx hb d_S_faults_70 (by decide) ?_
                refine lv_icmp_lt (tgt := 78) hx hb d_S_faults_71 (by decide) (fun c_71 => ?_) (fun c_71 => ?_)
                · exact absurd c_71 (fun h9 => by have h8 := (nI_ltI (b := 1) (by omega) (by decide)).mp h9; omega)
                · refine lv_iconst (v := 0) hx hb d_S_faults_74 (by decide) ?_
                  refine lv_goto (tgt := 79) hx hb d_S_faults_75 (by decide) ?_
                  refine lv_iadd hx hb d_S_faults_79 ?_
                  refine lv_topi (fun y16 ey16 => ?_)
                  obtain rfl : y16 = 0 := ey16.trans rfl
                  clear ey16
                  refine lv_istore_n (lv' := [(1, .int 0), (3, .int (bI false)), (4, .ref x.1), (2, .int (nI d)), (0, .ref h)]) hx hb d_S_faults_80 rfl hl (by decide) rfl (fun ls hl => ?_)
                  refine lv_iload_n hx hb d_S_faults_81 rfl (lv_at hl 0 rfl) ?_
                  refine lv_aload hx hb d_S_faults_82 (lv_at hl 2 rfl) ?_
                  refine lv_iload_n hx hb d_S_faults_84 rfl (lv_at hl 1 rfl) ?_
                  refine vp_callSi (va_runS (As := [.ref x.1, .int (bI false)]) (rest := [.int 0]) ⟨hx, hb, hml, hown, hg⟩ (c_S_isMarkRight l D ty _ (pre.length + 1) x (hdO suf none) he false) (va_cwS 2 hg (gw_S gw_123 gw_124 gw_26 gw_125) rfl rfl rfl (by decide +kernel) ⟨Nat.le_of_ble_eq_true rfl, Nat.le_of_ble_eq_true rfl⟩) (pre_roS hP hK hN) rfl rfl hl.1 rfl (lv_room (Nat.le_of_ble_eq_true rfl)) d_S_faults_85 ⟨Nat.le_of_ble_eq_true rfl, Nat.le_of_ble_eq_true rfl⟩).run (fun r1 hr1 => ?_)
                  refine lv_if_eq (tgt := 95) hx hb d_S_faults_88 (by decide) (fun c_88 => ?_) (fun c_88 => ?_)
                  · exact absurd c_88 (by rw [hr1, hxk]; simp [bI])
                  · refine lv_iconst (v := 0) hx hb d_S_faults_91 (by decide) ?_
                    refine lv_goto (tgt := 96) hx hb d_S_faults_92 (by decide) ?_
                    refine lv_iadd hx hb d_S_faults_96 ?_
                    refine lv_topi (fun y17 ey17 => ?_)
                    obtain rfl : y17 = 0 := ey17.trans rfl
                    clear ey17
                    refine lv_istore_n (lv' := [(1, .int 0), (3, .int (bI false)), (4, .ref x.1), (2, .int (nI d)), (0, .ref h)]) hx hb d_S_faults_97 rfl hl (by decide) rfl (fun ls hl => ?_)
                    refine lv_iload_n hx hb d_S_faults_98 rfl (lv_at hl 0 rfl) ?_
                    refine lv_aload_n hx hb d_S_faults_99 rfl (lv_at hl 4 rfl) ?_
                    refine lv_aload hx hb d_S_faults_100 (lv_at hl 2 rfl) ?_
                    refine vp_callSi (va_runV (As := [.ref x.1]) (rest := [.int 0]) ⟨hx, hb, hml, hown, hg⟩ (c_S_isTimeRight l D ty h cn (hdO s0 none) f v w z L (pre.length + 1) x (hdO suf none) he (by omega) (by omega)) (cwV 1 hg (gw_V gw_126 gw_128 gw_3 gw_26 gw_129) rfl rfl rfl (by decide +kernel) ⟨Nat.le_of_ble_eq_true rfl, Nat.le_of_ble_eq_true rfl⟩) (pre_roV hP hK hN (ci := 0) (k := 0) rfl rfl) rfl rfl hl.1 rfl (lv_room (Nat.le_of_ble_eq_true rfl)) d_S_faults_102 ⟨Nat.le_of_ble_eq_true rfl, Nat.le_of_ble_eq_true rfl⟩).run (fun r2 hr2 => ?_)
                    refine lv_if_eq (tgt := 112) hx hb d_S_faults_105 (by decide) (fun c_105 => ?_) (fun c_105 => ?_)
                    · exact absurd c_105 (by
                        rw [hr2]
                        cases h9 : x.2.2.2.1
                        · simp [hO x hxL h9, bI]
                        · simp [bI])
                    · refine lv_iconst (v := 0) hx hb d_S_faults_108 (by decide) ?_
                      refine lv_goto (tgt := 113) hx hb d_S_faults_109 (by decide) ?_
                      refine lv_iadd hx hb d_S_faults_113 ?_
                      refine lv_topi (fun y18 ey18 => ?_)
                      obtain rfl : y18 = 0 := ey18.trans rfl
                      clear ey18
                      refine lv_istore_n (lv' := [(1, .int 0), (3, .int (bI false)), (4, .ref x.1), (2, .int (nI d)), (0, .ref h)]) hx hb d_S_faults_114 rfl hl (by decide) rfl (fun ls hl => ?_)
                      refine lv_aload hx hb d_S_faults_115 (lv_at hl 2 rfl) ?_
                      refine vp_callSi (va_runVN (As := []) (rest := []) ⟨hx, hb, hml, hown, hg⟩ (c_P_end l D ty _ (pre.length + 1) x (hdO suf none) he) ⟨va_cnB 0 hg (gw_c gw_133) rfl rfl rfl (hN.2.1 (104, y_P_end) (by decide +kernel)) (hg _ gw_27) (by decide +kernel) ⟨Nat.le_of_ble_eq_true rfl, Nat.le_of_ble_eq_true rfl⟩, hg _ gw_132, hg _ gw_4⟩ (pre_roV hP hK hN (ci := 1) rfl he) rfl rfl hl.1 rfl (lv_room (Nat.le_of_ble_eq_true rfl)) d_S_faults_117 ⟨Nat.le_of_ble_eq_true rfl, Nat.le_of_ble_eq_true rfl⟩).run (fun r3 hr3 => ?_)
                      subst hr3
                      refine lv_istore_n (lv' := [(2, .int (nI (x.2.1 + x.2.2.1))), (1, .int 0), (3, .int (bI false)), (4, .ref x.1), (0, .ref h)]) hx hb d_S_faults_120 rfl hl (by decide) rfl (fun ls hl => ?_)
                      refine lv_aload hx hb d_S_faults_121 (lv_at hl 3 rfl) ?_
                      refine va_getN (D := D) (ci := 1) (v := va_rf (hdO suf none)) (C := R_P) (T := F_P) (N := 6) hx hb hg gi_P hown hK hP (pre.length + 1) he rfl 5 (by decide) (va_Nw.use rfl (hN.1 (69, "next", "LSweepHand$Piece;") (by decide))) (fun _ h9 => h9) rfl d_S_faults_123 ?_
                      refine sv_astore (lv' := [(4, va_rf (hdO suf none)), (2, .int (nI (x.2.1 + x.2.2.1))), (1, .int 0), (3, .int (bI false)), (0, .ref h)]) hx hb d_S_faults_126 hl (by decide) rfl (fun ls hl => ?_)
                      refine lv_goto (tgt := 23) hx hb d_S_faults_128 (by decide) ?_
                      exact ih ls (x.2.1 + x.2.2.1) false (lv_sub hl [0, 3, 1, 2, 4] rfl) ⟨pre ++ [x], by rw [hpre, List.append_assoc]; rfl⟩ (by rw [hq1]; exact hq3) (Or.inr ⟨rfl, q, hq6, hs0, fun y9 h9 => hq5 y9 (List.mem_cons_of_mem _ h9)⟩)
            · exact absurd c_38 hha
  · replace hme : met = true := by rw [hme, c_8]; rfl
    refine lv_iconst (v := 1) hx hb d_S_faults_11 (by decide) ?_
    refine lv_goto (tgt := 16) hx hb d_S_faults_12 (by decide) ?_
    refine lv_topi (fun y19 ey19 => ?_)
    obtain rfl : y19 = bI met := ey19.trans (by rw [hme]; rfl)
    clear ey19
    clear hme c_8
    refine lv_istore_n (lv' := [(3, .int (bI met)), (2, .int 1), (1, .int 0), (0, .ref h)]) hx hb d_S_faults_16 rfl hl (by decide) rfl (fun ls hl => ?_)
    refine lv_aload_n hx hb d_S_faults_17 rfl (lv_at hl 3 rfl) ?_
    refine va_get (D := D) (ci := 0) (v := va_rf (hdO L none)) (C := R_S) (T := F_S) (N := 7) hx hb hg gi_S hown hK hP 0 rfl rfl 1 (by decide) (hg _ gw_82) (fun _ h9 => h9) rfl d_S_faults_18 ?_
    refine sv_astore (lv' := [(4, va_rf (hdO L none)), (3, .int (bI met)), (2, .int 1), (1, .int 0), (0, .ref h)]) hx hb d_S_faults_21 hl (by decide) rfl (fun ls hl => ?_)
    have hmt0 := hmt
    obtain ⟨d, hd⟩ : ∃ q : Nat, q = 1 := ⟨_, rfl⟩
    obtain ⟨mt, hmt⟩ : ∃ q : Bool, q = met := ⟨_, rfl⟩
    obtain ⟨suf, hs⟩ : ∃ suf, suf = L := ⟨_, rfl⟩
    replace hl := lv_sub hl [0, 1, 2, 3, 4] rfl
    replace hl : lv_has ls 5 [(4, va_rf (hdO L none)), (3, .int (bI met)), (2, .int 1), (1, .int 0), (0, .ref h)] := hl
    replace hl : lv_has ls 5 [(4, va_rf (hdO suf none)), (3, .int (bI mt)), (2, .int (nI d)), (1, .int 0), (0, .ref h)] := by rw [hs, hmt, hd]; exact hl
    have hpre : ∃ pre, L = pre ++ suf := ⟨[], hs.symm⟩
    have hq : Til d suf (cn + 1) := by rw [hs, hd]; exact hT
    have hb9 : (mt = true ∨ (mt = false ∧ ∃ q, suf = q ++ s0 ∧ s0 ≠ [] ∧ ∀ x ∈ q, x.2.2.2.2.1 = false)) := by rw [hs, hmt]; exact hmt0
    clear hs hd hmt
    revert hb9
    revert hq
    revert hpre
    revert hl
    revert mt
    revert d
    revert ls
    induction suf with
    | nil =>
      intro ls d mt hl hpre hq hb9
      replace hl : lv_has ls 5 [(4, .null), (3, .int (bI mt)), (2, .int (nI d)), (1, .int 0), (0, .ref h)] := hl
      refine lv_aloadN hx hb d_S_faults_23 (lv_at hl 0 rfl) ?_
      refine lv_ifnullN (tgt := 131) hx hb d_S_faults_25 (by decide) ?_
      have hd9 : d = cn + 1 := hq
      have hmt9 : mt = true := by
        rcases hb9 with h9 | ⟨-, q, h9, hs0, -⟩
        · exact h9
        · exact absurd (List.append_eq_nil_iff.mp h9.symm).2 hs0
      subst hd9 hmt9
      refine lv_iload_n hx hb d_S_faults_131 rfl (lv_at hl 3 rfl) ?_
      refine lv_iload_n hx hb d_S_faults_132 rfl (lv_at hl 2 rfl) ?_
      refine lv_iconst (v := 1) hx hb d_S_faults_133 (by decide) ?_
      refine lv_aload_n hx hb d_S_faults_134 rfl (lv_at hl 4 rfl) ?_
      refine va_get (D := D) (ci := 0) (v := .int (nI cn)) (C := R_S) (T := F_S) (N := 7) hx hb hg gi_S hown hK hP 0 rfl rfl 0 (by decide) (hg _ gw_81) (fun _ h9 => h9) rfl d_S_faults_135 ?_
      refine lv_iadd hx hb d_S_faults_138 ?_
      refine lv_icmp_ne (tgt := 146) hx hb d_S_faults_139 (by decide) (fun c_139 => ?_) (fun c_139 => ?_)
      · exact absurd (by rw [show (1 : Int32) = nI 1 from rfl, nI_add, Nat.add_comm]) c_139
      · refine lv_iconst (v := 0) hx hb d_S_faults_142 (by decide) ?_
        refine lv_goto (tgt := 147) hx hb d_S_faults_143 (by decide) ?_
        refine lv_iadd hx hb d_S_faults_147 ?_
        refine lv_topi (fun y20 ey20 => ?_)
        obtain rfl : y20 = 0 := ey20.trans rfl
        clear ey20
        refine lv_istore_n (lv' := [(1, .int 0), (4, .null), (3, .int (bI true)), (2, .int (nI (cn + 1))), (0, .ref h)]) hx hb d_S_faults_148 rfl hl (by decide) rfl (fun ls hl => ?_)
        refine lv_iload_n hx hb d_S_faults_149 rfl (lv_at hl 0 rfl) ?_
        refine lv_iload_n hx hb d_S_faults_150 rfl (lv_at hl 2 rfl) ?_
        refine lv_if_eq (tgt := 158) hx hb d_S_faults_151 (by decide) (fun c_151 => ?_) (fun c_151 => ?_)
        · exact absurd c_151 (by decide)
        · refine lv_iconst (v := 0) hx hb d_S_faults_154 (by decide) ?_
          refine lv_goto (tgt := 159) hx hb d_S_faults_155 (by decide) ?_
          refine lv_iadd hx hb d_S_faults_159 ?_
          refine lv_topi (fun y21 ey21 => ?_)
          obtain rfl : y21 = 0 := ey21.trans rfl
          clear ey21
          refine lv_istore_n (lv' := [(1, .int 0), (4, .null), (3, .int (bI true)), (2, .int (nI (cn + 1))), (0, .ref h)]) hx hb d_S_faults_160 rfl hl (by decide) rfl (fun ls hl => ?_)
          refine lv_iload_n hx hb d_S_faults_161 rfl (lv_at hl 0 rfl) ?_
          exact W.iret (v := 0) hx hb hr (fun t ht hW => ⟨_, rfl, rfl, ht⟩) (fun q h => nomatch h) d_S_faults_162
    | cons x suf ih =>
      intro ls d mt hl hpre hq hb9
      replace hl : lv_has ls 5 [(4, .ref x.1), (3, .int (bI mt)), (2, .int (nI d)), (1, .int 0), (0, .ref h)] := hl
      obtain ⟨pre, hpre⟩ := hpre
      have he := chG_at (scell h cn (hdO L none) (hdO s0 none) f v w z) pre x suf none
      rw [← hpre] at he
      have hxL : x ∈ L := by rw [hpre]; simp
      obtain ⟨hb1, hb2, hb3⟩ := hBd x hxL
      obtain ⟨hq1, hq2, hq3⟩ := hq
      refine lv_aload hx hb d_S_faults_23 (lv_at hl 0 rfl) ?_
      refine lv_ifnull hx hb d_S_faults_25 ?_
      rcases hb9 with hb9 | ⟨hb9, q, hq4, hs0, hq5⟩
      · subst hb9
        refine lv_iload_n hx hb d_S_faults_28 rfl (lv_at hl 1 rfl) ?_
        refine lv_if_ne (tgt := 41) hx hb d_S_faults_29 (by decide) (fun c_29 => ?_) (fun c_29 => ?_)
        · refine lv_iconst (v := 1) hx hb d_S_faults_41 (by decide) ?_
          refine lv_goto (tgt := 46) hx hb d_S_faults_42 (by decide) ?_
          refine lv_topi (fun y22 ey22 => ?_)
          obtain rfl : y22 = bI true := ey22.trans rfl
          clear ey22
          refine lv_istore_n (lv' := [(3, .int (bI true)), (4, .ref x.1), (2, .int (nI d)), (1, .int 0), (0, .ref h)]) hx hb d_S_faults_46 rfl hl (by decide) rfl (fun ls hl => ?_)
          refine lv_iload_n hx hb d_S_faults_47 rfl (lv_at hl 3 rfl) ?_
          refine lv_aload hx hb d_S_faults_48 (lv_at hl 1 rfl) ?_
          refine va_getN (D := D) (ci := 1) (v := .int (nI x.2.1)) (C := R_P) (T := F_P) (N := 6) hx hb hg gi_P hown hK hP (pre.length + 1) he rfl 0 (by decide) (va_Nw.use rfl (hN.1 (47, "begin", "I") (by decide))) (fun _ h9 => h9) rfl d_S_faults_50 ?_
          refine lv_iload_n hx hb d_S_faults_53 rfl (lv_at hl 2 rfl) ?_
          refine lv_icmp_ne (tgt := 61) hx hb d_S_faults_54 (by decide) (fun c_54 => ?_) (fun c_54 => ?_)
          · exact absurd (by rw [hq1]) c_54
          · refine lv_iconst (v := 0) hx hb d_S_faults_57 (by decide) ?_
            refine lv_goto (tgt := 62) hx hb d_S_faults_58 (by decide) ?_
            refine lv_iadd hx hb d_S_faults_62 ?_
            refine lv_topi (fun y23 ey23 => ?_)
            obtain rfl : y23 = 0 := ey23.trans rfl
            clear ey23
            refine lv_istore_n (lv' := [(1, .int 0), (3, .int (bI true)), (4, .ref x.1), (2, .int (nI d)), (0, .ref h)]) hx hb d_S_faults_63 rfl hl (by decide) rfl (fun ls hl => ?_)
            refine lv_iload_n hx hb d_S_faults_64 rfl (lv_at hl 0 rfl) ?_
            refine lv_aload hx hb d_S_faults_65 (lv_at hl 2 rfl) ?_
            refine va_getN (D := D) (ci := 1) (v := .int (nI x.2.2.1)) (C := R_P) (T := F_P) (N := 6) hx hb hg gi_P hown hK hP (pre.length + 1) he rfl 1 (by decide) (va_Nw.use rfl (hN.1 (60, "size", "I") (by decide))) (fun _ h9 => h9) rfl d_S_faults_67 ?_
            refine lv_iconst (v := 1) hx hb d_S_faults_70 (by decide) ?_
            refine lv_icmp_lt (tgt := 78) hx hb d_S_faults_71 (by decide) (fun c_71 => ?_) (fun c_71 => ?_)
            · exact absurd c_71 (fun h9 => by have h8 := (nI_ltI (b := 1) (by omega) (by decide)).mp h9; omega)
            · refine lv_iconst (v := 0) hx hb d_S_faults_74 (by decide) ?_
              refine lv_goto (tgt := 79) hx hb d_S_faults_75 (by decide) ?_
              refine lv_iadd hx hb d_S_faults_79 ?_
              refine lv_topi (fun y24 ey24 => ?_)
              obtain rfl : y24 = 0 := ey24.trans rfl
              clear ey24
              refine lv_istore_n (lv' := [(1, .int 0), (3, .int (bI true)), (4, .ref x.1), (2, .int (nI d)), (0, .ref h)]) hx hb d_S_faults_80 rfl hl (by decide) rfl (fun ls hl => ?_)
              refine lv_iload_n hx hb d_S_faults_81 rfl (lv_at hl 0 rfl) ?_
              refine lv_aload hx hb d_S_faults_82 (lv_at hl 2 rfl) ?_
              refine lv_iload_n hx hb d_S_faults_84 rfl (lv_at hl 1 rfl) ?_
              refine vp_callSi (va_runS (As := [.ref x.1, .int (bI true)]) (rest := [.int 0]) ⟨hx, hb, hml, hown, hg⟩ (c_S_isMarkRight l D ty _ (pre.length + 1) x (hdO suf none) he true) (va_cwS 2 hg (gw_S gw_123 gw_124 gw_26 gw_125) rfl rfl rfl (by decide +kernel) ⟨Nat.le_of_ble_eq_true rfl, Nat.le_of_ble_eq_true rfl⟩) (pre_roS hP hK hN) rfl rfl hl.1 rfl (lv_room (Nat.le_of_ble_eq_true rfl)) d_S_faults_85 ⟨Nat.le_of_ble_eq_true rfl, Nat.le_of_ble_eq_true rfl⟩).run (fun r1 hr1 => ?_)
              refine lv_if_eq (tgt := 95) hx hb d_S_faults_88 (by decide) (fun c_88 => ?_) (fun c_88 => ?_)
              · exact absurd c_88 (by
                  rw [hr1]
                  cases h9 : x.2.2.2.2.1
                  · simp [bI]
                  · simp [hM x hxL h9, bI])
              · refine lv_iconst (v := 0) hx hb d_S_faults_91 (by decide) ?_
                refine lv_goto (tgt := 96) hx hb d_S_faults_92 (by decide) ?_
                refine lv_iadd hx hb d_S_faults_96 ?_
                refine lv_topi (fun y25 ey25 => ?_)
                obtain rfl : y25 = 0 := ey25.trans rfl
                clear ey25
                refine lv_istore_n (lv' := [(1, .int 0), (3, .int (bI true)), (4, .ref x.1), (2, .int (nI d)), (0, .ref h)]) hx hb d_S_faults_97 rfl hl (by decide) rfl (fun ls hl => ?_)
                refine lv_iload_n hx hb d_S_faults_98 rfl (lv_at hl 0 rfl) ?_
                refine lv_aload_n hx hb d_S_faults_99 rfl (lv_at hl 4 rfl) ?_
                refine lv_aload hx hb d_S_faults_100 (lv_at hl 2 rfl) ?_
                refine vp_callSi (va_runV (As := [.ref x.1]) (rest := [.int 0]) ⟨hx, hb, hml, hown, hg⟩ (c_S_isTimeRight l D ty h cn (hdO s0 none) f v w z L (pre.length + 1) x (hdO suf none) he (by omega) (by omega)) (cwV 1 hg (gw_V gw_126 gw_128 gw_3 gw_26 gw_129) rfl rfl rfl (by decide +kernel) ⟨Nat.le_of_ble_eq_true rfl, Nat.le_of_ble_eq_true rfl⟩) (pre_roV hP hK hN (ci := 0) (k := 0) rfl rfl) rfl rfl hl.1 rfl (lv_room (Nat.le_of_ble_eq_true rfl)) d_S_faults_102 ⟨Nat.le_of_ble_eq_true rfl, Nat.le_of_ble_eq_true rfl⟩).run (fun r2 hr2 => ?_)
                refine lv_if_eq (tgt := 112) hx hb d_S_faults_105 (by decide) (fun c_105 => ?_) (fun c_105 => ?_)
                · exact absurd c_105 (by
                    rw [hr2]
                    cases h9 : x.2.2.2.1
                    · simp [hO x hxL h9, bI]
                    · simp [bI])
                · refine lv_iconst (v := 0) hx hb d_S_faults_108 (by decide) ?_
                  refine lv_goto (tgt := 113) hx hb d_S_faults_109 (by decide) ?_
                  refine lv_iadd hx hb d_S_faults_113 ?_
                  refine lv_topi (fun y26 ey26 => ?_)
                  obtain rfl : y26 = 0 := ey26.trans rfl
                  clear ey26
                  refine lv_istore_n (lv' := [(1, .int 0), (3, .int (bI true)), (4, .ref x.1), (2, .int (nI d)), (0, .ref h)]) hx hb d_S_faults_114 rfl hl (by decide) rfl (fun ls hl => ?_)
                  refine lv_aload hx hb d_S_faults_115 (lv_at hl 2 rfl) ?_
                  refine vp_callSi (va_runVN (As := []) (rest := []) ⟨hx, hb, hml, hown, hg⟩ (c_P_end l D ty _ (pre.length + 1) x (hdO suf none) he) ⟨va_cnB 0 hg (gw_c gw_133) rfl rfl rfl (hN.2.1 (104, y_P_end) (by decide +kernel)) (hg _ gw_27) (by decide +kernel) ⟨Nat.le_of_ble_eq_true rfl, Nat.le_of_ble_eq_true rfl⟩, hg _ gw_132, hg _ gw_4⟩ (pre_roV hP hK hN (ci := 1) rfl he) rfl rfl hl.1 rfl (lv_room (Nat.le_of_ble_eq_true rfl)) d_S_faults_117 ⟨Nat.le_of_ble_eq_true rfl, Nat.le_of_ble_eq_true rfl⟩).run (fun r3 hr3 => ?_)
                  subst hr3
                  refine lv_istore_n (lv' := [(2, .int (nI (x.2.1 + x.2.2.1))), (1, .int 0), (3, .int (bI true)), (4, .ref x.1), (0, .ref h)]) hx hb d_S_faults_120 rfl hl (by decide) rfl (fun ls hl => ?_)
                  refine lv_aload hx hb d_S_faults_121 (lv_at hl 3 rfl) ?_
                  refine va_getN (D := D) (ci := 1) (v := va_rf (hdO suf none)) (C := R_P) (T := F_P) (N := 6) hx hb hg gi_P hown hK hP (pre.length + 1) he rfl 5 (by decide) (va_Nw.use rfl (hN.1 (69, "next", "LSweepHand$Piece;") (by decide))) (fun _ h9 => h9) rfl d_S_faults_123 ?_
                  refine sv_astore (lv' := [(4, va_rf (hdO suf none)), (2, .int (nI (x.2.1 + x.2.2.1))), (1, .int 0), (3, .int (bI true)), (0, .ref h)]) hx hb d_S_faults_126 hl (by decide) rfl (fun ls hl => ?_)
                  refine lv_goto (tgt := 23) hx hb d_S_faults_128 (by decide) ?_
                  exact ih ls (x.2.1 + x.2.2.1) true (lv_sub hl [0, 3, 1, 2, 4] rfl) ⟨pre ++ [x], by rw [hpre, List.append_assoc]; rfl⟩ (by rw [hq1]; exact hq3) (Or.inl rfl)
        · exact absurd c_29 (by decide)
      · rcases q with _ | ⟨x9, q⟩
        · subst hb9
          have hha : hdO s0 none = some x.1 := by rw [← show x :: suf = s0 from hq4]; rfl
          refine lv_iload_n hx hb d_S_faults_28 rfl (lv_at hl 1 rfl) ?_
          refine lv_if_ne (tgt := 41) hx hb d_S_faults_29 (by decide) (fun c_29 => ?_) (fun c_29 => ?_)
          · exact absurd rfl c_29
          · refine lv_aload hx hb d_S_faults_32 (lv_at hl 0 rfl) ?_
            refine lv_aload_n hx hb d_S_faults_34 rfl (lv_at hl 4 rfl) ?_
            refine va_get (D := D) (ci := 0) (v := va_rf (hdO s0 none)) (C := R_S) (T := F_S) (N := 7) hx hb hg gi_S hown hK hP 0 rfl rfl 2 (by decide) (hg _ gw_83) (fun _ h9 => h9) rfl d_S_faults_35 ?_
            refine lv_acmp_ne (rx := (some x.1)) (ry := (hdO s0 none)) (tgt := 45) hx hb d_S_faults_38 (by decide) (fun c_38 => ?_) (fun c_38 => ?_)
            · exact absurd hha.symm c_38
            · refine lv_iconst (v := 1) hx hb d_S_faults_41 (by decide) ?_
              refine lv_goto (tgt := 46) hx hb d_S_faults_42 (by decide) ?_
              refine lv_topi (fun y27 ey27 => ?_)
              obtain rfl : y27 = bI true := ey27.trans rfl
              clear ey27
              refine lv_istore_n (lv' := [(3, .int (bI true)), (4, .ref x.1), (2, .int (nI d)), (1, .int 0), (0, .ref h)]) hx hb d_S_faults_46 rfl hl (by decide) rfl (fun ls hl => ?_)
              refine lv_iload_n hx hb d_S_faults_47 rfl (lv_at hl 3 rfl) ?_
              refine lv_aload hx hb d_S_faults_48 (lv_at hl 1 rfl) ?_
              refine va_getN (D := D) (ci := 1) (v := .int (nI x.2.1)) (C := R_P) (T := F_P) (N := 6) hx hb hg gi_P hown hK hP (pre.length + 1) he rfl 0 (by decide) (va_Nw.use rfl (hN.1 (47, "begin", "I") (by decide))) (fun _ h9 => h9) rfl d_S_faults_50 ?_
              refine lv_iload_n hx hb d_S_faults_53 rfl (lv_at hl 2 rfl) ?_
              refine lv_icmp_ne (tgt := 61) hx hb d_S_faults_54 (by decide) (fun c_54 => ?_) (fun c_54 => ?_)
              · exact absurd (by rw [hq1]) c_54
              · refine lv_iconst (v := 0) hx hb d_S_faults_57 (by decide) ?_
                refine lv_goto (tgt := 62) hx hb d_S_faults_58 (by decide) ?_
                refine lv_iadd hx hb d_S_faults_62 ?_
                refine lv_topi (fun y28 ey28 => ?_)
                obtain rfl : y28 = 0 := ey28.trans rfl
                clear ey28
                refine lv_istore_n (lv' := [(1, .int 0), (3, .int (bI true)), (4, .ref x.1), (2, .int (nI d)), (0, .ref h)]) hx hb d_S_faults_63 rfl hl (by decide) rfl (fun ls hl => ?_)
                refine lv_iload_n hx hb d_S_faults_64 rfl (lv_at hl 0 rfl) ?_
                refine lv_aload hx hb d_S_faults_65 (lv_at hl 2 rfl) ?_
                refine va_getN (D := D) (ci := 1) (v := .int (nI x.2.2.1)) (C := R_P) (T := F_P) (N := 6) hx hb hg gi_P hown hK hP (pre.length + 1) he rfl 1 (by decide) (va_Nw.use rfl (hN.1 (60, "size", "I") (by decide))) (fun _ h9 => h9) rfl d_S_faults_67 ?_
                refine lv_iconst (v := 1) hx hb d_S_faults_70 (by decide) ?_
                refine lv_icmp_lt (tgt := 78) hx hb d_S_faults_71 (by decide) (fun c_71 => ?_) (fun c_71 => ?_)
                · exact absurd c_71 (fun h9 => by have h8 := (nI_ltI (b := 1) (by omega) (by decide)).mp h9; omega)
                · refine lv_iconst (v := 0) hx hb d_S_faults_74 (by decide) ?_
                  refine lv_goto (tgt := 79) hx hb d_S_faults_75 (by decide) ?_
                  refine lv_iadd hx hb d_S_faults_79 ?_
                  refine lv_topi (fun y29 ey29 => ?_)
                  obtain rfl : y29 = 0 := ey29.trans rfl
                  clear ey29
                  refine lv_istore_n (lv' := [(1, .int 0), (3, .int (bI true)), (4, .ref x.1), (2, .int (nI d)), (0, .ref h)]) hx hb d_S_faults_80 rfl hl (by decide) rfl (fun ls hl => ?_)
                  refine lv_iload_n hx hb d_S_faults_81 rfl (lv_at hl 0 rfl) ?_
                  refine lv_aload hx hb d_S_faults_82 (lv_at hl 2 rfl) ?_
                  refine lv_iload_n hx hb d_S_faults_84 rfl (lv_at hl 1 rfl) ?_
                  refine vp_callSi (va_runS (As := [.ref x.1, .int (bI true)]) (rest := [.int 0]) ⟨hx, hb, hml, hown, hg⟩ (c_S_isMarkRight l D ty _ (pre.length + 1) x (hdO suf none) he true) (va_cwS 2 hg (gw_S gw_123 gw_124 gw_26 gw_125) rfl rfl rfl (by decide +kernel) ⟨Nat.le_of_ble_eq_true rfl, Nat.le_of_ble_eq_true rfl⟩) (pre_roS hP hK hN) rfl rfl hl.1 rfl (lv_room (Nat.le_of_ble_eq_true rfl)) d_S_faults_85 ⟨Nat.le_of_ble_eq_true rfl, Nat.le_of_ble_eq_true rfl⟩).run (fun r1 hr1 => ?_)
                  refine lv_if_eq (tgt := 95) hx hb d_S_faults_88 (by decide) (fun c_88 => ?_) (fun c_88 => ?_)
                  · exact absurd c_88 (by
                      rw [hr1]
                      cases h9 : x.2.2.2.2.1
                      · simp [bI]
                      · simp [hM x hxL h9, bI])
                  · refine lv_iconst (v := 0) hx hb d_S_faults_91 (by decide) ?_
                    refine lv_goto (tgt := 96) hx hb d_S_faults_92 (by decide) ?_
                    refine lv_iadd hx hb d_S_faults_96 ?_
                    refine lv_topi (fun y30 ey30 => ?_)
                    obtain rfl : y30 = 0 := ey30.trans rfl
                    clear ey30
                    refine lv_istore_n (lv' := [(1, .int 0), (3, .int (bI true)), (4, .ref x.1), (2, .int (nI d)), (0, .ref h)]) hx hb d_S_faults_97 rfl hl (by decide) rfl (fun ls hl => ?_)
                    refine lv_iload_n hx hb d_S_faults_98 rfl (lv_at hl 0 rfl) ?_
                    refine lv_aload_n hx hb d_S_faults_99 rfl (lv_at hl 4 rfl) ?_
                    refine lv_aload hx hb d_S_faults_100 (lv_at hl 2 rfl) ?_
                    refine vp_callSi (va_runV (As := [.ref x.1]) (rest := [.int 0]) ⟨hx, hb, hml, hown, hg⟩ (c_S_isTimeRight l D ty h cn (hdO s0 none) f v w z L (pre.length + 1) x (hdO suf none) he (by omega) (by omega)) (cwV 1 hg (gw_V gw_126 gw_128 gw_3 gw_26 gw_129) rfl rfl rfl (by decide +kernel) ⟨Nat.le_of_ble_eq_true rfl, Nat.le_of_ble_eq_true rfl⟩) (pre_roV hP hK hN (ci := 0) (k := 0) rfl rfl) rfl rfl hl.1 rfl (lv_room (Nat.le_of_ble_eq_true rfl)) d_S_faults_102 ⟨Nat.le_of_ble_eq_true rfl, Nat.le_of_ble_eq_true rfl⟩).run (fun r2 hr2 => ?_)
                    refine lv_if_eq (tgt := 112) hx hb d_S_faults_105 (by decide) (fun c_105 => ?_) (fun c_105 => ?_)
                    · exact absurd c_105 (by
                        rw [hr2]
                        cases h9 : x.2.2.2.1
                        · simp [hO x hxL h9, bI]
                        · simp [bI])
                    · refine lv_iconst (v := 0) hx hb d_S_faults_108 (by decide) ?_
                      refine lv_goto (tgt := 113) hx hb d_S_faults_109 (by decide) ?_
                      refine lv_iadd hx hb d_S_faults_113 ?_
                      refine lv_topi (fun y31 ey31 => ?_)
                      obtain rfl : y31 = 0 := ey31.trans rfl
                      clear ey31
                      refine lv_istore_n (lv' := [(1, .int 0), (3, .int (bI true)), (4, .ref x.1), (2, .int (nI d)), (0, .ref h)]) hx hb d_S_faults_114 rfl hl (by decide) rfl (fun ls hl => ?_)
                      refine lv_aload hx hb d_S_faults_115 (lv_at hl 2 rfl) ?_
                      refine vp_callSi (va_runVN (As := []) (rest := []) ⟨hx, hb, hml, hown, hg⟩ (c_P_end l D ty _ (pre.length + 1) x (hdO suf none) he) ⟨va_cnB 0 hg (gw_c gw_133) rfl rfl rfl (hN.2.1 (104, y_P_end) (by decide +kernel)) (hg _ gw_27) (by decide +kernel) ⟨Nat.le_of_ble_eq_true rfl, Nat.le_of_ble_eq_true rfl⟩, hg _ gw_132, hg _ gw_4⟩ (pre_roV hP hK hN (ci := 1) rfl he) rfl rfl hl.1 rfl (lv_room (Nat.le_of_ble_eq_true rfl)) d_S_faults_117 ⟨Nat.le_of_ble_eq_true rfl, Nat.le_of_ble_eq_true rfl⟩).run (fun r3 hr3 => ?_)
                      subst hr3
                      refine lv_istore_n (lv' := [(2, .int (nI (x.2.1 + x.2.2.1))), (1, .int 0), (3, .int (bI true)), (4, .ref x.1), (0, .ref h)]) hx hb d_S_faults_120 rfl hl (by decide) rfl (fun ls hl => ?_)
                      refine lv_aload hx hb d_S_faults_121 (lv_at hl 3 rfl) ?_
                      refine va_getN (D := D) (ci := 1) (v := va_rf (hdO suf none)) (C := R_P) (T := F_P) (N := 6) hx hb hg gi_P hown hK hP (pre.length + 1) he rfl 5 (by decide) (va_Nw.use rfl (hN.1 (69, "next", "LSweepHand$Piece;") (by decide))) (fun _ h9 => h9) rfl d_S_faults_123 ?_
                      refine sv_astore (lv' := [(4, va_rf (hdO suf none)), (2, .int (nI (x.2.1 + x.2.2.1))), (1, .int 0), (3, .int (bI true)), (0, .ref h)]) hx hb d_S_faults_126 hl (by decide) rfl (fun ls hl => ?_)
                      refine lv_goto (tgt := 23) hx hb d_S_faults_128 (by decide) ?_
                      exact ih ls (x.2.1 + x.2.2.1) true (lv_sub hl [0, 3, 1, 2, 4] rfl) ⟨pre ++ [x], by rw [hpre, List.append_assoc]; rfl⟩ (by rw [hq1]; exact hq3) (Or.inl rfl)
        · subst hb9
          have hq6 : suf = q ++ s0 := (List.cons.inj hq4).2
          obtain rfl := (List.cons.inj hq4).1
          have hxk : x.2.2.2.2.1 = false := hq5 x List.mem_cons_self
          have hha : ¬ (some x.1 : Option Nat) = hdO s0 none := by
            rcases s0 with _ | ⟨y, s1⟩
            · exact absurd rfl hs0
            · intro h9
              have h8 : x.1 = y.1 := Option.some.inj h9
              rw [hpre, hq6] at hnd
              rw [List.map_append, List.map_cons, List.map_append, List.map_cons] at hnd
              have h7 := (List.nodup_append.mp hnd).2.1
              exact (List.nodup_cons.mp h7).1 (by rw [h8]; simp)
          refine lv_iload_n hx hb d_S_faults_28 rfl (lv_at hl 1 rfl) ?_
          refine lv_if_ne (tgt := 41) hx hb d_S_faults_29 (by decide) (fun c_29 => ?_) (fun c_29 => ?_)
          · exact absurd rfl c_29
          · refine lv_aload hx hb d_S_faults_32 (lv_at hl 0 rfl) ?_
            refine lv_aload_n hx hb d_S_faults_34 rfl (lv_at hl 4 rfl) ?_
            refine va_get (D := D) (ci := 0) (v := va_rf (hdO s0 none)) (C := R_S) (T := F_S) (N := 7) hx hb hg gi_S hown hK hP 0 rfl rfl 2 (by decide) (hg _ gw_83) (fun _ h9 => h9) rfl d_S_faults_35 ?_
            refine lv_acmp_ne (rx := (some x.1)) (ry := (hdO s0 none)) (tgt := 45) hx hb d_S_faults_38 (by decide) (fun c_38 => ?_) (fun c_38 => ?_)
            · refine lv_iconst (v := 0) hx hb d_S_faults_45 (by decide) ?_
              refine lv_topi (fun y32 ey32 => ?_)
              obtain rfl : y32 = bI false := ey32.trans rfl
              clear ey32
              refine lv_istore_n (lv' := [(3, .int (bI false)), (4, .ref x.1), (2, .int (nI d)), (1, .int 0), (0, .ref h)]) hx hb d_S_faults_46 rfl hl (by decide) rfl (fun ls hl => ?_)
              refine lv_iload_n hx hb d_S_faults_47 rfl (lv_at hl 3 rfl) ?_
              refine lv_aload hx hb d_S_faults_48 (lv_at hl 1 rfl) ?_
              refine va_getN (D := D) (ci := 1) (v := .int (nI x.2.1)) (C := R_P) (T := F_P) (N := 6) hx hb hg gi_P hown hK hP (pre.length + 1) he rfl 0 (by decide) (va_Nw.use rfl (hN.1 (47, "begin", "I") (by decide))) (fun _ h9 => h9) rfl d_S_faults_50 ?_
              refine lv_iload_n hx hb d_S_faults_53 rfl (lv_at hl 2 rfl) ?_
              refine lv_icmp_ne (tgt := 61) hx hb d_S_faults_54 (by decide) (fun c_54 => ?_) (fun c_54 => ?_)
              · exact absurd (by rw [hq1]) c_54
              · refine lv_iconst (v := 0) hx hb d_S_faults_57 (by decide) ?_
                refine lv_goto (tgt := 62) hx hb d_S_faults_58 (by decide) ?_
                refine lv_iadd hx hb d_S_faults_62 ?_
                refine lv_topi (fun y33 ey33 => ?_)
                obtain rfl : y33 = 0 := ey33.trans rfl
                clear ey33
                refine lv_istore_n (lv' := [(1, .int 0), (3, .int (bI false)), (4, .ref x.1), (2, .int (nI d)), (0, .ref h)]) hx hb d_S_faults_63 rfl hl (by decide) rfl (fun ls hl => ?_)
                refine lv_iload_n hx hb d_S_faults_64 rfl (lv_at hl 0 rfl) ?_
                refine lv_aload hx hb d_S_faults_65 (lv_at hl 2 rfl) ?_
                refine va_getN (D := D) (ci := 1) (v := .int (nI x.2.2.1)) (C := R_P) (T := F_P) (N := 6) hx hb hg gi_P hown hK hP (pre.length + 1) he rfl 1 (by decide) (va_Nw.use rfl (hN.1 (60, "size", "I") (by decide))) (fun _ h9 => h9) rfl d_S_faults_67 ?_
                refine lv_iconst (v := 1) hx hb d_S_faults_70 (by decide) ?_
                refine lv_icmp_lt (tgt := 78) hx hb d_S_faults_71 (by decide) (fun c_71 => ?_) (fun c_71 => ?_)
                · exact absurd c_71 (fun h9 => by have h8 := (nI_ltI (b := 1) (by omega) (by decide)).mp h9; omega)
                · refine lv_iconst (v := 0) hx hb d_S_faults_74 (by decide) ?_
                  refine lv_goto (tgt := 79) hx hb d_S_faults_75 (by decide) ?_
                  refine lv_iadd hx hb d_S_faults_79 ?_
                  refine lv_topi (fun y34 ey34 => ?_)
                  obtain rfl : y34 = 0 := ey34.trans rfl
                  clear ey34
                  refine lv_istore_n (lv' := [(1, .int 0), (3, .int (bI false)), (4, .ref x.1), (2, .int (nI d)), (0, .ref h)]) hx hb d_S_faults_80 rfl hl (by decide) rfl (fun ls hl => ?_)
                  refine lv_iload_n hx hb d_S_faults_81 rfl (lv_at hl 0 rfl) ?_
                  refine lv_aload hx hb d_S_faults_82 (lv_at hl 2 rfl) ?_
                  refine lv_iload_n hx hb d_S_faults_84 rfl (lv_at hl 1 rfl) ?_
                  refine vp_callSi (va_runS (As := [.ref x.1, .int (bI false)]) (rest := [.int 0]) ⟨hx, hb, hml, hown, hg⟩ (c_S_isMarkRight l D ty _ (pre.length + 1) x (hdO suf none) he false) (va_cwS 2 hg (gw_S gw_123 gw_124 gw_26 gw_125) rfl rfl rfl (by decide +kernel) ⟨Nat.le_of_ble_eq_true rfl, Nat.le_of_ble_eq_true rfl⟩) (pre_roS hP hK hN) rfl rfl hl.1 rfl (lv_room (Nat.le_of_ble_eq_true rfl)) d_S_faults_85 ⟨Nat.le_of_ble_eq_true rfl, Nat.le_of_ble_eq_true rfl⟩).run (fun r1 hr1 => ?_)
                  refine lv_if_eq (tgt := 95) hx hb d_S_faults_88 (by decide) (fun c_88 => ?_) (fun c_88 => ?_)
                  · exact absurd c_88 (by rw [hr1, hxk]; simp [bI])
                  · refine lv_iconst (v := 0) hx hb d_S_faults_91 (by decide) ?_
                    refine lv_goto (tgt := 96) hx hb d_S_faults_92 (by decide) ?_
                    refine lv_iadd hx hb d_S_faults_96 ?_
                    refine lv_topi (fun y35 ey35 => ?_)
                    obtain rfl : y35 = 0 := ey35.trans rfl
                    clear ey35
                    refine lv_istore_n (lv' := [(1, .int 0), (3, .int (bI false)), (4, .ref x.1), (2, .int (nI d)), (0, .ref h)]) hx hb d_S_faults_97 rfl hl (by decide) rfl (fun ls hl => ?_)
                    refine lv_iload_n hx hb d_S_faults_98 rfl (lv_at hl 0 rfl) ?_
                    refine lv_aload_n hx hb d_S_faults_99 rfl (lv_at hl 4 rfl) ?_
                    refine lv_aload hx hb d_S_faults_100 (lv_at hl 2 rfl) ?_
                    refine vp_callSi (va_runV (As := [.ref x.1]) (rest := [.int 0]) ⟨hx, hb, hml, hown, hg⟩ (c_S_isTimeRight l D ty h cn (hdO s0 none) f v w z L (pre.length + 1) x (hdO suf none) he (by omega) (by omega)) (cwV 1 hg (gw_V gw_126 gw_128 gw_3 gw_26 gw_129) rfl rfl rfl (by decide +kernel) ⟨Nat.le_of_ble_eq_true rfl, Nat.le_of_ble_eq_true rfl⟩) (pre_roV hP hK hN (ci := 0) (k := 0) rfl rfl) rfl rfl hl.1 rfl (lv_room (Nat.le_of_ble_eq_true rfl)) d_S_faults_102 ⟨Nat.le_of_ble_eq_true rfl, Nat.le_of_ble_eq_true rfl⟩).run (fun r2 hr2 => ?_)
                    refine lv_if_eq (tgt := 112) hx hb d_S_faults_105 (by decide) (fun c_105 => ?_) (fun c_105 => ?_)
                    · exact absurd c_105 (by
                        rw [hr2]
                        cases h9 : x.2.2.2.1
                        · simp [hO x hxL h9, bI]
                        · simp [bI])
                    · refine lv_iconst (v := 0) hx hb d_S_faults_108 (by decide) ?_
                      refine lv_goto (tgt := 113) hx hb d_S_faults_109 (by decide) ?_
                      refine lv_iadd hx hb d_S_faults_113 ?_
                      refine lv_topi (fun y36 ey36 => ?_)
                      obtain rfl : y36 = 0 := ey36.trans rfl
                      clear ey36
                      refine lv_istore_n (lv' := [(1, .int 0), (3, .int (bI false)), (4, .ref x.1), (2, .int (nI d)), (0, .ref h)]) hx hb d_S_faults_114 rfl hl (by decide) rfl (fun ls hl => ?_)
                      refine lv_aload hx hb d_S_faults_115 (lv_at hl 2 rfl) ?_
                      refine vp_callSi (va_runVN (As := []) (rest := []) ⟨hx, hb, hml, hown, hg⟩ (c_P_end l D ty _ (pre.length + 1) x (hdO suf none) he) ⟨va_cnB 0 hg (gw_c gw_133) rfl rfl rfl (hN.2.1 (104, y_P_end) (by decide +kernel)) (hg _ gw_27) (by decide +kernel) ⟨Nat.le_of_ble_eq_true rfl, Nat.le_of_ble_eq_true rfl⟩, hg _ gw_132, hg _ gw_4⟩ (pre_roV hP hK hN (ci := 1) rfl he) rfl rfl hl.1 rfl (lv_room (Nat.le_of_ble_eq_true rfl)) d_S_faults_117 ⟨Nat.le_of_ble_eq_true rfl, Nat.le_of_ble_eq_true rfl⟩).run (fun r3 hr3 => ?_)
                      subst hr3
                      refine lv_istore_n (lv' := [(2, .int (nI (x.2.1 + x.2.2.1))), (1, .int 0), (3, .int (bI false)), (4, .ref x.1), (0, .ref h)]) hx hb d_S_faults_120 rfl hl (by decide) rfl (fun ls hl => ?_)
                      refine lv_aload hx hb d_S_faults_121 (lv_at hl 3 rfl) ?_
                      refine va_getN (D := D) (ci := 1) (v := va_rf (hdO suf none)) (C := R_P) (T := F_P) (N := 6) hx hb hg gi_P hown hK hP (pre.length + 1) he rfl 5 (by decide) (va_Nw.use rfl (hN.1 (69, "next", "LSweepHand$Piece;") (by decide))) (fun _ h9 => h9) rfl d_S_faults_123 ?_
                      refine sv_astore (lv' := [(4, va_rf (hdO suf none)), (2, .int (nI (x.2.1 + x.2.2.1))), (1, .int 0), (3, .int (bI false)), (0, .ref h)]) hx hb d_S_faults_126 hl (by decide) rfl (fun ls hl => ?_)
                      refine lv_goto (tgt := 23) hx hb d_S_faults_128 (by decide) ?_
                      exact ih ls (x.2.1 + x.2.2.1) false (lv_sub hl [0, 3, 1, 2, 4] rfl) ⟨pre ++ [x], by rw [hpre, List.append_assoc]; rfl⟩ (by rw [hq1]; exact hq3) (Or.inr ⟨rfl, q, hq6, hs0, fun y9 h9 => hq5 y9 (List.mem_cons_of_mem _ h9)⟩)
            · exact absurd c_38 hha
