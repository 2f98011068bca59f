set_option maxHeartbeats 4000000 in
set_option maxRecDepth 100000 in
theorem c_S_shareOf (l : Launch) (D : va_G) (ty : tyL) (ws : va_W) (k : Nat) (x : AP) (nx : Option Nat) (he : ws[k]? = some (pcell x nx)) (what : Nat) (hn : x.2.2.1 < 2 ^ 31) (hw : what = 0 ∨ what = 1 ∨ what = 2 ∨ what = 3 ∨ what = 4 ∨ what = 8) : Met l y_S_shareOf (Cond.code y_S_shareOf b_S_shareOf 2 (some .int) :: GW) ({ frames := 1, cells := 0, slots := 0, locals := 20 }) (va_Pc [.ref x.1, .int (nI what)] (at0 D ty ws)) (vp_Si (fun r => r = nI (shr what x))) 0 0 (fun _ => False) := by
  refine Met.ofW (cc := b_S_shareOf) (maxL := 2) (ret := (some .int)) (by decide) rfl ?_
  intro p e s m args below meth c s₁ B hml hv
  obtain ⟨rfl, hP, hK, hN⟩ := hv
  have hx := B.exec
  have hb := B.bytes
  have hr := B.returns
  have hg : ∀ w ∈ GW, w.before _ s = true := fun w h => atoms_spec (ws := Cond.code y_S_shareOf b_S_shareOf 2 (some .int) :: GW) B.pre w (List.mem_cons_of_mem _ h)
  have hown : s.vm.findClass R_S = some m.cls := findClass_of_methodNamed B.named
  have hlocks := B.notSynchronized
  have hl := lv_entry ([.ref x.1, .int (nI what)]) (n := 2) (Nat.le_of_ble_eq_true rfl)
  rw [lg_entry_eq]
  generalize (lg_sl ([.ref x.1, .int (nI what)]) ++ List.replicate (2 - (lg_sl ([.ref x.1, .int (nI what)])).length) Slot.unset).toArray = ls at hl ⊢
  replace hl : lv_has ls 2 [(0, .ref x.1), (1, .int (nI what))] := hl
  refine lv_iload_n hx hb d_S_shareOf_0 rfl (lv_at hl 1 rfl) ?_
  rcases hw with rfl | rfl | rfl | rfl | rfl | rfl
  · refine lv_tableIn (off := 51) (tgt := 52) hx hb d_S_shareOf_1 (by decide +kernel) (by decide +kernel) (by decide +kernel) (by decide) ?_
    refine lv_aload_n hx hb d_S_shareOf_52 rfl (lv_at hl 0 rfl) ?_
    refine va_getN (D := D) (ci := 1) (v := .int (bI x.2.2.2.1)) (C := R_P) (T := F_P) (N := 6) hx hb hg gi_P hown hK hP k he rfl 2 (by decide) (va_Nw.use rfl (hN.1 (37, "used", "Z") (by decide))) (fun _ h9 => h9) rfl d_S_shareOf_53 ?_
    refine lv_if_eq (tgt := 63) hx hb d_S_shareOf_56 (by decide) (fun c_56 => ?_) (fun c_56 => ?_)
    · refine lv_aload_n hx hb d_S_shareOf_63 rfl (lv_at hl 0 rfl) ?_
      refine va_getN (D := D) (ci := 1) (v := .int (nI x.2.2.1)) (C := R_P) (T := F_P) (N := 6) hx hb hg gi_P hown hK hP k he rfl 1 (by decide) (va_Nw.use rfl (hN.1 (60, "size", "I") (by decide))) (fun _ h9 => h9) rfl d_S_shareOf_64 ?_
      exact W.iret (v := (nI x.2.2.1)) hx hb hr (fun t ht hW => ⟨_, rfl, (by simp [shr, show x.2.2.2.1 = false from bI_0.mp c_56]), ht⟩) (fun q h => nomatch h) d_S_shareOf_67
    · refine lv_iconst (v := 0) hx hb d_S_shareOf_59 (by decide) ?_
      refine lv_goto (tgt := 67) hx hb d_S_shareOf_60 (by decide) ?_
      exact W.iret (v := 0) hx hb hr (fun t ht hW => ⟨_, rfl, (by simp [shr, show x.2.2.2.1 = true from bI_n0.mp c_56]; rfl), ht⟩) (fun q h => nomatch h) d_S_shareOf_67
  · refine lv_tableIn (off := 67) (tgt := 68) hx hb d_S_shareOf_1 (by decide +kernel) (by decide +kernel) (by decide +kernel) (by decide) ?_
    refine lv_aload_n hx hb d_S_shareOf_68 rfl (lv_at hl 0 rfl) ?_
    refine vp_callSi (va_runVN (As := []) (rest := []) ⟨hx, hb, hml, hown, hg⟩ (c_P_isCrumb l D ty _ k x nx he hn) ⟨va_cnB 0 hg (gw_c gw_340) rfl rfl rfl (hN.2.1 (145, y_P_isCrumb) (by decide +kernel)) (hg _ gw_27) (by decide +kernel) ⟨Nat.le_of_ble_eq_true rfl, Nat.le_of_ble_eq_true rfl⟩, hg _ gw_339, hg _ gw_15⟩ (pre_roV hP hK hN (ci := 1) rfl he) rfl rfl hl.1 rfl (lv_room (Nat.le_of_ble_eq_true rfl)) d_S_shareOf_69 ⟨Nat.le_of_ble_eq_true rfl, Nat.le_of_ble_eq_true rfl⟩).run (fun r1 hr1 => ?_)
    refine lv_if_eq (tgt := 82) hx hb d_S_shareOf_72 (by decide) (fun c_72 => ?_) (fun c_72 => ?_)
    · refine lv_iconst (v := 0) hx hb d_S_shareOf_82 (by decide) ?_
      exact W.iret (v := 0) hx hb hr (fun t ht hW => ⟨_, rfl, (by simp [shr, show isCr x = false from bI_0.mp (by rw [← hr1]; exact c_72)]; rfl), ht⟩) (fun q h => nomatch h) d_S_shareOf_83
    · refine lv_aload_n hx hb d_S_shareOf_75 rfl (lv_at hl 0 rfl) ?_
      refine va_getN (D := D) (ci := 1) (v := .int (nI x.2.2.1)) (C := R_P) (T := F_P) (N := 6) hx hb hg gi_P hown hK hP k he rfl 1 (by decide) (va_Nw.use rfl (hN.1 (60, "size", "I") (by decide))) (fun _ h9 => h9) rfl d_S_shareOf_76 ?_
      refine lv_goto (tgt := 83) hx hb d_S_shareOf_79 (by decide) ?_
      exact W.iret (v := (nI x.2.2.1)) hx hb hr (fun t ht hW => ⟨_, rfl, (by simp [shr, show isCr x = true from bI_n0.mp (by rw [← hr1]; exact c_72)]), ht⟩) (fun q h => nomatch h) d_S_shareOf_83
  · refine lv_tableIn (off := 83) (tgt := 84) hx hb d_S_shareOf_1 (by decide +kernel) (by decide +kernel) (by decide +kernel) (by decide) ?_
    refine lv_aload_n hx hb d_S_shareOf_84 rfl (lv_at hl 0 rfl) ?_
    refine va_getN (D := D) (ci := 1) (v := .int (bI x.2.2.2.1)) (C := R_P) (T := F_P) (N := 6) hx hb hg gi_P hown hK hP k he rfl 2 (by decide) (va_Nw.use rfl (hN.1 (37, "used", "Z") (by decide))) (fun _ h9 => h9) rfl d_S_shareOf_85 ?_
    refine lv_if_eq (tgt := 95) hx hb d_S_shareOf_88 (by decide) (fun c_88 => ?_) (fun c_88 => ?_)
    · refine lv_iconst (v := 0) hx hb d_S_shareOf_95 (by decide) ?_
      exact W.iret (v := 0) hx hb hr (fun t ht hW => ⟨_, rfl, (by simp [shr, show x.2.2.2.1 = false from bI_0.mp c_88]; rfl), ht⟩) (fun q h => nomatch h) d_S_shareOf_96
    · refine lv_iconst (v := 1) hx hb d_S_shareOf_91 (by decide) ?_
      refine lv_goto (tgt := 96) hx hb d_S_shareOf_92 (by decide) ?_
      exact W.iret (v := 1) hx hb hr (fun t ht hW => ⟨_, rfl, (by simp [shr, show x.2.2.2.1 = true from bI_n0.mp c_88]; rfl), ht⟩) (fun q h => nomatch h) d_S_shareOf_96
  · refine lv_tableIn (off := 96) (tgt := 97) hx hb d_S_shareOf_1 (by decide +kernel) (by decide +kernel) (by decide +kernel) (by decide) ?_
    refine lv_aload_n hx hb d_S_shareOf_97 rfl (lv_at hl 0 rfl) ?_
    refine vp_callSi (va_runVN (As := []) (rest := []) ⟨hx, hb, hml, hown, hg⟩ (c_P_isFreeForTaking l D ty _ k x nx he hn) ⟨va_cnB 0 hg (gw_c gw_225) rfl rfl rfl (hN.2.1 (127, y_P_isFreeForTaking) (by decide +kernel)) (hg _ gw_27) (by decide +kernel) ⟨Nat.le_of_ble_eq_true rfl, Nat.le_of_ble_eq_true rfl⟩, hg _ gw_224, hg _ gw_7⟩ (pre_roV hP hK hN (ci := 1) rfl he) rfl rfl hl.1 rfl (lv_room (Nat.le_of_ble_eq_true rfl)) d_S_shareOf_98 ⟨Nat.le_of_ble_eq_true rfl, Nat.le_of_ble_eq_true rfl⟩).run (fun r1 hr1 => ?_)
    refine lv_if_eq (tgt := 108) hx hb d_S_shareOf_101 (by decide) (fun c_101 => ?_) (fun c_101 => ?_)
    · refine lv_iconst (v := 0) hx hb d_S_shareOf_108 (by decide) ?_
      exact W.iret (v := 0) hx hb hr (fun t ht hW => ⟨_, rfl, (by simp [shr, show isFT x = false from bI_0.mp (by rw [← hr1]; exact c_101)]; rfl), ht⟩) (fun q h => nomatch h) d_S_shareOf_109
    · refine lv_iconst (v := 1) hx hb d_S_shareOf_104 (by decide) ?_
      refine lv_goto (tgt := 109) hx hb d_S_shareOf_105 (by decide) ?_
      exact W.iret (v := 1) hx hb hr (fun t ht hW => ⟨_, rfl, (by simp [shr, show isFT x = true from bI_n0.mp (by rw [← hr1]; exact c_101)]; rfl), ht⟩) (fun q h => nomatch h) d_S_shareOf_109
  · refine lv_tableIn (off := 109) (tgt := 110) hx hb d_S_shareOf_1 (by decide +kernel) (by decide +kernel) (by decide +kernel) (by decide) ?_
    refine lv_aload_n hx hb d_S_shareOf_110 rfl (lv_at hl 0 rfl) ?_
    refine vp_callSi (va_runVN (As := []) (rest := []) ⟨hx, hb, hml, hown, hg⟩ (c_P_isCrumb l D ty _ k x nx he hn) ⟨va_cnB 0 hg (gw_c gw_340) rfl rfl rfl (hN.2.1 (145, y_P_isCrumb) (by decide +kernel)) (hg _ gw_27) (by decide +kernel) ⟨Nat.le_of_ble_eq_true rfl, Nat.le_of_ble_eq_true rfl⟩, hg _ gw_339, hg _ gw_15⟩ (pre_roV hP hK hN (ci := 1) rfl he) rfl rfl hl.1 rfl (lv_room (Nat.le_of_ble_eq_true rfl)) d_S_shareOf_111 ⟨Nat.le_of_ble_eq_true rfl, Nat.le_of_ble_eq_true rfl⟩).run (fun r1 hr1 => ?_)
    refine lv_if_eq (tgt := 121) hx hb d_S_shareOf_114 (by decide) (fun c_114 => ?_) (fun c_114 => ?_)
    · refine lv_iconst (v := 0) hx hb d_S_shareOf_121 (by decide) ?_
      exact W.iret (v := 0) hx hb hr (fun t ht hW => ⟨_, rfl, (by simp [shr, show isCr x = false from bI_0.mp (by rw [← hr1]; exact c_114)]; rfl), ht⟩) (fun q h => nomatch h) d_S_shareOf_122
    · refine lv_iconst (v := 1) hx hb d_S_shareOf_117 (by decide) ?_
      refine lv_goto (tgt := 122) hx hb d_S_shareOf_118 (by decide) ?_
      exact W.iret (v := 1) hx hb hr (fun t ht hW => ⟨_, rfl, (by simp [shr, show isCr x = true from bI_n0.mp (by rw [← hr1]; exact c_114)]; rfl), ht⟩) (fun q h => nomatch h) d_S_shareOf_122
  · refine lv_tableIn (off := 122) (tgt := 123) hx hb d_S_shareOf_1 (by decide +kernel) (by decide +kernel) (by decide +kernel) (by decide) ?_
    refine lv_aload_n hx hb d_S_shareOf_123 rfl (lv_at hl 0 rfl) ?_
    refine va_getN (D := D) (ci := 1) (v := .int (bI x.2.2.2.2.1)) (C := R_P) (T := F_P) (N := 6) hx hb hg gi_P hown hK hP k he rfl 3 (by decide) (va_Nw.use rfl (hN.1 (50, "marked", "Z") (by decide))) (fun _ h9 => h9) rfl d_S_shareOf_124 ?_
    refine lv_if_eq (tgt := 134) hx hb d_S_shareOf_127 (by decide) (fun c_127 => ?_) (fun c_127 => ?_)
    · refine lv_iconst (v := 0) hx hb d_S_shareOf_134 (by decide) ?_
      exact W.iret (v := 0) hx hb hr (fun t ht hW => ⟨_, rfl, (by simp [shr, show x.2.2.2.2.1 = false from bI_0.mp c_127]; rfl), ht⟩) (fun q h => nomatch h) d_S_shareOf_135
    · refine lv_iconst (v := 1) hx hb d_S_shareOf_130 (by decide) ?_
      refine lv_goto (tgt := 135) hx hb d_S_shareOf_131 (by decide) ?_
      exact W.iret (v := 1) hx hb hr (fun t ht hW => ⟨_, rfl, (by simp [shr, show x.2.2.2.2.1 = true from bI_n0.mp c_127]; rfl), ht⟩) (fun q h => nomatch h) d_S_shareOf_135
set_option maxHeartbeats 4000000 in
set_option maxRecDepth 100000 in
theorem c_S_sumOverPieces (l : Launch) (D : va_G) (ty : tyL) (h cn : Nat) (ha : Option Nat) (f : Nat) (v w z : Int32) (L : List AP) (what : Nat) (hBd : Bd L) (hw : what = 0 ∨ what = 1 ∨ what = 2 ∨ what = 3 ∨ what = 4 ∨ what = 8) : Met l y_S_sumOverPieces (Cond.code y_S_sumOverPieces b_S_sumOverPieces 4 (some .int) :: GW) ({ frames := 2, cells := 0, slots := 0, locals := 41 }) (va_Pc [.ref h, .int (nI what)] (at0 D ty (scell h cn (hdO L none) ha f v w z :: chG L none))) (vp_Si (fun r => r = nI (shrS what L))) 0 0 (fun _ => False) := by
  refine Met.ofW (cc := b_S_sumOverPieces) (maxL := 4) (ret := (some .int)) (by decide) rfl ?_
  intro p e s m args below meth c s₁ B hml hv
  obtain ⟨rfl, hP, hK, hN⟩ := hv
  have hx := B.exec
  have hb := B.bytes
  have hr := B.returns
  have hg : ∀ w ∈ GW, w.before _ s = true := fun w h => atoms_spec (ws := Cond.code y_S_sumOverPieces b_S_sumOverPieces 4 (some .int) :: GW) B.pre w (List.mem_cons_of_mem _ h)
  have hown : s.vm.findClass R_S = some m.cls := findClass_of_methodNamed B.named
  have hlocks := B.notSynchronized
  have hl := lv_entry ([.ref h, .int (nI what)]) (n := 4) (Nat.le_of_ble_eq_true rfl)
  rw [lg_entry_eq]
  generalize (lg_sl ([.ref h, .int (nI what)]) ++ List.replicate (4 - (lg_sl ([.ref h, .int (nI what)])).length) Slot.unset).toArray = ls at hl ⊢
  replace hl : lv_has ls 4 [(0, .ref h), (1, .int (nI what))] := hl
  refine lv_iconst (v := 0) hx hb d_S_sumOverPieces_0 (by decide) ?_
  refine lv_istore_n (lv' := [(2, .int 0), (0, .ref h), (1, .int (nI what))]) hx hb d_S_sumOverPieces_1 rfl hl (by decide) rfl (fun ls hl => ?_)
  refine lv_aload_n hx hb d_S_sumOverPieces_2 rfl (lv_at hl 1 rfl) ?_
  refine va_get (D := D) (ci := 0) (v := va_rf (hdO L none)) (C := R_S) (T := F_S) (N := 7) hx hb hg gi_S hown hK hP 0 rfl rfl 1 (by decide) (hg _ gw_82) (fun _ h9 => h9) rfl d_S_sumOverPieces_3 ?_
  refine sv_astore_n (lv' := [(3, va_rf (hdO L none)), (2, .int 0), (0, .ref h), (1, .int (nI what))]) hx hb d_S_sumOverPieces_6 rfl hl (by decide) rfl (fun ls hl => ?_)
  obtain ⟨g, hg⟩ : ∃ q : Nat, q = 0 := ⟨_, rfl⟩
  obtain ⟨suf, hs⟩ : ∃ suf, suf = L := ⟨_, rfl⟩
  replace hl := lv_sub hl [0, 1, 2, 3] rfl
  replace hl : lv_has ls 4 [(3, va_rf (hdO L none)), (2, .int 0), (0, .ref h), (1, .int (nI what))] := hl
  replace hl : lv_has ls 4 [(3, va_rf (hdO suf none)), (2, .int (nI g)), (0, .ref h), (1, .int (nI what))] := by rw [hs, hg, nI_0]; exact hl
  have hpre : ∃ pre, L = pre ++ suf := ⟨[], hs.symm⟩
  have hq : shrS what L = g + shrS what suf := by rw [hs, hg, Nat.zero_add]
  clear hs hg
  revert hq
  revert hpre
  revert hl
  revert g
  revert ls
  induction suf with
  | nil =>
    intro ls g hl hpre hq
    replace hl : lv_has ls 4 [(3, .null), (2, .int (nI g)), (0, .ref h), (1, .int (nI what))] := hl
    refine lv_aload_nN hx hb d_S_sumOverPieces_7 rfl (lv_at hl 0 rfl) ?_
    refine lv_ifnullN (tgt := 27) hx hb d_S_sumOverPieces_8 (by decide) ?_
    refine lv_iload_n hx hb d_S_sumOverPieces_27 rfl (lv_at hl 1 rfl) ?_
    exact W.iret (v := (nI g)) hx hb hr (fun t ht hW => ⟨_, rfl, (by rw [hq]; rfl), ht⟩) (fun q h => nomatch h) d_S_sumOverPieces_28
  | cons x suf ih =>
    intro ls g hl hpre hq
    replace hl : lv_has ls 4 [(3, .ref x.1), (2, .int (nI g)), (0, .ref h), (1, .int (nI what))] := hl
    obtain ⟨pre, hpre⟩ := hpre
    have he := chG_at (scell h cn (hdO L none) ha f v w z) pre x suf none
    rw [← hpre] at he
    have hxL : x ∈ L := by rw [hpre]; simp
    obtain ⟨hb1, hb2, hb3⟩ := hBd x hxL
    refine lv_aload_n hx hb d_S_sumOverPieces_7 rfl (lv_at hl 0 rfl) ?_
    refine lv_ifnull hx hb d_S_sumOverPieces_8 ?_
    refine lv_iload_n hx hb d_S_sumOverPieces_11 rfl (lv_at hl 1 rfl) ?_
    refine lv_aload_n hx hb d_S_sumOverPieces_12 rfl (lv_at hl 0 rfl) ?_
    refine lv_iload_n hx hb d_S_sumOverPieces_13 rfl (lv_at hl 3 rfl) ?_
    refine vp_callSi (va_runS (As := [.ref x.1, .int (nI what)]) (rest := [.int (nI g)]) ⟨hx, hb, hml, hown, hg⟩ (c_S_shareOf l D ty _ (pre.length + 1) x (hdO suf none) he what (by omega) hw) (va_cwS 2 hg (gw_S gw_334 gw_335 gw_26 gw_336) rfl rfl rfl (by decide +kernel) ⟨Nat.le_of_ble_eq_true rfl, Nat.le_of_ble_eq_true rfl⟩) (pre_roS hP hK hN) rfl rfl hl.1 rfl (lv_room (Nat.le_of_ble_eq_true rfl)) d_S_sumOverPieces_14 ⟨Nat.le_of_ble_eq_true rfl, Nat.le_of_ble_eq_true rfl⟩).run (fun r1 hr1 => ?_)
    refine lv_iadd hx hb d_S_sumOverPieces_17 ?_
    refine lv_topi (fun y1 ey1 => ?_)
    obtain rfl : y1 = nI (g + shr what x) := ey1.trans (by rw [hr1]; exact nI_add _ _)
    clear ey1
    refine lv_istore_n (lv' := [(2, .int (nI (g + shr what x))), (3, .ref x.1), (0, .ref h), (1, .int (nI what))]) hx hb d_S_sumOverPieces_18 rfl hl (by decide) rfl (fun ls hl => ?_)
    refine lv_aload_n hx hb d_S_sumOverPieces_19 rfl (lv_at hl 1 rfl) ?_
    refine va_getN (D := D) (ci := 1) (v := va_rf (hdO suf none)) (C := R_P) (T := F_P) (N := 6) hx hb hg gi_P hown hK hP (pre.length + 1) he rfl 5 (by decide) (va_Nw.use rfl (hN.1 (69, "next", "LSweepHand$Piece;") (by decide))) (fun _ h9 => h9) rfl d_S_sumOverPieces_20 ?_
    refine sv_astore_n (lv' := [(3, va_rf (hdO suf none)), (2, .int (nI (g + shr what x))), (0, .ref h), (1, .int (nI what))]) hx hb d_S_sumOverPieces_23 rfl hl (by decide) rfl (fun ls hl => ?_)
    refine lv_goto (tgt := 7) hx hb d_S_sumOverPieces_24 (by decide) ?_
    exact ih ls (g + shr what x) (lv_sub hl [0, 1, 2, 3] rfl) ⟨pre ++ [x], by rw [hpre, List.append_assoc]; rfl⟩ (by rw [hq, shrS]; omega)
set_option maxHeartbeats 4000000 in
set_option maxRecDepth 100000 in
theorem c_S_greatestFree (l : Launch) (D : va_G) (ty : tyL) (h cn : Nat) (ha : Option Nat) (f : Nat) (v w z : Int32) (L : List AP) (hBd : Bd L) : Met l y_S_greatestFree (Cond.code y_S_greatestFree b_S_greatestFree 3 (some .int) :: GW) ({ frames := 0, cells := 0, slots := 0, locals := 0 }) (va_Pc [.ref h] (at0 D ty (scell h cn (hdO L none) ha f v w z :: chG L none))) (vp_Si (fun r => r = nI (grF L 0))) 0 0 (fun _ => False) := by
  refine Met.ofW (cc := b_S_greatestFree) (maxL := 3) (ret := (some .int)) (by decide) rfl ?_
  intro p e s m args below meth c s₁ B hml hv
  obtain ⟨rfl, hP, hK, hN⟩ := hv
  have hx := B.exec
  have hb := B.bytes
  have hr := B.returns
  have hg : ∀ w ∈ GW, w.before _ s = true := fun w h => atoms_spec (ws := Cond.code y_S_greatestFree b_S_greatestFree 3 (some .int) :: GW) B.pre w (List.mem_cons_of_mem _ h)
  have hown : s.vm.findClass R_S = some m.cls := findClass_of_methodNamed B.named
  have hlocks := B.notSynchronized
  have hl := lv_entry ([.ref h]) (n := 3) (Nat.le_of_ble_eq_true rfl)
  rw [lg_entry_eq]
  generalize (lg_sl ([.ref h]) ++ List.replicate (3 - (lg_sl ([.ref h])).length) Slot.unset).toArray = ls at hl ⊢
  replace hl : lv_has ls 3 [(0, .ref h)] := hl
  refine lv_iconst (v := 0) hx hb d_S_greatestFree_0 (by decide) ?_
  refine lv_istore_n (lv' := [(1, .int 0), (0, .ref h)]) hx hb d_S_greatestFree_1 rfl hl (by decide) rfl (fun ls hl => ?_)
  refine lv_aload_n hx hb d_S_greatestFree_2 rfl (lv_at hl 1 rfl) ?_
  refine va_get (D := D) (ci := 0) (v := va_rf (hdO L none)) (C := R_S) (T := F_S) (N := 7) hx hb hg gi_S hown hK hP 0 rfl rfl 1 (by decide) (hg _ gw_82) (fun _ h9 => h9) rfl d_S_greatestFree_3 ?_
  refine sv_astore_n (lv' := [(2, va_rf (hdO L none)), (1, .int 0), (0, .ref h)]) hx hb d_S_greatestFree_6 rfl hl (by decide) rfl (fun ls hl => ?_)
  obtain ⟨g, hg⟩ : ∃ q : Nat, q = 0 := ⟨_, rfl⟩
  obtain ⟨suf, hs⟩ : ∃ suf, suf = L := ⟨_, rfl⟩
  replace hl := lv_sub hl [0, 1, 2] rfl
  replace hl : lv_has ls 3 [(2, va_rf (hdO L none)), (1, .int 0), (0, .ref h)] := hl
  replace hl : lv_has ls 3 [(2, va_rf (hdO suf none)), (1, .int (nI g)), (0, .ref h)] := by rw [hs, hg, nI_0]; exact hl
  have hpre : ∃ pre, L = pre ++ suf := ⟨[], hs.symm⟩
  have hq : grF L 0 = grF suf g := by rw [hs, hg]
  have hg2 : g < 2 ^ 30 := by rw [hg]; decide
  clear hs hg
  revert hg2
  revert hq
  revert hpre
  revert hl
  revert g
  revert ls
  induction suf with
  | nil =>
    intro ls g hl hpre hq hg2
    replace hl : lv_has ls 3 [(2, .null), (1, .int (nI g)), (0, .ref h)] := hl
    refine lv_aload_nN hx hb d_S_greatestFree_7 rfl (lv_at hl 0 rfl) ?_
    refine lv_ifnullN (tgt := 39) hx hb d_S_greatestFree_8 (by decide) ?_
    refine lv_iload_n hx hb d_S_greatestFree_39 rfl (lv_at hl 1 rfl) ?_
    exact W.iret (v := (nI g)) hx hb hr (fun t ht hW => ⟨_, rfl, (by rw [hq]; rfl), ht⟩) (fun q h => nomatch h) d_S_greatestFree_40
  | cons x suf ih =>
    intro ls g hl hpre hq hg2
    replace hl : lv_has ls 3 [(2, .ref x.1), (1, .int (nI g)), (0, .ref h)] := hl
    obtain ⟨pre, hpre⟩ := hpre
    have he := chG_at (scell h cn (hdO L none) ha f v w z) pre x suf none
    rw [← hpre] at he
    have hxL : x ∈ L := by rw [hpre]; simp
    obtain ⟨hb1, hb2, hb3⟩ := hBd x hxL
    refine lv_aload_n hx hb d_S_greatestFree_7 rfl (lv_at hl 0 rfl) ?_
    refine lv_ifnull hx hb d_S_greatestFree_8 ?_
    refine lv_aload_n hx hb d_S_greatestFree_11 rfl (lv_at hl 0 rfl) ?_
    refine va_getN (D := D) (ci := 1) (v := .int (bI x.2.2.2.1)) (C := R_P) (T := F_P) (N := 6) hx hb hg gi_P hown hK hP (pre.length + 1) he rfl 2 (by decide) (va_Nw.use rfl (hN.1 (37, "used", "Z") (by decide))) (fun _ h9 => h9) rfl d_S_greatestFree_12 ?_
    refine lv_if_ne (tgt := 31) hx hb d_S_greatestFree_15 (by decide) (fun c_15 => ?_) (fun c_15 => ?_)
    · refine lv_aload_n hx hb d_S_greatestFree_31 rfl (lv_at hl 0 rfl) ?_
      refine va_getN (D := D) (ci := 1) (v := va_rf (hdO suf none)) (C := R_P) (T := F_P) (N := 6) hx hb hg gi_P hown hK hP (pre.length + 1) he rfl 5 (by decide) (va_Nw.use rfl (hN.1 (69, "next", "LSweepHand$Piece;") (by decide))) (fun _ h9 => h9) rfl d_S_greatestFree_32 ?_
      refine sv_astore_n (lv' := [(2, va_rf (hdO suf none)), (1, .int (nI g)), (0, .ref h)]) hx hb d_S_greatestFree_35 rfl hl (by decide) rfl (fun ls hl => ?_)
      refine lv_goto (tgt := 7) hx hb d_S_greatestFree_36 (by decide) ?_
      exact ih ls g (lv_sub hl [0, 1, 2] rfl) ⟨pre ++ [x], by rw [hpre, List.append_assoc]; rfl⟩ (by rw [hq, grF, if_neg (by simp [bI_n0.mp c_15])]) hg2
    · refine lv_aload_n hx hb d_S_greatestFree_18 rfl (lv_at hl 0 rfl) ?_
      refine va_getN (D := D) (ci := 1) (v := .int (nI x.2.2.1)) (C := R_P) (T := F_P) (N := 6) hx hb hg gi_P hown hK hP (pre.length + 1) he rfl 1 (by decide) (va_Nw.use rfl (hN.1 (60, "size", "I") (by decide))) (fun _ h9 => h9) rfl d_S_greatestFree_19 ?_
      refine lv_iload_n hx hb d_S_greatestFree_22 rfl (lv_at hl 1 rfl) ?_
      refine lv_icmp_le (tgt := 31) hx hb d_S_greatestFree_23 (by decide) (fun c_23 => ?_) (fun c_23 => ?_)
      · refine lv_aload_n hx hb d_S_greatestFree_31 rfl (lv_at hl 0 rfl) ?_
        refine va_getN (D := D) (ci := 1) (v := va_rf (hdO suf none)) (C := R_P) (T := F_P) (N := 6) hx hb hg gi_P hown hK hP (pre.length + 1) he rfl 5 (by decide) (va_Nw.use rfl (hN.1 (69, "next", "LSweepHand$Piece;") (by decide))) (fun _ h9 => h9) rfl d_S_greatestFree_32 ?_
        refine sv_astore_n (lv' := [(2, va_rf (hdO suf none)), (1, .int (nI g)), (0, .ref h)]) hx hb d_S_greatestFree_35 rfl hl (by decide) rfl (fun ls hl => ?_)
        refine lv_goto (tgt := 7) hx hb d_S_greatestFree_36 (by decide) ?_
        exact ih ls g (lv_sub hl [0, 1, 2] rfl) ⟨pre ++ [x], by rw [hpre, List.append_assoc]; rfl⟩ (by rw [hq, grF, if_neg (by simp [Nat.not_lt.mpr ((nI_leI (by omega) (by omega)).mp c_23)])]) hg2
      · refine lv_aload_n hx hb d_S_greatestFree_26 rfl (lv_at hl 0 rfl) ?_
        refine va_getN (D := D) (ci := 1) (v := .int (nI x.2.2.1)) (C := R_P) (T := F_P) (N := 6) hx hb hg gi_P hown hK hP (pre.length + 1) he rfl 1 (by decide) (va_Nw.use rfl (hN.1 (60, "size", "I") (by decide))) (fun _ h9 => h9) rfl d_S_greatestFree_27 ?_
        refine lv_istore_n (lv' := [(1, .int (nI x.2.2.1)), (2, .ref x.1), (0, .ref h)]) hx hb d_S_greatestFree_30 rfl hl (by decide) rfl (fun ls hl => ?_)
        refine lv_aload_n hx hb d_S_greatestFree_31 rfl (lv_at hl 1 rfl) ?_
        refine va_getN (D := D) (ci := 1) (v := va_rf (hdO suf none)) (C := R_P) (T := F_P) (N := 6) hx hb hg gi_P hown hK hP (pre.length + 1) he rfl 5 (by decide) (va_Nw.use rfl (hN.1 (69, "next", "LSweepHand$Piece;") (by decide))) (fun _ h9 => h9) rfl d_S_greatestFree_32 ?_
        refine sv_astore_n (lv' := [(2, va_rf (hdO suf none)), (1, .int (nI x.2.2.1)), (0, .ref h)]) hx hb d_S_greatestFree_35 rfl hl (by decide) rfl (fun ls hl => ?_)
        refine lv_goto (tgt := 7) hx hb d_S_greatestFree_36 (by decide) ?_
        exact ih ls x.2.2.1 (lv_sub hl [0, 1, 2] rfl) ⟨pre ++ [x], by rw [hpre, List.append_assoc]; rfl⟩ (by rw [hq, grF, if_pos (by simp [bI_0.mp c_15, Nat.not_le.mp (fun h9 => c_23 ((nI_leI (by omega) (by omega)).mpr h9))])]) hb2
set_option maxHeartbeats 4000000 in
set_option maxRecDepth 100000 in
theorem c_S_isMarkRight (l : Launch) (D : va_G) (ty : tyL) (ws : va_W) (k : Nat) (x : AP) (nx : Option Nat) (he : ws[k]? = some (pcell x nx)) (fl : Bool) : Met l y_S_isMarkRight (Cond.code y_S_isMarkRight b_S_isMarkRight 2 (some .boolean) :: GW) ({ frames := 0, cells := 0, slots := 0, locals := 0 }) (va_Pc [.ref x.1, .int (bI fl)] (at0 D ty ws)) (vp_Si (fun r => r = bI (!x.2.2.2.2.1 || (x.2.2.2.1 && fl)))) 0 0 (fun _ => False) := by
  refine Met.ofW (cc := b_S_isMarkRight) (maxL := 2) (ret := (some .boolean)) (by decide) rfl ?_
  intro p e s m args below meth c s₁ B hml hv
  obtain ⟨rfl, hP, hK, hN⟩ := hv
  have hx := B.exec
  have hb := B.bytes
  have hr := B.returns
  have hg : ∀ w ∈ GW, w.before _ s = true := fun w h => atoms_spec (ws := Cond.code y_S_isMarkRight b_S_isMarkRight 2 (some .boolean) :: GW) B.pre w (List.mem_cons_of_mem _ h)
  have hown : s.vm.findClass R_S = some m.cls := findClass_of_methodNamed B.named
  have hlocks := B.notSynchronized
  have hl := lv_entry ([.ref x.1, .int (bI fl)]) (n := 2) (Nat.le_of_ble_eq_true rfl)
  rw [lg_entry_eq]
  generalize (lg_sl ([.ref x.1, .int (bI fl)]) ++ List.replicate (2 - (lg_sl ([.ref x.1, .int (bI fl)])).length) Slot.unset).toArray = ls at hl ⊢
  replace hl : lv_has ls 2 [(0, .ref x.1), (1, .int (bI fl))] := hl
  refine lv_aload_n hx hb d_S_isMarkRight_0 rfl (lv_at hl 0 rfl) ?_
  refine va_getN (D := D) (ci := 1) (v := .int (bI x.2.2.2.2.1)) (C := R_P) (T := F_P) (N := 6) hx hb hg gi_P hown hK hP k he rfl 3 (by decide) (va_Nw.use rfl (hN.1 (50, "marked", "Z") (by decide))) (fun _ h9 => h9) rfl d_S_isMarkRight_1 ?_
  refine lv_if_eq (tgt := 18) hx hb d_S_isMarkRight_4 (by decide) (fun c_4 => ?_) (fun c_4 => ?_)
  · refine lv_iconst (v := 1) hx hb d_S_isMarkRight_18 (by decide) ?_
    refine lv_goto (tgt := 23) hx hb d_S_isMarkRight_19 (by decide) ?_
    exact W.zret (v := 1) hx hb hr rfl (fun t ht hW => ⟨_, rfl, (by simp [show x.2.2.2.2.1 = false from bI_0.mp c_4, bI]), ht⟩) (fun q h => nomatch h) d_S_isMarkRight_23
  · refine lv_aload_n hx hb d_S_isMarkRight_7 rfl (lv_at hl 0 rfl) ?_
    refine va_getN (D := D) (ci := 1) (v := .int (bI x.2.2.2.1)) (C := R_P) (T := F_P) (N := 6) hx hb hg gi_P hown hK hP k he rfl 2 (by decide) (va_Nw.use rfl (hN.1 (37, "used", "Z") (by decide))) (fun _ h9 => h9) rfl d_S_isMarkRight_8 ?_
    refine lv_if_eq (tgt := 22) hx hb d_S_isMarkRight_11 (by decide) (fun c_11 => ?_) (fun c_11 => ?_)
    · refine lv_iconst (v := 0) hx hb d_S_isMarkRight_22 (by decide) ?_
      exact W.zret (v := 0) hx hb hr rfl (fun t ht hW => ⟨_, rfl, (by simp [show x.2.2.2.2.1 = true from bI_n0.mp c_4, show x.2.2.2.1 = false from bI_0.mp c_11, bI]), ht⟩) (fun q h => nomatch h) d_S_isMarkRight_23
    · refine lv_iload_n hx hb d_S_isMarkRight_14 rfl (lv_at hl 1 rfl) ?_
      refine lv_if_eq (tgt := 22) hx hb d_S_isMarkRight_15 (by decide) (fun c_15 => ?_) (fun c_15 => ?_)
      · refine lv_iconst (v := 0) hx hb d_S_isMarkRight_22 (by decide) ?_
        exact W.zret (v := 0) hx hb hr rfl (fun t ht hW => ⟨_, rfl, (by simp [show x.2.2.2.2.1 = true from bI_n0.mp c_4, show x.2.2.2.1 = true from bI_n0.mp c_11, show fl = false from bI_0.mp c_15, bI]), ht⟩) (fun q h => nomatch h) d_S_isMarkRight_23
      · refine lv_iconst (v := 1) hx hb d_S_isMarkRight_18 (by decide) ?_
        refine lv_goto (tgt := 23) hx hb d_S_isMarkRight_19 (by decide) ?_
        exact W.zret (v := 1) hx hb hr rfl (fun t ht hW => ⟨_, rfl, (by simp [show x.2.2.2.2.1 = true from bI_n0.mp c_4, show x.2.2.2.1 = true from bI_n0.mp c_11, show fl = true from bI_n0.mp c_15, bI]), ht⟩) (fun q h => nomatch h) d_S_isMarkRight_23
set_option maxHeartbeats 4000000 in
set_option maxRecDepth 100000 in
theorem c_S_isTimeRight (l : Launch) (D : va_G) (ty : tyL) (h cn : Nat) (ha : Option Nat) (f : Nat) (v w z : Int32) (L : List AP) (k : Nat) (x : AP) (nx : Option Nat) (he : (scell h cn (hdO L none) ha f v w z :: chG L none)[k]? = some (pcell x nx)) (htt : x.2.2.2.2.2 < 2 ^ 63) (hf : f < 2 ^ 63) : Met l y_S_isTimeRight (Cond.code y_S_isTimeRight b_S_isTimeRight 2 (some .boolean) :: GW) ({ frames := 0, cells := 0, slots := 0, locals := 0 }) (va_Pc [.ref h, .ref x.1] (at0 D ty (scell h cn (hdO L none) ha f v w z :: chG L none))) (vp_Si (fun r => r = bI (x.2.2.2.1 || (decide (1 ≤ x.2.2.2.2.2) && decide (x.2.2.2.2.2 ≤ f))))) 0 0 (fun _ => False) := by
  refine Met.ofW (cc := b_S_isTimeRight) (maxL := 2) (ret := (some .boolean)) (by decide) rfl ?_
  intro p e s m args below meth c s₁ B hml hv
  obtain ⟨rfl, hP, hK, hN⟩ := hv
  have hx := B.exec
  have hb := B.bytes
  have hr := B.returns
  have hg : ∀ w ∈ GW, w.before _ s = true := fun w h => atoms_spec (ws := Cond.code y_S_isTimeRight b_S_isTimeRight 2 (some .boolean) :: GW) B.pre w (List.mem_cons_of_mem _ h)
  have hown : s.vm.findClass R_S = some m.cls := findClass_of_methodNamed B.named
  have hlocks := B.notSynchronized
  have hl := lv_entry ([.ref h, .ref x.1]) (n := 2) (Nat.le_of_ble_eq_true rfl)
  rw [lg_entry_eq]
  generalize (lg_sl ([.ref h, .ref x.1]) ++ List.replicate (2 - (lg_sl ([.ref h, .ref x.1])).length) Slot.unset).toArray = ls at hl ⊢
  replace hl : lv_has ls 2 [(0, .ref h), (1, .ref x.1)] := hl
  refine lv_aload_n hx hb d_S_isTimeRight_0 rfl (lv_at hl 1 rfl) ?_
  refine va_getN (D := D) (ci := 1) (v := .int (bI x.2.2.2.1)) (C := R_P) (T := F_P) (N := 6) hx hb hg gi_P hown hK hP k he rfl 2 (by decide) (va_Nw.use rfl (hN.1 (37, "used", "Z") (by decide))) (fun _ h9 => h9) rfl d_S_isTimeRight_1 ?_
  refine lv_if_ne (tgt := 28) hx hb d_S_isTimeRight_4 (by decide) (fun c_4 => ?_) (fun c_4 => ?_)
  · refine lv_iconst (v := 1) hx hb d_S_isTimeRight_28 (by decide) ?_
    refine lv_goto (tgt := 33) hx hb d_S_isTimeRight_29 (by decide) ?_
    exact W.zret (v := 1) hx hb hr rfl (fun t ht hW => ⟨_, rfl, (by simp [show x.2.2.2.1 = true from bI_n0.mp c_4, bI]), ht⟩) (fun q h => nomatch h) d_S_isTimeRight_33
  · refine lv_aload_n hx hb d_S_isTimeRight_7 rfl (lv_at hl 1 rfl) ?_
    refine va_getN (D := D) (ci := 1) (v := .long (lN x.2.2.2.2.2)) (C := R_P) (T := F_P) (N := 6) hx hb hg gi_P hown hK hP k he rfl 4 (by decide) (va_Nw.use rfl (hN.1 (114, "freedAt", "J") (by decide))) (fun _ h9 => h9) rfl d_S_isTimeRight_8 ?_
    refine lv_lconst (v := 1) hx hb d_S_isTimeRight_11 (by decide) ?_
    refine W.lcmp hx hb d_S_isTimeRight_12 ?_
    refine lv_if_lt (tgt := 32) hx hb d_S_isTimeRight_13 (by decide) (fun c_13 => ?_) (fun c_13 => ?_)
    · refine lv_iconst (v := 0) hx hb d_S_isTimeRight_32 (by decide) ?_
      exact W.zret (v := 0) hx hb hr rfl (fun t ht hW => ⟨_, rfl, (by have h9 := (pk_lLT (b := 1) htt (by decide)).mp ((lg_cmp_lt _ _).mp c_13); simp [show x.2.2.2.1 = false from bI_0.mp c_4, bI]; omega), ht⟩) (fun q h => nomatch h) d_S_isTimeRight_33
    · refine lv_aload_n hx hb d_S_isTimeRight_16 rfl (lv_at hl 1 rfl) ?_
      refine va_getN (D := D) (ci := 1) (v := .long (lN x.2.2.2.2.2)) (C := R_P) (T := F_P) (N := 6) hx hb hg gi_P hown hK hP k he rfl 4 (by decide) (va_Nw.use rfl (hN.1 (114, "freedAt", "J") (by decide))) (fun _ h9 => h9) rfl d_S_isTimeRight_17 ?_
      refine lv_aload_n hx hb d_S_isTimeRight_20 rfl (lv_at hl 0 rfl) ?_
      refine va_get (D := D) (ci := 0) (v := .long (lN f)) (C := R_S) (T := F_S) (N := 7) hx hb hg gi_S hown hK hP 0 rfl rfl 3 (by decide) (hg _ gw_84) (fun _ h9 => h9) rfl d_S_isTimeRight_21 ?_
      refine W.lcmp hx hb d_S_isTimeRight_24 ?_
      refine lv_if_gt (tgt := 32) hx hb d_S_isTimeRight_25 (by decide) (fun c_25 => ?_) (fun c_25 => ?_)
      · refine lv_iconst (v := 0) hx hb d_S_isTimeRight_32 (by decide) ?_
        exact W.zret (v := 0) hx hb hr rfl (fun t ht hW => ⟨_, rfl, (by have h8 := Nat.not_lt.mp (fun h9 => c_13 ((lg_cmp_lt _ _).mpr ((pk_lLT (b := 1) htt (by decide)).mpr h9))); have h9 := (pk_lLT hf htt).mp ((lg_cmp_gt _ _).mp c_25); simp [show x.2.2.2.1 = false from bI_0.mp c_4, bI]; omega), ht⟩) (fun q h => nomatch h) d_S_isTimeRight_33
      · refine lv_iconst (v := 1) hx hb d_S_isTimeRight_28 (by decide) ?_
        refine lv_goto (tgt := 33) hx hb d_S_isTimeRight_29 (by decide) ?_
        exact W.zret (v := 1) hx hb hr rfl (fun t ht hW => ⟨_, rfl, (by have h8 := Nat.not_lt.mp (fun h9 => c_13 ((lg_cmp_lt _ _).mpr ((pk_lLT (b := 1) htt (by decide)).mpr h9))); have h9 := Nat.not_lt.mp (fun h9 => c_25 ((lg_cmp_gt _ _).mpr ((pk_lLT hf htt).mpr h9))); simp [show x.2.2.2.1 = false from bI_0.mp c_4, bI, h8, h9]), ht⟩) (fun q h => nomatch h) d_S_isTimeRight_33
