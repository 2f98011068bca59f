theorem sw_PL {D : va_G} {cl : List vw_C} {X ws : va_W} {H : Heap} (hP : va_P D cl (X ++ ws) H) : va_P D cl X H := sw_P_of hP (fun q hq => List.mem_append_left _ hq)
theorem sw_Pas {D : va_G} {cl : List vw_C} {X Y ws : va_W} {H : Heap} (hP : va_P D cl (X ++ (Y ++ ws)) H) : va_P D cl ((X ++ Y) ++ ws) H := by rw [List.append_assoc]; exact hP
theorem sw_Das {A : Nat → Prop} {X Y ws : va_W} (hD : va_D A (X ++ (Y ++ ws))) : va_D A ((X ++ Y) ++ ws) := by rw [List.append_assoc]; exact hD
theorem hdB_0 {cn f nw : Nat} {p0 s0 : List AP} {za ta ka : Nat → Int32} (h : Inv cn f nw (p0 ++ s0) za ta ka) (h0 : hdB s0 = 0) : s0 = [] := by
  cases s0 with
  | nil => rfl
  | cons y s => have := (h.x (x := y) (by simp)).2.2.2.2.1; have h0 : y.2.1 = 0 := h0; omega
theorem rng_no {lo hi k : Nat} (h1 : lo ≤ k) (h2 : k ≤ hi) (hl : lo < 2 ^ 31) (hh : hi < 2 ^ 31) : ¬ (nI k < nI lo ∨ ¬ nI k ≤ nI hi) := by
  intro h
  rcases h with h | h
  · exact absurd ((nI_ltI (by omega) hl).mp h) (by omega)
  · exact h (nI_le h2 hh)
/-- the law's loop from its head, after cnt calls -/
def LW (p : Program) (l : Launch) (e : Env) (s : State) (m : MethodId) (below : List Frame) (meth : Method) (c : Code) (D : va_G) (b : Nat) (h hm qs qt qm qo : Nat) (cI cJ cZ cL : ClassId) (cnt : Nat) : Prop :=
  ∀ (cn f nw : Nat) (v w z : Int32) (p0 s0 : List AP) (za ta ka : Nat → Int32) (th : Int32) (o : Nat → Int64) (H : Heap) (locs : List Loc) (ls : Array Slot), JJ cn f nw p0 s0 za ta ka → 16 ≤ cn → nw ≤ 5001 * cnt → va_P D classes (mW hm qs qt qm cI cJ cZ th cn nw v w z (hdB s0) za ta ka ++ (oW qo cL o ++ cW h cn f v w z p0 s0)) H → va_D (fun q => s.heap.size ≤ q) (mW hm qs qt qm cI cJ cZ th cn nw v w z (hdB s0) za ta ka ++ (oW qo cL o ++ cW h cn f v w z p0 s0)) → va_S (fun q => s.heap.size ≤ q) s.heap H locs → lv_has ls 7 [(0, .ref b), (1, .ref h), (2, .ref hm), (3, .ref qo), (4, .int (nI (2 * cnt)))] →
    W p l e room_1 s m #[Value.ref b] below meth c H locs (7 + 2 * cnt) (49182 + 12 * cnt) (lw_Z below #[Value.ref b] s) (F0 m 23 ls [])
set_option maxHeartbeats 4000000 in
set_option maxRecDepth 100000 in
theorem lo_space {p : Program} {l : Launch} {e : Env} {s : State} {m : MethodId} {below : List Frame} {meth : Method} {c : Code} {D : va_G} {b L : Nat} {xs : Nat → Int32} {h hm qs qt qm qo : Nat} {cI cJ cZ cL : ClassId} (hl9 : l.stackTraces = false) (C0 : lw_At p s m meth c b L xs) (hK : va_K D classes [(cI, .int), (cJ, .int), (cZ, .boolean), (cL, .long)] s) (hN : NW s) (hE : EV s.heap.size s s.heap) (cnt : Nat) (hc : 2 * cnt + 2 ≤ L) (hL : L ≤ 1024) (hk : LW p l e s m below meth c D b h hm qs qt qm qo cI cJ cZ cL (cnt + 1)) (cn f nw : Nat) (v w z : Int32) (p0 s0 : List AP) (za ta ka : Nat → Int32) (th : Int32) (o : Nat → Int64) (H : Heap) (locs : List Loc) (ls : Array Slot) (hJ : JJ cn f nw p0 s0 za ta ka) (h16 : 16 ≤ cn) (hnw : nw ≤ 5001 * cnt) (hP : va_P D classes (mW hm qs qt qm cI cJ cZ th cn nw v w z (hdB s0) za ta ka ++ (oW qo cL o ++ cW h cn f v w z p0 s0)) H) (hD : va_D (fun q => s.heap.size ≤ q) (mW hm qs qt qm cI cJ cZ th cn nw v w z (hdB s0) za ta ka ++ (oW qo cL o ++ cW h cn f v w z p0 s0))) (hS : va_S (fun q => s.heap.size ≤ q) s.heap H locs) (hl : lv_has ls 7 [(0, .ref b), (1, .ref h), (2, .ref hm), (3, .ref qo), (4, .int (nI (2 * cnt)))]) : W p l e room_1 s m #[Value.ref b] below meth c H locs (7 + 2 * cnt) (49182 + 12 * cnt) (lw_Z below #[Value.ref b] s) (F0 m 100 ls []) := by
  obtain ⟨hx, hb, hr, hml, hown, hts, hX, hbl, hlocks, hgv⟩ := C0
  have hown : s.vm.findClass R_L = some m.cls := hown
  have hg := lw_hg hts
  have hA : ∀ q : Nat, s.heap.size ≤ q → (fun q : Nat => s.heap.size ≤ q) q := fun _ h => h
  have hbA : ¬ (fun q : Nat => s.heap.size ≤ q) b := Nat.not_le.mpr hbl
  have hAN : ∀ q : Nat, (fun q : Nat => s.heap.size ≤ q) q → s.heap.size ≤ q := fun _ h => h
  have hN0 := Nat.le_refl s.heap.size
  have hnb : nw + 5001 < 2 ^ 30 := by omega
  have hcn := hJ.1.2.2.1
  have hBd := hJ.bd
  have hhd : hdB s0 < 2 ^ 31 := by cases s0 with | nil => decide | cons y9 r9 => exact Nat.lt_trans (hBd y9 (by simp)).1 (by decide)
  refine lv_aload_n hx hb d_L_law_100 rfl (lv_at hl 1 rfl) ?_
  refine lv_aload_n hx hb d_L_law_101 rfl (lv_at hl 0 rfl) ?_
  refine lv_iload hx hb d_L_law_102 (lv_at hl 4 rfl) ?_
  refine lv_iconst (v := 1) hx hb d_L_law_104 (by decide) ?_
  refine lv_iadd hx hb d_L_law_105 ?_
  refine lv_topi (fun y1 ey1 => ?_)
  obtain rfl : y1 = nI (2 * cnt + 1) := ey1.trans (nI_add (2 * cnt) 1)
  clear ey1
  refine va_sld hx hb hX hbl hbA hS (vp_in_nI (n := (2 * cnt + 1)) (by omega) (by omega)) d_L_law_106 ?_
  refine lv_topi (fun y2 ey2 => ?_)
  obtain rfl : y2 = xs (2 * cnt + 1) := ey2.trans (congrArg xs (nI_clamp (by omega)))
  clear ey2
  refine lv_aload_n hx hb d_L_law_107 rfl (lv_at hl 3 rfl) ?_
  have hFc := sw_freeR hD hS hA
  have hPo := hP
  have hDo := hD
  refine va_calli (vx_runSW (As := [.ref h, .int (xs (2 * cnt + 1)), .ref qo]) (rest := []) ⟨hx, hb, hml, hown, hg⟩ (c_L_space l hl9 D _ s.heap.size _ qo cL o h cn f v w z p0 s0 (xs (2 * cnt + 1)) rfl) (vx_cwSW 3 hg (gw_S gw_134 gw_135 gw_25 gw_136) rfl rfl rfl (by decide +kernel) ⟨Nat.le_of_ble_eq_true rfl, Nat.le_of_ble_eq_true rfl⟩) (pre_wrS (sw_PR hP) hK hN (sw_DR hD) hS hAN hN0 hE) rfl rfl hl.1 rfl (lv_room (Nat.le_of_ble_eq_true rfl)) d_L_law_108 ⟨by show _ ≤ 601024; omega, by show _ ≤ 7293034; omega⟩) hS (fun q _ h => hFc q h) hFc (fun r u t H locs ht hvm hw hB hz1 hk1 hS => ?_)
  obtain ⟨hP1, hK1, hD1⟩ := hB
  rw [ht] at hP1
  obtain ⟨hP, hD⟩ := sw_join hPo hDo hk1 hFc hP1 hD1
  clear hPo hDo hP1 hK1 hD1 hk1 hz1 hFc ht hvm
  rcases hw with ⟨rfl, hthr, rfl⟩ | ⟨rfl, ans, ws1, ⟨hans, k, q, hk1, hk2, hkn, rfl⟩, rfl⟩
  · refine lv_istore (lv' := [(5, .int 1), (0, .ref b), (1, .ref h), (2, .ref hm), (3, .ref qo), (4, .int (nI (2 * cnt)))]) hx hb d_L_law_111 hl (by decide) rfl (fun ls hl => ?_)
    refine lv_aload_n hx hb d_L_law_113 rfl (lv_at hl 3 rfl) ?_
    refine lv_aload_n hx hb d_L_law_114 rfl (lv_at hl 1 rfl) ?_
    refine lv_iload hx hb d_L_law_115 (lv_at hl 5 rfl) ?_
    refine lv_iconst (v := 1) hx hb d_L_law_117 (by decide) ?_
    refine lv_iadd hx hb d_L_law_118 ?_
    refine lv_topi (fun y3 ey3 => ?_)
    obtain rfl : y3 = nI (2 * cnt + 1) := ey3.trans (nI_add (2 * cnt) 1)
    clear ey3
    refine va_sld hx hb hX hbl hbA hS (vp_in_nI (n := (2 * cnt + 1)) (by omega) (by omega)) d_L_law_119 ?_
    refine lv_topi (fun y4 ey4 => ?_)
    obtain rfl : y4 = xs (2 * cnt + 1) := ey4.trans (congrArg xs (nI_clamp (by omega)))
    clear ey4
    replace hP := sw_P_perm hP List.perm_append_comm
    replace hD := sw_D_perm2 hD List.perm_append_comm
    have hFc := sw_freeR hD hS hA
    have hPo := hP
    have hDo := hD
    refine va_calli (va_runV (As := [.int (xs (2 * cnt + 1))]) (rest := []) ⟨hx, hb, hml, hown, hg⟩ (c_M_space l D _ s.heap.size _ hm qs qt qm cI cJ cZ th cn nw v w z (hdB s0) za ta ka (xs (2 * cnt + 1)) rfl rfl rfl (by omega)) (cwV 1 hg (gw_V gw_389 gw_390 gw_391 gw_28 gw_392) rfl rfl rfl (by decide +kernel) ⟨Nat.le_of_ble_eq_true rfl, Nat.le_of_ble_eq_true rfl⟩) (pre_wrV (sw_PR hP) hK hN (sw_DR hD) hS hAN hN0 hE (ci := 2) (k := 0) rfl rfl) rfl rfl hl.1 rfl (lv_room (Nat.le_of_ble_eq_true rfl)) d_L_law_120 ⟨by show _ ≤ 601024; omega, by show _ ≤ 7293034; omega⟩) hS (fun q _ h => hFc q h) hFc (fun r6 u t H locs ht hvm hw hB hz1 hk1 hS => ?_)
    obtain ⟨hP1, hK1, hD1⟩ := hB
    rw [ht] at hP1
    obtain ⟨hP, hD⟩ := sw_join hPo hDo hk1 hFc hP1 hD1
    replace hP := sw_P_perm hP List.perm_append_comm
    replace hD := sw_D_perm2 hD List.perm_append_comm
    clear hPo hDo hP1 hK1 hD1 hk1 hz1 hFc ht hvm
    rcases hw with ⟨hm1, rfl⟩ | ⟨k2, hm1, hm2, hm3, rfl, za', ta', ka', rfl, hI9⟩
    · replace hP : va_P D classes (mW hm qs qt qm cI cJ cZ 1 cn nw v w z (hdB s0) za ta ka ++ (oW qo cL o ++ cW h cn f v w z p0 s0)) H := hP
      replace hD : va_D (fun q => s.heap.size ≤ q) (mW hm qs qt qm cI cJ cZ 1 cn nw v w z (hdB s0) za ta ka ++ (oW qo cL o ++ cW h cn f v w z p0 s0)) := hD
      refine lv_istore (lv' := [(6, .int r6), (5, .int 1), (0, .ref b), (1, .ref h), (2, .ref hm), (3, .ref qo), (4, .int (nI (2 * cnt)))]) hx hb d_L_law_123 hl (by decide) rfl (fun ls hl => ?_)
      refine lv_aload_n hx hb d_L_law_125 rfl (lv_at hl 4 rfl) ?_
      refine vp_callSi (va_runV (As := []) (rest := []) ⟨hx, hb, hml, hown, hg⟩ (c_M_thrown l D _ hm qs qt qm cI cJ cZ 1 cn nw v w z (hdB s0) za ta ka rfl rfl rfl) (cwV 0 hg (gw_V gw_385 gw_386 gw_387 gw_28 gw_388) rfl rfl rfl (by decide +kernel) ⟨Nat.le_of_ble_eq_true rfl, Nat.le_of_ble_eq_true rfl⟩) (pre_roV (sw_PL hP) hK hN (ci := 2) (k := 0) rfl rfl) rfl rfl hl.1 rfl (lv_room (Nat.le_of_ble_eq_true rfl)) d_L_law_126 ⟨by show _ ≤ 601024; omega, by show _ ≤ 7293034; omega⟩).run (fun r7 hr7 => ?_)
      subst hr7
      refine lv_iload hx hb d_L_law_129 (lv_at hl 1 rfl) ?_
      refine lv_icmp_eq (tgt := 136) hx hb d_L_law_131 (by decide) (fun c_131 => ?_) (fun c_131 => ?_)
      · refine lv_iload hx hb d_L_law_136 (lv_at hl 1 rfl) ?_
        refine lv_if_ne (tgt := 153) hx hb d_L_law_138 (by decide) (fun c_138 => ?_) (fun c_138 => ?_)
        · refine lv_goto (tgt := 587) hx hb d_L_law_153 (by decide) ?_
          obtain ⟨j5, ej5⟩ : ∃ y : Int32, y = nI (2 * cnt) + 2 := ⟨_, rfl⟩
          refine lv_iinc (v := j5) (lv' := [(4, .int j5), (6, .int r6), (5, .int 1), (0, .ref b), (1, .ref h), (2, .ref hm), (3, .ref qo)]) hx hb d_L_law_587 hl (k := 6) rfl (by rw [ej5]; rfl) (by decide) rfl (fun ls hl => ?_)
          replace ej5 : j5 = nI (2 * (cnt + 1)) := ej5.trans (nI_add (2 * cnt) 2)
          subst ej5
          refine lv_goto (tgt := 23) hx hb d_L_law_590 (by decide) ?_
          refine W.widen (k := 7 + 2 * (cnt + 1)) (n := 49182 + 12 * (cnt + 1)) (by omega) (by omega) ?_
          exact hk cn f nw v w z p0 s0 za ta ka 1 o _ _ ls hJ h16 (by omega) hP hD hS (lv_sub hl [3, 4, 5, 6, 0] rfl)
        · exact absurd c_138 (by decide)
      · exact absurd rfl c_131
    · exact absurd hthr (by rw [hm3]; exact (rng_no hm1 hm2 (by decide) (by decide)))
  · refine lv_istore (lv' := [(5, .int 0), (0, .ref b), (1, .ref h), (2, .ref hm), (3, .ref qo), (4, .int (nI (2 * cnt)))]) hx hb d_L_law_111 hl (by decide) rfl (fun ls hl => ?_)
    refine lv_aload_n hx hb d_L_law_113 rfl (lv_at hl 3 rfl) ?_
    refine lv_aload_n hx hb d_L_law_114 rfl (lv_at hl 1 rfl) ?_
    refine lv_iload hx hb d_L_law_115 (lv_at hl 5 rfl) ?_
    refine lv_iconst (v := 1) hx hb d_L_law_117 (by decide) ?_
    refine lv_iadd hx hb d_L_law_118 ?_
    refine lv_topi (fun y6 ey6 => ?_)
    obtain rfl : y6 = nI (2 * cnt + 1) := ey6.trans (nI_add (2 * cnt) 1)
    clear ey6
    refine va_sld hx hb hX hbl hbA hS (vp_in_nI (n := (2 * cnt + 1)) (by omega) (by omega)) d_L_law_119 ?_
    refine lv_topi (fun y7 ey7 => ?_)
    obtain rfl : y7 = xs (2 * cnt + 1) := ey7.trans (congrArg xs (nI_clamp (by omega)))
    clear ey7
    replace hP := sw_P_perm hP List.perm_append_comm
    replace hD := sw_D_perm2 hD List.perm_append_comm
    have hFc := sw_freeR hD hS hA
    have hPo := hP
    have hDo := hD
    refine va_calli (va_runV (As := [.int (xs (2 * cnt + 1))]) (rest := []) ⟨hx, hb, hml, hown, hg⟩ (c_M_space l D _ s.heap.size _ hm qs qt qm cI cJ cZ th cn nw v w z (hdB s0) za ta ka (xs (2 * cnt + 1)) rfl rfl rfl (by omega)) (cwV 1 hg (gw_V gw_389 gw_390 gw_391 gw_28 gw_392) rfl rfl rfl (by decide +kernel) ⟨Nat.le_of_ble_eq_true rfl, Nat.le_of_ble_eq_true rfl⟩) (pre_wrV (sw_PR hP) hK hN (sw_DR hD) hS hAN hN0 hE (ci := 2) (k := 0) rfl rfl) rfl rfl hl.1 rfl (lv_room (Nat.le_of_ble_eq_true rfl)) d_L_law_120 ⟨by show _ ≤ 601024; omega, by show _ ≤ 7293034; omega⟩) hS (fun q _ h => hFc q h) hFc (fun r6 u t H locs ht hvm hw hB hz1 hk1 hS => ?_)
    obtain ⟨hP1, hK1, hD1⟩ := hB
    rw [ht] at hP1
    obtain ⟨hP, hD⟩ := sw_join hPo hDo hk1 hFc hP1 hD1
    replace hP := sw_P_perm hP List.perm_append_comm
    replace hD := sw_D_perm2 hD List.perm_append_comm
    clear hPo hDo hP1 hK1 hD1 hk1 hz1 hFc ht hvm
    rcases hw with ⟨hm1, rfl⟩ | ⟨k2, hm1, hm2, hm3, rfl, za', ta', ka', rfl, hI9⟩
    · exact absurd hm1 (by rw [hkn]; exact (rng_no hk1 hk2 (by decide) (by decide)))
    · have hkk : k2 = k := (nI_eq (by omega) (by omega)).mp (hm3.symm.trans hkn)
      subst hkk
      replace hP : va_P D classes (mW hm qs qt qm cI cJ cZ 0 k2 (nw + 1) 0 0 0 0 za' ta' ka' ++ (oW qo cL (vp_updL o 0 ans.toInt64) ++ cW h k2 1 0 0 0 [(q, 1, k2, false, false, 1)] [])) H := hP
      replace hD : va_D (fun q => s.heap.size ≤ q) (mW hm qs qt qm cI cJ cZ 0 k2 (nw + 1) 0 0 0 0 za' ta' ka' ++ (oW qo cL (vp_updL o 0 ans.toInt64) ++ cW h k2 1 0 0 0 [(q, 1, k2, false, false, 1)] [])) := hD
      refine lv_istore (lv' := [(6, .int (nI cn)), (5, .int 0), (0, .ref b), (1, .ref h), (2, .ref hm), (3, .ref qo), (4, .int (nI (2 * cnt)))]) hx hb d_L_law_123 hl (by decide) rfl (fun ls hl => ?_)
      refine lv_aload_n hx hb d_L_law_125 rfl (lv_at hl 4 rfl) ?_
      refine vp_callSi (va_runV (As := []) (rest := []) ⟨hx, hb, hml, hown, hg⟩ (c_M_thrown l D _ hm qs qt qm cI cJ cZ 0 k2 (nw + 1) 0 0 0 0 za' ta' ka' rfl rfl rfl) (cwV 0 hg (gw_V gw_385 gw_386 gw_387 gw_28 gw_388) rfl rfl rfl (by decide +kernel) ⟨Nat.le_of_ble_eq_true rfl, Nat.le_of_ble_eq_true rfl⟩) (pre_roV (sw_PL hP) hK hN (ci := 2) (k := 0) rfl rfl) rfl rfl hl.1 rfl (lv_room (Nat.le_of_ble_eq_true rfl)) d_L_law_126 ⟨by show _ ≤ 601024; omega, by show _ ≤ 7293034; omega⟩).run (fun r7 hr7 => ?_)
      subst hr7
      refine lv_iload hx hb d_L_law_129 (lv_at hl 1 rfl) ?_
      refine lv_icmp_eq (tgt := 136) hx hb d_L_law_131 (by decide) (fun c_131 => ?_) (fun c_131 => ?_)
      · refine lv_iload hx hb d_L_law_136 (lv_at hl 1 rfl) ?_
        refine lv_if_ne (tgt := 153) hx hb d_L_law_138 (by decide) (fun c_138 => ?_) (fun c_138 => ?_)
        · exact absurd rfl c_138
        · refine lv_aload_n hx hb d_L_law_141 rfl (lv_at hl 5 rfl) ?_
          refine lv_iconst (v := 0) hx hb d_L_law_142 (by decide) ?_
          refine va_lald hx hb hK hP 4 3 rfl rfl (vp_in_nI (n := 0) (by decide) (by decide)) d_L_law_143 ?_
          refine lv_topl (fun y8 ey8 => ?_)
          obtain rfl : y8 = (ans).toInt64 := ey8.trans (show (vp_updL o 0 ans.toInt64) 0 = _ from pk_uLs)
          clear ey8
          refine lv_iload hx hb d_L_law_144 (lv_at hl 0 rfl) ?_
          refine lv_i2l (v := Int32.toInt64 (nI cn)) hx hb d_L_law_146 rfl ?_
          refine W.lcmp hx hb d_L_law_147 ?_
          refine lv_if_eq (tgt := 153) hx hb d_L_law_148 (by decide) (fun c_148 => ?_) (fun c_148 => ?_)
          · refine lv_goto (tgt := 587) hx hb d_L_law_153 (by decide) ?_
            obtain ⟨j9, ej9⟩ : ∃ y : Int32, y = nI (2 * cnt) + 2 := ⟨_, rfl⟩
            refine lv_iinc (v := j9) (lv' := [(4, .int j9), (6, .int (nI cn)), (5, .int 0), (0, .ref b), (1, .ref h), (2, .ref hm), (3, .ref qo)]) hx hb d_L_law_587 hl (k := 6) rfl (by rw [ej9]; rfl) (by decide) rfl (fun ls hl => ?_)
            replace ej9 : j9 = nI (2 * (cnt + 1)) := ej9.trans (nI_add (2 * cnt) 2)
            subst ej9
            refine lv_goto (tgt := 23) hx hb d_L_law_590 (by decide) ?_
            refine W.widen (k := 7 + 2 * (cnt + 1)) (n := 49182 + 12 * (cnt + 1)) (by omega) (by omega) ?_
            exact hk k2 1 (nw + 1) 0 0 0 [(q, 1, k2, false, false, 1)] [] za' ta' ka' 0 (vp_updL o 0 ans.toInt64) _ _ ls (J_space hI9) hm1 (by omega) hP hD hS (lv_sub hl [3, 4, 5, 6, 0] rfl)
          · exact absurd ((lg_cmp_eq _ _).mpr (by rw [hans])) c_148
      · exact absurd rfl c_131
set_option maxHeartbeats 4000000 in
set_option maxRecDepth 100000 in
theorem lo_take {p : Program} {l : Launch} {e : Env} {s : State} {m : MethodId} {below : List Frame} {meth : Method} {c : Code} {D : va_G} {b L : Nat} {xs : Nat → Int32} {h hm qs qt qm qo : Nat} {cI cJ cZ cL : ClassId} (hl9 : l.stackTraces = false) (C0 : lw_At p s m meth c b L xs) (hK : va_K D classes [(cI, .int), (cJ, .int), (cZ, .boolean), (cL, .long)] s) (hN : NW s) (hE : EV s.heap.size s s.heap) (cnt : Nat) (hc : 2 * cnt + 2 ≤ L) (hL : L ≤ 1024) (hk : LW p l e s m below meth c D b h hm qs qt qm qo cI cJ cZ cL (cnt + 1)) (cn f nw : Nat) (v w z : Int32) (p0 s0 : List AP) (za ta ka : Nat → Int32) (th : Int32) (o : Nat → Int64) (H : Heap) (locs : List Loc) (ls : Array Slot) (hJ : JJ cn f nw p0 s0 za ta ka) (h16 : 16 ≤ cn) (hnw : nw ≤ 5001 * cnt) (hP : va_P D classes (mW hm qs qt qm cI cJ cZ th cn nw v w z (hdB s0) za ta ka ++ (oW qo cL o ++ cW h cn f v w z p0 s0)) H) (hD : va_D (fun q => s.heap.size ≤ q) (mW hm qs qt qm cI cJ cZ th cn nw v w z (hdB s0) za ta ka ++ (oW qo cL o ++ cW h cn f v w z p0 s0))) (hS : va_S (fun q => s.heap.size ≤ q) s.heap H locs) (hl : lv_has ls 7 [(0, .ref b), (1, .ref h), (2, .ref hm), (3, .ref qo), (4, .int (nI (2 * cnt)))]) : W p l e room_1 s m #[Value.ref b] below meth c H locs (7 + 2 * cnt) (49182 + 12 * cnt) (lw_Z below #[Value.ref b] s) (F0 m 156 ls []) := by
  obtain ⟨hx, hb, hr, hml, hown, hts, hX, hbl, hlocks, hgv⟩ := C0
  have hown : s.vm.findClass R_L = some m.cls := hown
  have hg := lw_hg hts
  have hA : ∀ q : Nat, s.heap.size ≤ q → (fun q : Nat => s.heap.size ≤ q) q := fun _ h => h
  have hbA : ¬ (fun q : Nat => s.heap.size ≤ q) b := Nat.not_le.mpr hbl
  have hAN : ∀ q : Nat, (fun q : Nat => s.heap.size ≤ q) q → s.heap.size ≤ q := fun _ h => h
  have hN0 := Nat.le_refl s.heap.size
  have hnb : nw + 5001 < 2 ^ 30 := by omega
  have hcn := hJ.1.2.2.1
  have hBd := hJ.bd
  have hhd : hdB s0 < 2 ^ 31 := by cases s0 with | nil => decide | cons y9 r9 => exact Nat.lt_trans (hBd y9 (by simp)).1 (by decide)
  refine lv_aload_n hx hb d_L_law_156 rfl (lv_at hl 1 rfl) ?_
  refine lv_aload_n hx hb d_L_law_157 rfl (lv_at hl 0 rfl) ?_
  refine lv_iload hx hb d_L_law_158 (lv_at hl 4 rfl) ?_
  refine lv_iconst (v := 1) hx hb d_L_law_160 (by decide) ?_
  refine lv_iadd hx hb d_L_law_161 ?_
  refine lv_topi (fun y1 ey1 => ?_)
  obtain rfl : y1 = nI (2 * cnt + 1) := ey1.trans (nI_add (2 * cnt) 1)
  clear ey1
  refine va_sld hx hb hX hbl hbA hS (vp_in_nI (n := (2 * cnt + 1)) (by omega) (by omega)) d_L_law_162 ?_
  refine lv_topi (fun y2 ey2 => ?_)
  obtain rfl : y2 = xs (2 * cnt + 1) := ey2.trans (congrArg xs (nI_clamp (by omega)))
  clear ey2
  refine lv_aload_n hx hb d_L_law_163 rfl (lv_at hl 3 rfl) ?_
  have hFc := sw_freeR hD hS hA
  have hPo := hP
  have hDo := hD
  refine va_calli (vx_runSW (As := [.ref h, .int (xs (2 * cnt + 1)), .ref qo]) (rest := []) ⟨hx, hb, hml, hown, hg⟩ (c_L_take l hl9 D _ s.heap.size _ qo cL o h cn f v w z p0 s0 (xs (2 * cnt + 1)) rfl hBd) (vx_cwSW 3 hg (gw_S gw_210 gw_211 gw_25 gw_212) rfl rfl rfl (by decide +kernel) ⟨Nat.le_of_ble_eq_true rfl, Nat.le_of_ble_eq_true rfl⟩) (pre_wrS (sw_PR hP) hK hN (sw_DR hD) hS hAN hN0 hE) rfl rfl hl.1 rfl (lv_room (Nat.le_of_ble_eq_true rfl)) d_L_law_164 ⟨by show _ ≤ 601024; omega, by show _ ≤ 7293034; omega⟩) hS (fun q _ h => hFc q h) hFc (fun r u t H locs ht hvm hw hB hz1 hk1 hS => ?_)
  obtain ⟨hP1, hK1, hD1⟩ := hB
  rw [ht] at hP1
  obtain ⟨hP, hD⟩ := sw_join hPo hDo hk1 hFc hP1 hD1
  clear hPo hDo hP1 hK1 hD1 hk1 hz1 hFc ht hvm
  rcases hw with ⟨rfl, hthr, rfl⟩ | ⟨rfl, ans, ws1, ⟨k, hk1, hk2, hkn, hcs⟩, rfl⟩
  · refine lv_istore (lv' := [(5, .int 1), (0, .ref b), (1, .ref h), (2, .ref hm), (3, .ref qo), (4, .int (nI (2 * cnt)))]) hx hb d_L_law_167 hl (by decide) rfl (fun ls hl => ?_)
    refine lv_aload_n hx hb d_L_law_169 rfl (lv_at hl 3 rfl) ?_
    refine lv_aload_n hx hb d_L_law_170 rfl (lv_at hl 1 rfl) ?_
    refine lv_iload hx hb d_L_law_171 (lv_at hl 5 rfl) ?_
    refine lv_iconst (v := 1) hx hb d_L_law_173 (by decide) ?_
    refine lv_iadd hx hb d_L_law_174 ?_
    refine lv_topi (fun y3 ey3 => ?_)
    obtain rfl : y3 = nI (2 * cnt + 1) := ey3.trans (nI_add (2 * cnt) 1)
    clear ey3
    refine va_sld hx hb hX hbl hbA hS (vp_in_nI (n := (2 * cnt + 1)) (by omega) (by omega)) d_L_law_175 ?_
    refine lv_topi (fun y4 ey4 => ?_)
    obtain rfl : y4 = xs (2 * cnt + 1) := ey4.trans (congrArg xs (nI_clamp (by omega)))
    clear ey4
    replace hP := sw_P_perm hP List.perm_append_comm
    replace hD := sw_D_perm2 hD List.perm_append_comm
    have hFc := sw_freeR hD hS hA
    have hPo := hP
    have hDo := hD
    refine va_calli (va_runV (As := [.int (xs (2 * cnt + 1))]) (rest := []) ⟨hx, hb, hml, hown, hg⟩ (c_M_take l D _ s.heap.size _ hm qs qt qm cI cJ cZ th cn nw v w z (hdB s0) za ta ka (xs (2 * cnt + 1)) (p0 ++ s0) f hJ.1 rfl rfl rfl hhd (by omega)) (cwV 1 hg (gw_V gw_401 gw_402 gw_403 gw_28 gw_404) rfl rfl rfl (by decide +kernel) ⟨Nat.le_of_ble_eq_true rfl, Nat.le_of_ble_eq_true rfl⟩) (pre_wrV (sw_PR hP) hK hN (sw_DR hD) hS hAN hN0 hE (ci := 2) (k := 0) rfl rfl) rfl rfl hl.1 rfl (lv_room (Nat.le_of_ble_eq_true rfl)) d_L_law_176 ⟨by show _ ≤ 601024; omega, by show _ ≤ 7293034; omega⟩) hS (fun q _ h => hFc q h) hFc (fun r6 u t H locs ht hvm hw hB hz1 hk1 hS => ?_)
    obtain ⟨hP1, hK1, hD1⟩ := hB
    rw [ht] at hP1
    obtain ⟨hP, hD⟩ := sw_join hPo hDo hk1 hFc hP1 hD1
    replace hP := sw_P_perm hP List.perm_append_comm
    replace hD := sw_D_perm2 hD List.perm_append_comm
    clear hPo hDo hP1 hK1 hD1 hk1 hz1 hFc ht hvm
    rcases hw with ⟨hm1, rfl⟩ | ⟨k2, hm1, hm2, hm3, hmc⟩
    · replace hP : va_P D classes (mW hm qs qt qm cI cJ cZ 1 cn nw v w z (hdB s0) za ta ka ++ (oW qo cL o ++ cW h cn f v w z p0 s0)) H := hP
      replace hD : va_D (fun q => s.heap.size ≤ q) (mW hm qs qt qm cI cJ cZ 1 cn nw v w z (hdB s0) za ta ka ++ (oW qo cL o ++ cW h cn f v w z p0 s0)) := hD
      refine lv_istore (lv' := [(6, .int r6), (5, .int 1), (0, .ref b), (1, .ref h), (2, .ref hm), (3, .ref qo), (4, .int (nI (2 * cnt)))]) hx hb d_L_law_179 hl (by decide) rfl (fun ls hl => ?_)
      refine lv_aload_n hx hb d_L_law_181 rfl (lv_at hl 4 rfl) ?_
      refine vp_callSi (va_runV (As := []) (rest := []) ⟨hx, hb, hml, hown, hg⟩ (c_M_thrown l D _ hm qs qt qm cI cJ cZ 1 cn nw v w z (hdB s0) za ta ka rfl rfl rfl) (cwV 0 hg (gw_V gw_385 gw_386 gw_387 gw_28 gw_388) rfl rfl rfl (by decide +kernel) ⟨Nat.le_of_ble_eq_true rfl, Nat.le_of_ble_eq_true rfl⟩) (pre_roV (sw_PL hP) hK hN (ci := 2) (k := 0) rfl rfl) rfl rfl hl.1 rfl (lv_room (Nat.le_of_ble_eq_true rfl)) d_L_law_182 ⟨by show _ ≤ 601024; omega, by show _ ≤ 7293034; omega⟩).run (fun r7 hr7 => ?_)
      subst hr7
      refine lv_iload hx hb d_L_law_185 (lv_at hl 1 rfl) ?_
      refine lv_icmp_eq (tgt := 192) hx hb d_L_law_187 (by decide) (fun c_187 => ?_) (fun c_187 => ?_)
      · refine lv_iload hx hb d_L_law_192 (lv_at hl 1 rfl) ?_
        refine lv_if_ne (tgt := 209) hx hb d_L_law_194 (by decide) (fun c_194 => ?_) (fun c_194 => ?_)
        · refine lv_goto (tgt := 587) hx hb d_L_law_209 (by decide) ?_
          obtain ⟨j5, ej5⟩ : ∃ y : Int32, y = nI (2 * cnt) + 2 := ⟨_, rfl⟩
          refine lv_iinc (v := j5) (lv' := [(4, .int j5), (6, .int r6), (5, .int 1), (0, .ref b), (1, .ref h), (2, .ref hm), (3, .ref qo)]) hx hb d_L_law_587 hl (k := 6) rfl (by rw [ej5]; rfl) (by decide) rfl (fun ls hl => ?_)
          replace ej5 : j5 = nI (2 * (cnt + 1)) := ej5.trans (nI_add (2 * cnt) 2)
          subst ej5
          refine lv_goto (tgt := 23) hx hb d_L_law_590 (by decide) ?_
          refine W.widen (k := 7 + 2 * (cnt + 1)) (n := 49182 + 12 * (cnt + 1)) (by omega) (by omega) ?_
          exact hk cn f nw v w z p0 s0 za ta ka 1 o _ _ ls hJ h16 (by omega) hP hD hS (lv_sub hl [3, 4, 5, 6, 0] rfl)
        · exact absurd c_194 (by decide)
      · exact absurd rfl c_187
    · exact absurd hthr (by rw [hm3]; exact (rng_no hm1 hm2 (by decide) (by decide)))
  · rcases hcs with ⟨hwt, hans, rfl⟩ | ⟨x, l1, l2, hwt, hL9, hans, ⟨hle, rfl⟩ | ⟨hlt, q, rfl⟩⟩
    · refine lv_istore (lv' := [(5, .int 0), (0, .ref b), (1, .ref h), (2, .ref hm), (3, .ref qo), (4, .int (nI (2 * cnt)))]) hx hb d_L_law_167 hl (by decide) rfl (fun ls hl => ?_)
      refine lv_aload_n hx hb d_L_law_169 rfl (lv_at hl 3 rfl) ?_
      refine lv_aload_n hx hb d_L_law_170 rfl (lv_at hl 1 rfl) ?_
      refine lv_iload hx hb d_L_law_171 (lv_at hl 5 rfl) ?_
      refine lv_iconst (v := 1) hx hb d_L_law_173 (by decide) ?_
      refine lv_iadd hx hb d_L_law_174 ?_
      refine lv_topi (fun y6 ey6 => ?_)
      obtain rfl : y6 = nI (2 * cnt + 1) := ey6.trans (nI_add (2 * cnt) 1)
      clear ey6
      refine va_sld hx hb hX hbl hbA hS (vp_in_nI (n := (2 * cnt + 1)) (by omega) (by omega)) d_L_law_175 ?_
      refine lv_topi (fun y7 ey7 => ?_)
      obtain rfl : y7 = xs (2 * cnt + 1) := ey7.trans (congrArg xs (nI_clamp (by omega)))
      clear ey7
      replace hP := sw_P_perm hP List.perm_append_comm
      replace hD := sw_D_perm2 hD List.perm_append_comm
      have hFc := sw_freeR hD hS hA
      have hPo := hP
      have hDo := hD
      refine va_calli (va_runV (As := [.int (xs (2 * cnt + 1))]) (rest := []) ⟨hx, hb, hml, hown, hg⟩ (c_M_take l D _ s.heap.size _ hm qs qt qm cI cJ cZ th cn nw v w z (hdB s0) za ta ka (xs (2 * cnt + 1)) (p0 ++ s0) f hJ.1 rfl rfl rfl hhd (by omega)) (cwV 1 hg (gw_V gw_401 gw_402 gw_403 gw_28 gw_404) rfl rfl rfl (by decide +kernel) ⟨Nat.le_of_ble_eq_true rfl, Nat.le_of_ble_eq_true rfl⟩) (pre_wrV (sw_PR hP) hK hN (sw_DR hD) hS hAN hN0 hE (ci := 2) (k := 0) rfl rfl) rfl rfl hl.1 rfl (lv_room (Nat.le_of_ble_eq_true rfl)) d_L_law_176 ⟨by show _ ≤ 601024; omega, by show _ ≤ 7293034; omega⟩) hS (fun q _ h => hFc q h) hFc (fun r6 u t H locs ht hvm hw hB hz1 hk1 hS => ?_)
      obtain ⟨hP1, hK1, hD1⟩ := hB
      rw [ht] at hP1
      obtain ⟨hP, hD⟩ := sw_join hPo hDo hk1 hFc hP1 hD1
      replace hP := sw_P_perm hP List.perm_append_comm
      replace hD := sw_D_perm2 hD List.perm_append_comm
      clear hPo hDo hP1 hK1 hD1 hk1 hz1 hFc ht hvm
      rcases hw with ⟨hm1, rfl⟩ | ⟨k2, hm1, hm2, hm3, hmc⟩
      · exact absurd hm1 (by rw [hkn]; exact (rng_no hk1 hk2 (by decide) (by decide)))
      · have hkk : k2 = k := (nI_eq (by omega) (by omega)).mp (hm3.symm.trans hkn)
        subst hkk
        rcases hmc with ⟨hwt2, rfl, rfl⟩ | ⟨x2, hwt2, rfl, ⟨hle2, za', ka', rfl, hI9⟩ | ⟨hlt2, za', ta', ka', rfl, hI9⟩⟩
        · replace hP : va_P D classes (mW hm qs qt qm cI cJ cZ 0 cn nw (v + 1) w z (hdB s0) za ta ka ++ (oW qo cL (vp_updL o 0 ans.toInt64) ++ cW h cn f (v + 1) w z p0 s0)) H := hP
          replace hD : va_D (fun q => s.heap.size ≤ q) (mW hm qs qt qm cI cJ cZ 0 cn nw (v + 1) w z (hdB s0) za ta ka ++ (oW qo cL (vp_updL o 0 ans.toInt64) ++ cW h cn f (v + 1) w z p0 s0)) := hD
          refine lv_istore (lv' := [(6, .int 0), (5, .int 0), (0, .ref b), (1, .ref h), (2, .ref hm), (3, .ref qo), (4, .int (nI (2 * cnt)))]) hx hb d_L_law_179 hl (by decide) rfl (fun ls hl => ?_)
          refine lv_aload_n hx hb d_L_law_181 rfl (lv_at hl 4 rfl) ?_
          refine vp_callSi (va_runV (As := []) (rest := []) ⟨hx, hb, hml, hown, hg⟩ (c_M_thrown l D _ hm qs qt qm cI cJ cZ 0 cn nw (v + 1) w z (hdB s0) za ta ka rfl rfl rfl) (cwV 0 hg (gw_V gw_385 gw_386 gw_387 gw_28 gw_388) rfl rfl rfl (by decide +kernel) ⟨Nat.le_of_ble_eq_true rfl, Nat.le_of_ble_eq_true rfl⟩) (pre_roV (sw_PL hP) hK hN (ci := 2) (k := 0) rfl rfl) rfl rfl hl.1 rfl (lv_room (Nat.le_of_ble_eq_true rfl)) d_L_law_182 ⟨by show _ ≤ 601024; omega, by show _ ≤ 7293034; omega⟩).run (fun r7 hr7 => ?_)
          subst hr7
          refine lv_iload hx hb d_L_law_185 (lv_at hl 1 rfl) ?_
          refine lv_icmp_eq (tgt := 192) hx hb d_L_law_187 (by decide) (fun c_187 => ?_) (fun c_187 => ?_)
          · refine lv_iload hx hb d_L_law_192 (lv_at hl 1 rfl) ?_
            refine lv_if_ne (tgt := 209) hx hb d_L_law_194 (by decide) (fun c_194 => ?_) (fun c_194 => ?_)
            · exact absurd rfl c_194
            · refine lv_aload_n hx hb d_L_law_197 rfl (lv_at hl 5 rfl) ?_
              refine lv_iconst (v := 0) hx hb d_L_law_198 (by decide) ?_
              refine va_lald hx hb hK hP 4 3 rfl rfl (vp_in_nI (n := 0) (by decide) (by decide)) d_L_law_199 ?_
              refine lv_topl (fun y8 ey8 => ?_)
              obtain rfl : y8 = (ans).toInt64 := ey8.trans (show (vp_updL o 0 ans.toInt64) 0 = _ from pk_uLs)
              clear ey8
              refine lv_iload hx hb d_L_law_200 (lv_at hl 0 rfl) ?_
              refine lv_i2l (v := Int32.toInt64 0) hx hb d_L_law_202 rfl ?_
              refine W.lcmp hx hb d_L_law_203 ?_
              refine lv_if_eq (tgt := 209) hx hb d_L_law_204 (by decide) (fun c_204 => ?_) (fun c_204 => ?_)
              · refine lv_goto (tgt := 587) hx hb d_L_law_209 (by decide) ?_
                obtain ⟨j9, ej9⟩ : ∃ y : Int32, y = nI (2 * cnt) + 2 := ⟨_, rfl⟩
                refine lv_iinc (v := j9) (lv' := [(4, .int j9), (6, .int 0), (5, .int 0), (0, .ref b), (1, .ref h), (2, .ref hm), (3, .ref qo)]) hx hb d_L_law_587 hl (k := 6) rfl (by rw [ej9]; rfl) (by decide) rfl (fun ls hl => ?_)
                replace ej9 : j9 = nI (2 * (cnt + 1)) := ej9.trans (nI_add (2 * cnt) 2)
                subst ej9
                refine lv_goto (tgt := 23) hx hb d_L_law_590 (by decide) ?_
                refine W.widen (k := 7 + 2 * (cnt + 1)) (n := 49182 + 12 * (cnt + 1)) (by omega) (by omega) ?_
                exact hk cn f nw (v + 1) w z p0 s0 za ta ka 0 (vp_updL o 0 ans.toInt64) _ _ ls hJ h16 (by omega) hP hD hS (lv_sub hl [3, 4, 5, 6, 0] rfl)
              · exact absurd ((lg_cmp_eq _ _).mpr (by rw [hans])) c_204
          · exact absurd rfl c_187
        · rw [hwt] at hwt2; cases hwt2
        · rw [hwt] at hwt2; cases hwt2
    · refine lv_istore (lv' := [(5, .int 0), (0, .ref b), (1, .ref h), (2, .ref hm), (3, .ref qo), (4, .int (nI (2 * cnt)))]) hx hb d_L_law_167 hl (by decide) rfl (fun ls hl => ?_)
      refine lv_aload_n hx hb d_L_law_169 rfl (lv_at hl 3 rfl) ?_
      refine lv_aload_n hx hb d_L_law_170 rfl (lv_at hl 1 rfl) ?_
      refine lv_iload hx hb d_L_law_171 (lv_at hl 5 rfl) ?_
      refine lv_iconst (v := 1) hx hb d_L_law_173 (by decide) ?_
      refine lv_iadd hx hb d_L_law_174 ?_
      refine lv_topi (fun y10 ey10 => ?_)
      obtain rfl : y10 = nI (2 * cnt + 1) := ey10.trans (nI_add (2 * cnt) 1)
      clear ey10
      refine va_sld hx hb hX hbl hbA hS (vp_in_nI (n := (2 * cnt + 1)) (by omega) (by omega)) d_L_law_175 ?_
      refine lv_topi (fun y11 ey11 => ?_)
      obtain rfl : y11 = xs (2 * cnt + 1) := ey11.trans (congrArg xs (nI_clamp (by omega)))
      clear ey11
      replace hP := sw_P_perm hP List.perm_append_comm
      replace hD := sw_D_perm2 hD List.perm_append_comm
      have hFc := sw_freeR hD hS hA
      have hPo := hP
      have hDo := hD
      refine va_calli (va_runV (As := [.int (xs (2 * cnt + 1))]) (rest := []) ⟨hx, hb, hml, hown, hg⟩ (c_M_take l D _ s.heap.size _ hm qs qt qm cI cJ cZ th cn nw v w z (hdB s0) za ta ka (xs (2 * cnt + 1)) (p0 ++ s0) f hJ.1 rfl rfl rfl hhd (by omega)) (cwV 1 hg (gw_V gw_401 gw_402 gw_403 gw_28 gw_404) rfl rfl rfl (by decide +kernel) ⟨Nat.le_of_ble_eq_true rfl, Nat.le_of_ble_eq_true rfl⟩) (pre_wrV (sw_PR hP) hK hN (sw_DR hD) hS hAN hN0 hE (ci := 2) (k := 0) rfl rfl) rfl rfl hl.1 rfl (lv_room (Nat.le_of_ble_eq_true rfl)) d_L_law_176 ⟨by show _ ≤ 601024; omega, by show _ ≤ 7293034; omega⟩) hS (fun q _ h => hFc q h) hFc (fun r6 u t H locs ht hvm hw hB hz1 hk1 hS => ?_)
      obtain ⟨hP1, hK1, hD1⟩ := hB
      rw [ht] at hP1
      obtain ⟨hP, hD⟩ := sw_join hPo hDo hk1 hFc hP1 hD1
      replace hP := sw_P_perm hP List.perm_append_comm
      replace hD := sw_D_perm2 hD List.perm_append_comm
      clear hPo hDo hP1 hK1 hD1 hk1 hz1 hFc ht hvm
      rcases hw with ⟨hm1, rfl⟩ | ⟨k2, hm1, hm2, hm3, hmc⟩
      · exact absurd hm1 (by rw [hkn]; exact (rng_no hk1 hk2 (by decide) (by decide)))
      · have hkk : k2 = k := (nI_eq (by omega) (by omega)).mp (hm3.symm.trans hkn)
        subst hkk
        rcases hmc with ⟨hwt2, rfl, rfl⟩ | ⟨x2, hwt2, rfl, ⟨hle2, za', ka', rfl, hI9⟩ | ⟨hlt2, za', ta', ka', rfl, hI9⟩⟩
        · rw [hwt] at hwt2; cases hwt2
        · obtain rfl : x = x2 := Option.some.inj (hwt.symm.trans hwt2)
          have hI8 := hI9 l1 l2 hL9
          rw [← tkM_mkB hJ.1] at hI8
          obtain ⟨p1, s1, hJ1, hh1, hw1⟩ := J_take1 hJ hL9 hI8
          rw [hw1, ← hh1] at hP hD
          replace hP : va_P D classes (mW hm qs qt qm cI cJ cZ 0 cn nw v w z (hdB s1) za' ta ka' ++ (oW qo cL (vp_updL o 0 ans.toInt64) ++ cW h cn f v w z p1 s1)) H := hP
          replace hD : va_D (fun q => s.heap.size ≤ q) (mW hm qs qt qm cI cJ cZ 0 cn nw v w z (hdB s1) za' ta ka' ++ (oW qo cL (vp_updL o 0 ans.toInt64) ++ cW h cn f v w z p1 s1)) := hD
          refine lv_istore (lv' := [(6, .int (nI x.2.1)), (5, .int 0), (0, .ref b), (1, .ref h), (2, .ref hm), (3, .ref qo), (4, .int (nI (2 * cnt)))]) hx hb d_L_law_179 hl (by decide) rfl (fun ls hl => ?_)
          refine lv_aload_n hx hb d_L_law_181 rfl (lv_at hl 4 rfl) ?_
          refine vp_callSi (va_runV (As := []) (rest := []) ⟨hx, hb, hml, hown, hg⟩ (c_M_thrown l D _ hm qs qt qm cI cJ cZ 0 cn nw v w z (hdB s1) za' ta ka' rfl rfl rfl) (cwV 0 hg (gw_V gw_385 gw_386 gw_387 gw_28 gw_388) rfl rfl rfl (by decide +kernel) ⟨Nat.le_of_ble_eq_true rfl, Nat.le_of_ble_eq_true rfl⟩) (pre_roV (sw_PL hP) hK hN (ci := 2) (k := 0) rfl rfl) rfl rfl hl.1 rfl (lv_room (Nat.le_of_ble_eq_true rfl)) d_L_law_182 ⟨by show _ ≤ 601024; omega, by show _ ≤ 7293034; omega⟩).run (fun r7 hr7 => ?_)
          subst hr7
          refine lv_iload hx hb d_L_law_185 (lv_at hl 1 rfl) ?_
          refine lv_icmp_eq (tgt := 192) hx hb d_L_law_187 (by decide) (fun c_187 => ?_) (fun c_187 => ?_)
          · refine lv_iload hx hb d_L_law_192 (lv_at hl 1 rfl) ?_
            refine lv_if_ne (tgt := 209) hx hb d_L_law_194 (by decide) (fun c_194 => ?_) (fun c_194 => ?_)
            · exact absurd rfl c_194
            · refine lv_aload_n hx hb d_L_law_197 rfl (lv_at hl 5 rfl) ?_
              refine lv_iconst (v := 0) hx hb d_L_law_198 (by decide) ?_
              refine va_lald hx hb hK hP 4 3 rfl rfl (vp_in_nI (n := 0) (by decide) (by decide)) d_L_law_199 ?_
              refine lv_topl (fun y12 ey12 => ?_)
              obtain rfl : y12 = (ans).toInt64 := ey12.trans (show (vp_updL o 0 ans.toInt64) 0 = _ from pk_uLs)
              clear ey12
              refine lv_iload hx hb d_L_law_200 (lv_at hl 0 rfl) ?_
              refine lv_i2l (v := Int32.toInt64 (nI x.2.1)) hx hb d_L_law_202 rfl ?_
              refine W.lcmp hx hb d_L_law_203 ?_
              refine lv_if_eq (tgt := 209) hx hb d_L_law_204 (by decide) (fun c_204 => ?_) (fun c_204 => ?_)
              · refine lv_goto (tgt := 587) hx hb d_L_law_209 (by decide) ?_
                obtain ⟨j13, ej13⟩ : ∃ y : Int32, y = nI (2 * cnt) + 2 := ⟨_, rfl⟩
                refine lv_iinc (v := j13) (lv' := [(4, .int j13), (6, .int (nI x.2.1)), (5, .int 0), (0, .ref b), (1, .ref h), (2, .ref hm), (3, .ref qo)]) hx hb d_L_law_587 hl (k := 6) rfl (by rw [ej13]; rfl) (by decide) rfl (fun ls hl => ?_)
                replace ej13 : j13 = nI (2 * (cnt + 1)) := ej13.trans (nI_add (2 * cnt) 2)
                subst ej13
                refine lv_goto (tgt := 23) hx hb d_L_law_590 (by decide) ?_
                refine W.widen (k := 7 + 2 * (cnt + 1)) (n := 49182 + 12 * (cnt + 1)) (by omega) (by omega) ?_
                exact hk cn f nw v w z p1 s1 za' ta ka' 0 (vp_updL o 0 ans.toInt64) _ _ ls hJ1 h16 (by omega) hP hD hS (lv_sub hl [3, 4, 5, 6, 0] rfl)
              · exact absurd ((lg_cmp_eq _ _).mpr (by rw [hans])) c_204
          · exact absurd rfl c_187
        · obtain rfl : x = x2 := Option.some.inj (hwt.symm.trans hwt2)
          omega
    · refine lv_istore (lv' := [(5, .int 0), (0, .ref b), (1, .ref h), (2, .ref hm), (3, .ref qo), (4, .int (nI (2 * cnt)))]) hx hb d_L_law_167 hl (by decide) rfl (fun ls hl => ?_)
      refine lv_aload_n hx hb d_L_law_169 rfl (lv_at hl 3 rfl) ?_
      refine lv_aload_n hx hb d_L_law_170 rfl (lv_at hl 1 rfl) ?_
      refine lv_iload hx hb d_L_law_171 (lv_at hl 5 rfl) ?_
      refine lv_iconst (v := 1) hx hb d_L_law_173 (by decide) ?_
      refine lv_iadd hx hb d_L_law_174 ?_
      refine lv_topi (fun y14 ey14 => ?_)
      obtain rfl : y14 = nI (2 * cnt + 1) := ey14.trans (nI_add (2 * cnt) 1)
      clear ey14
      refine va_sld hx hb hX hbl hbA hS (vp_in_nI (n := (2 * cnt + 1)) (by omega) (by omega)) d_L_law_175 ?_
      refine lv_topi (fun y15 ey15 => ?_)
      obtain rfl : y15 = xs (2 * cnt + 1) := ey15.trans (congrArg xs (nI_clamp (by omega)))
      clear ey15
      replace hP := sw_P_perm hP List.perm_append_comm
      replace hD := sw_D_perm2 hD List.perm_append_comm
      have hFc := sw_freeR hD hS hA
      have hPo := hP
      have hDo := hD
      refine va_calli (va_runV (As := [.int (xs (2 * cnt + 1))]) (rest := []) ⟨hx, hb, hml, hown, hg⟩ (c_M_take l D _ s.heap.size _ hm qs qt qm cI cJ cZ th cn nw v w z (hdB s0) za ta ka (xs (2 * cnt + 1)) (p0 ++ s0) f hJ.1 rfl rfl rfl hhd (by omega)) (cwV 1 hg (gw_V gw_401 gw_402 gw_403 gw_28 gw_404) rfl rfl rfl (by decide +kernel) ⟨Nat.le_of_ble_eq_true rfl, Nat.le_of_ble_eq_true rfl⟩) (pre_wrV (sw_PR hP) hK hN (sw_DR hD) hS hAN hN0 hE (ci := 2) (k := 0) rfl rfl) rfl rfl hl.1 rfl (lv_room (Nat.le_of_ble_eq_true rfl)) d_L_law_176 ⟨by show _ ≤ 601024; omega, by show _ ≤ 7293034; omega⟩) hS (fun q _ h => hFc q h) hFc (fun r6 u t H locs ht hvm hw hB hz1 hk1 hS => ?_)
      obtain ⟨hP1, hK1, hD1⟩ := hB
      rw [ht] at hP1
      obtain ⟨hP, hD⟩ := sw_join hPo hDo hk1 hFc hP1 hD1
      replace hP := sw_P_perm hP List.perm_append_comm
      replace hD := sw_D_perm2 hD List.perm_append_comm
      clear hPo hDo hP1 hK1 hD1 hk1 hz1 hFc ht hvm
      rcases hw with ⟨hm1, rfl⟩ | ⟨k2, hm1, hm2, hm3, hmc⟩
      · exact absurd hm1 (by rw [hkn]; exact (rng_no hk1 hk2 (by decide) (by decide)))
      · have hkk : k2 = k := (nI_eq (by omega) (by omega)).mp (hm3.symm.trans hkn)
        subst hkk
        rcases hmc with ⟨hwt2, rfl, rfl⟩ | ⟨x2, hwt2, rfl, ⟨hle2, za', ka', rfl, hI9⟩ | ⟨hlt2, za', ta', ka', rfl, hI9⟩⟩
        · rw [hwt] at hwt2; cases hwt2
        · obtain rfl : x = x2 := Option.some.inj (hwt.symm.trans hwt2)
          omega
        · obtain rfl : x = x2 := Option.some.inj (hwt.symm.trans hwt2)
          have hI8 := hI9 q l1 l2 hL9
          rw [← tkM_mkB hJ.1] at hI8
          obtain ⟨p1, s1, hJ1, hh1, hw1⟩ := J_take2 hJ hL9 hI8
          rw [hw1, ← hh1] at hP hD
          replace hP : va_P D classes (mW hm qs qt qm cI cJ cZ 0 cn (nw + 1) v w z (hdB s1) za' ta' ka' ++ (oW qo cL (vp_updL o 0 ans.toInt64) ++ cW h cn (f + 1) v w z p1 s1)) H := hP
          replace hD : va_D (fun q => s.heap.size ≤ q) (mW hm qs qt qm cI cJ cZ 0 cn (nw + 1) v w z (hdB s1) za' ta' ka' ++ (oW qo cL (vp_updL o 0 ans.toInt64) ++ cW h cn (f + 1) v w z p1 s1)) := hD
          refine lv_istore (lv' := [(6, .int (nI x.2.1)), (5, .int 0), (0, .ref b), (1, .ref h), (2, .ref hm), (3, .ref qo), (4, .int (nI (2 * cnt)))]) hx hb d_L_law_179 hl (by decide) rfl (fun ls hl => ?_)
          refine lv_aload_n hx hb d_L_law_181 rfl (lv_at hl 4 rfl) ?_
          refine vp_callSi (va_runV (As := []) (rest := []) ⟨hx, hb, hml, hown, hg⟩ (c_M_thrown l D _ hm qs qt qm cI cJ cZ 0 cn (nw + 1) v w z (hdB s1) za' ta' ka' rfl rfl rfl) (cwV 0 hg (gw_V gw_385 gw_386 gw_387 gw_28 gw_388) rfl rfl rfl (by decide +kernel) ⟨Nat.le_of_ble_eq_true rfl, Nat.le_of_ble_eq_true rfl⟩) (pre_roV (sw_PL hP) hK hN (ci := 2) (k := 0) rfl rfl) rfl rfl hl.1 rfl (lv_room (Nat.le_of_ble_eq_true rfl)) d_L_law_182 ⟨by show _ ≤ 601024; omega, by show _ ≤ 7293034; omega⟩).run (fun r7 hr7 => ?_)
          subst hr7
          refine lv_iload hx hb d_L_law_185 (lv_at hl 1 rfl) ?_
          refine lv_icmp_eq (tgt := 192) hx hb d_L_law_187 (by decide) (fun c_187 => ?_) (fun c_187 => ?_)
          · refine lv_iload hx hb d_L_law_192 (lv_at hl 1 rfl) ?_
            refine lv_if_ne (tgt := 209) hx hb d_L_law_194 (by decide) (fun c_194 => ?_) (fun c_194 => ?_)
            · exact absurd rfl c_194
            · refine lv_aload_n hx hb d_L_law_197 rfl (lv_at hl 5 rfl) ?_
              refine lv_iconst (v := 0) hx hb d_L_law_198 (by decide) ?_
              refine va_lald hx hb hK hP 4 3 rfl rfl (vp_in_nI (n := 0) (by decide) (by decide)) d_L_law_199 ?_
              refine lv_topl (fun y16 ey16 => ?_)
              obtain rfl : y16 = (ans).toInt64 := ey16.trans (show (vp_updL o 0 ans.toInt64) 0 = _ from pk_uLs)
              clear ey16
              refine lv_iload hx hb d_L_law_200 (lv_at hl 0 rfl) ?_
              refine lv_i2l (v := Int32.toInt64 (nI x.2.1)) hx hb d_L_law_202 rfl ?_
              refine W.lcmp hx hb d_L_law_203 ?_
              refine lv_if_eq (tgt := 209) hx hb d_L_law_204 (by decide) (fun c_204 => ?_) (fun c_204 => ?_)
              · refine lv_goto (tgt := 587) hx hb d_L_law_209 (by decide) ?_
                obtain ⟨j17, ej17⟩ : ∃ y : Int32, y = nI (2 * cnt) + 2 := ⟨_, rfl⟩
                refine lv_iinc (v := j17) (lv' := [(4, .int j17), (6, .int (nI x.2.1)), (5, .int 0), (0, .ref b), (1, .ref h), (2, .ref hm), (3, .ref qo)]) hx hb d_L_law_587 hl (k := 6) rfl (by rw [ej17]; rfl) (by decide) rfl (fun ls hl => ?_)
                replace ej17 : j17 = nI (2 * (cnt + 1)) := ej17.trans (nI_add (2 * cnt) 2)
                subst ej17
                refine lv_goto (tgt := 23) hx hb d_L_law_590 (by decide) ?_
                refine W.widen (k := 7 + 2 * (cnt + 1)) (n := 49182 + 12 * (cnt + 1)) (by omega) (by omega) ?_
                exact hk cn (f + 1) (nw + 1) v w z p1 s1 za' ta' ka' 0 (vp_updL o 0 ans.toInt64) _ _ ls hJ1 h16 (by omega) hP hD hS (lv_sub hl [3, 4, 5, 6, 0] rfl)
              · exact absurd ((lg_cmp_eq _ _).mpr (by rw [hans])) c_204
          · exact absurd rfl c_187
set_option maxHeartbeats 4000000 in
set_option maxRecDepth 100000 in
theorem lo_give {p : Program} {l : Launch} {e : Env} {s : State} {m : MethodId} {below : List Frame} {meth : Method} {c : Code} {D : va_G} {b L : Nat} {xs : Nat → Int32} {h hm qs qt qm qo : Nat} {cI cJ cZ cL : ClassId} (hl9 : l.stackTraces = false) (C0 : lw_At p s m meth c b L xs) (hK : va_K D classes [(cI, .int), (cJ, .int), (cZ, .boolean), (cL, .long)] s) (hN : NW s) (hE : EV s.heap.size s s.heap) (cnt : Nat) (hc : 2 * cnt + 2 ≤ L) (hL : L ≤ 1024) (hk : LW p l e s m below meth c D b h hm qs qt qm qo cI cJ cZ cL (cnt + 1)) (cn f nw : Nat) (v w z : Int32) (p0 s0 : List AP) (za ta ka : Nat → Int32) (th : Int32) (o : Nat → Int64) (H : Heap) (locs : List Loc) (ls : Array Slot) (hJ : JJ cn f nw p0 s0 za ta ka) (h16 : 16 ≤ cn) (hnw : nw ≤ 5001 * cnt) (hP : va_P D classes (mW hm qs qt qm cI cJ cZ th cn nw v w z (hdB s0) za ta ka ++ (oW qo cL o ++ cW h cn f v w z p0 s0)) H) (hD : va_D (fun q => s.heap.size ≤ q) (mW hm qs qt qm cI cJ cZ th cn nw v w z (hdB s0) za ta ka ++ (oW qo cL o ++ cW h cn f v w z p0 s0))) (hS : va_S (fun q => s.heap.size ≤ q) s.heap H locs) (hl : lv_has ls 7 [(0, .ref b), (1, .ref h), (2, .ref hm), (3, .ref qo), (4, .int (nI (2 * cnt)))]) : W p l e room_1 s m #[Value.ref b] below meth c H locs (7 + 2 * cnt) (49182 + 12 * cnt) (lw_Z below #[Value.ref b] s) (F0 m 212 ls []) := by
  obtain ⟨hx, hb, hr, hml, hown, hts, hX, hbl, hlocks, hgv⟩ := C0
  have hown : s.vm.findClass R_L = some m.cls := hown
  have hg := lw_hg hts
  have hA : ∀ q : Nat, s.heap.size ≤ q → (fun q : Nat => s.heap.size ≤ q) q := fun _ h => h
  have hbA : ¬ (fun q : Nat => s.heap.size ≤ q) b := Nat.not_le.mpr hbl
  have hAN : ∀ q : Nat, (fun q : Nat => s.heap.size ≤ q) q → s.heap.size ≤ q := fun _ h => h
  have hN0 := Nat.le_refl s.heap.size
  have hnb : nw + 5001 < 2 ^ 30 := by omega
  have hcn := hJ.1.2.2.1
  have hBd := hJ.bd
  have hhd : hdB s0 < 2 ^ 31 := by cases s0 with | nil => decide | cons y9 r9 => exact Nat.lt_trans (hBd y9 (by simp)).1 (by decide)
  refine lv_aload_n hx hb d_L_law_212 rfl (lv_at hl 1 rfl) ?_
  refine lv_aload_n hx hb d_L_law_213 rfl (lv_at hl 0 rfl) ?_
  refine lv_iload hx hb d_L_law_214 (lv_at hl 4 rfl) ?_
  refine lv_iconst (v := 1) hx hb d_L_law_216 (by decide) ?_
  refine lv_iadd hx hb d_L_law_217 ?_
  refine lv_topi (fun y1 ey1 => ?_)
  obtain rfl : y1 = nI (2 * cnt + 1) := ey1.trans (nI_add (2 * cnt) 1)
  clear ey1
  refine va_sld hx hb hX hbl hbA hS (vp_in_nI (n := (2 * cnt + 1)) (by omega) (by omega)) d_L_law_218 ?_
  refine lv_topi (fun y2 ey2 => ?_)
  obtain rfl : y2 = xs (2 * cnt + 1) := ey2.trans (congrArg xs (nI_clamp (by omega)))
  clear ey2
  refine lv_aload_n hx hb d_L_law_219 rfl (lv_at hl 3 rfl) ?_
  have hFc := sw_freeR hD hS hA
  have hPo := hP
  have hDo := hD
  refine va_calli (vx_runSW (As := [.ref h, .int (xs (2 * cnt + 1)), .ref qo]) (rest := []) ⟨hx, hb, hml, hown, hg⟩ (c_L_give l hl9 D _ s.heap.size _ qo cL o h cn f v w z p0 s0 (xs (2 * cnt + 1)) rfl) (vx_cwSW 3 hg (gw_S gw_233 gw_234 gw_25 gw_235) rfl rfl rfl (by decide +kernel) ⟨Nat.le_of_ble_eq_true rfl, Nat.le_of_ble_eq_true rfl⟩) (pre_wrS (sw_PR hP) hK hN (sw_DR hD) hS hAN hN0 hE) rfl rfl hl.1 rfl (lv_room (Nat.le_of_ble_eq_true rfl)) d_L_law_220 ⟨by show _ ≤ 601024; omega, by show _ ≤ 7293034; omega⟩) hS (fun q _ h => hFc q h) hFc (fun r u t H locs ht hvm hw hB hz1 hk1 hS => ?_)
  obtain ⟨hP1, hK1, hD1⟩ := hB
  rw [ht] at hP1
  obtain ⟨hP, hD⟩ := sw_join hPo hDo hk1 hFc hP1 hD1
  clear hPo hDo hP1 hK1 hD1 hk1 hz1 hFc ht hvm
  rcases hw with ⟨rfl, hux, rfl⟩ | ⟨rfl, ans, ws1, ⟨x, l1, l2, hux, hL9, hans, rfl⟩, rfl⟩
  · refine lv_istore (lv' := [(5, .int 1), (0, .ref b), (1, .ref h), (2, .ref hm), (3, .ref qo), (4, .int (nI (2 * cnt)))]) hx hb d_L_law_223 hl (by decide) rfl (fun ls hl => ?_)
    refine lv_aload_n hx hb d_L_law_225 rfl (lv_at hl 3 rfl) ?_
    refine lv_aload_n hx hb d_L_law_226 rfl (lv_at hl 1 rfl) ?_
    refine lv_iload hx hb d_L_law_227 (lv_at hl 5 rfl) ?_
    refine lv_iconst (v := 1) hx hb d_L_law_229 (by decide) ?_
    refine lv_iadd hx hb d_L_law_230 ?_
    refine lv_topi (fun y3 ey3 => ?_)
    obtain rfl : y3 = nI (2 * cnt + 1) := ey3.trans (nI_add (2 * cnt) 1)
    clear ey3
    refine va_sld hx hb hX hbl hbA hS (vp_in_nI (n := (2 * cnt + 1)) (by omega) (by omega)) d_L_law_231 ?_
    refine lv_topi (fun y4 ey4 => ?_)
    obtain rfl : y4 = xs (2 * cnt + 1) := ey4.trans (congrArg xs (nI_clamp (by omega)))
    clear ey4
    replace hP := sw_P_perm hP List.perm_append_comm
    replace hD := sw_D_perm2 hD List.perm_append_comm
    have hFc := sw_freeR hD hS hA
    have hPo := hP
    have hDo := hD
    refine va_calli (va_runV (As := [.int (xs (2 * cnt + 1))]) (rest := []) ⟨hx, hb, hml, hown, hg⟩ (c_M_give l D _ s.heap.size _ hm qs qt qm cI cJ cZ th cn nw v w z (hdB s0) za ta ka (xs (2 * cnt + 1)) (p0 ++ s0) f hJ.1 rfl rfl rfl (by omega)) (cwV 1 hg (gw_V gw_413 gw_414 gw_415 gw_28 gw_416) rfl rfl rfl (by decide +kernel) ⟨Nat.le_of_ble_eq_true rfl, Nat.le_of_ble_eq_true rfl⟩) (pre_wrV (sw_PR hP) hK hN (sw_DR hD) hS hAN hN0 hE (ci := 2) (k := 0) rfl rfl) rfl rfl hl.1 rfl (lv_room (Nat.le_of_ble_eq_true rfl)) d_L_law_232 ⟨by show _ ≤ 601024; omega, by show _ ≤ 7293034; omega⟩) hS (fun q _ h => hFc q h) hFc (fun r6 u t H locs ht hvm hw hB hz1 hk1 hS => ?_)
    obtain ⟨hP1, hK1, hD1⟩ := hB
    rw [ht] at hP1
    obtain ⟨hP, hD⟩ := sw_join hPo hDo hk1 hFc hP1 hD1
    replace hP := sw_P_perm hP List.perm_append_comm
    replace hD := sw_D_perm2 hD List.perm_append_comm
    clear hPo hDo hP1 hK1 hD1 hk1 hz1 hFc ht hvm
    rcases hw with ⟨hu2, rfl, rfl⟩ | ⟨x2, hu2, rfl, za', ta', ka', rfl, hI9⟩
    · replace hP : va_P D classes (mW hm qs qt qm cI cJ cZ 1 cn nw v w z (hdB s0) za ta ka ++ (oW qo cL o ++ cW h cn f v w z p0 s0)) H := hP
      replace hD : va_D (fun q => s.heap.size ≤ q) (mW hm qs qt qm cI cJ cZ 1 cn nw v w z (hdB s0) za ta ka ++ (oW qo cL o ++ cW h cn f v w z p0 s0)) := hD
      refine lv_istore (lv' := [(6, .int 0), (5, .int 1), (0, .ref b), (1, .ref h), (2, .ref hm), (3, .ref qo), (4, .int (nI (2 * cnt)))]) hx hb d_L_law_235 hl (by decide) rfl (fun ls hl => ?_)
      refine lv_aload_n hx hb d_L_law_237 rfl (lv_at hl 4 rfl) ?_
      refine vp_callSi (va_runV (As := []) (rest := []) ⟨hx, hb, hml, hown, hg⟩ (c_M_thrown l D _ hm qs qt qm cI cJ cZ 1 cn nw v w z (hdB s0) za ta ka rfl rfl rfl) (cwV 0 hg (gw_V gw_385 gw_386 gw_387 gw_28 gw_388) rfl rfl rfl (by decide +kernel) ⟨Nat.le_of_ble_eq_true rfl, Nat.le_of_ble_eq_true rfl⟩) (pre_roV (sw_PL hP) hK hN (ci := 2) (k := 0) rfl rfl) rfl rfl hl.1 rfl (lv_room (Nat.le_of_ble_eq_true rfl)) d_L_law_238 ⟨by show _ ≤ 601024; omega, by show _ ≤ 7293034; omega⟩).run (fun r7 hr7 => ?_)
      subst hr7
      refine lv_iload hx hb d_L_law_241 (lv_at hl 1 rfl) ?_
      refine lv_icmp_eq (tgt := 248) hx hb d_L_law_243 (by decide) (fun c_243 => ?_) (fun c_243 => ?_)
      · refine lv_iload hx hb d_L_law_248 (lv_at hl 1 rfl) ?_
        refine lv_if_ne (tgt := 265) hx hb d_L_law_250 (by decide) (fun c_250 => ?_) (fun c_250 => ?_)
        · refine lv_goto (tgt := 587) hx hb d_L_law_265 (by decide) ?_
          obtain ⟨j5, ej5⟩ : ∃ y : Int32, y = nI (2 * cnt) + 2 := ⟨_, rfl⟩
          refine lv_iinc (v := j5) (lv' := [(4, .int j5), (6, .int 0), (5, .int 1), (0, .ref b), (1, .ref h), (2, .ref hm), (3, .ref qo)]) hx hb d_L_law_587 hl (k := 6) rfl (by rw [ej5]; rfl) (by decide) rfl (fun ls hl => ?_)
          replace ej5 : j5 = nI (2 * (cnt + 1)) := ej5.trans (nI_add (2 * cnt) 2)
          subst ej5
          refine lv_goto (tgt := 23) hx hb d_L_law_590 (by decide) ?_
          refine W.widen (k := 7 + 2 * (cnt + 1)) (n := 49182 + 12 * (cnt + 1)) (by omega) (by omega) ?_
          exact hk cn f nw v w z p0 s0 za ta ka 1 o _ _ ls hJ h16 (by omega) hP hD hS (lv_sub hl [3, 4, 5, 6, 0] rfl)
        · exact absurd c_250 (by decide)
      · exact absurd rfl c_243
    · rw [hux] at hu2; cases hu2
  · refine lv_istore (lv' := [(5, .int 0), (0, .ref b), (1, .ref h), (2, .ref hm), (3, .ref qo), (4, .int (nI (2 * cnt)))]) hx hb d_L_law_223 hl (by decide) rfl (fun ls hl => ?_)
    refine lv_aload_n hx hb d_L_law_225 rfl (lv_at hl 3 rfl) ?_
    refine lv_aload_n hx hb d_L_law_226 rfl (lv_at hl 1 rfl) ?_
    refine lv_iload hx hb d_L_law_227 (lv_at hl 5 rfl) ?_
    refine lv_iconst (v := 1) hx hb d_L_law_229 (by decide) ?_
    refine lv_iadd hx hb d_L_law_230 ?_
    refine lv_topi (fun y6 ey6 => ?_)
    obtain rfl : y6 = nI (2 * cnt + 1) := ey6.trans (nI_add (2 * cnt) 1)
    clear ey6
    refine va_sld hx hb hX hbl hbA hS (vp_in_nI (n := (2 * cnt + 1)) (by omega) (by omega)) d_L_law_231 ?_
    refine lv_topi (fun y7 ey7 => ?_)
    obtain rfl : y7 = xs (2 * cnt + 1) := ey7.trans (congrArg xs (nI_clamp (by omega)))
    clear ey7
    replace hP := sw_P_perm hP List.perm_append_comm
    replace hD := sw_D_perm2 hD List.perm_append_comm
    have hFc := sw_freeR hD hS hA
    have hPo := hP
    have hDo := hD
    refine va_calli (va_runV (As := [.int (xs (2 * cnt + 1))]) (rest := []) ⟨hx, hb, hml, hown, hg⟩ (c_M_give l D _ s.heap.size _ hm qs qt qm cI cJ cZ th cn nw v w z (hdB s0) za ta ka (xs (2 * cnt + 1)) (p0 ++ s0) f hJ.1 rfl rfl rfl (by omega)) (cwV 1 hg (gw_V gw_413 gw_414 gw_415 gw_28 gw_416) rfl rfl rfl (by decide +kernel) ⟨Nat.le_of_ble_eq_true rfl, Nat.le_of_ble_eq_true rfl⟩) (pre_wrV (sw_PR hP) hK hN (sw_DR hD) hS hAN hN0 hE (ci := 2) (k := 0) rfl rfl) rfl rfl hl.1 rfl (lv_room (Nat.le_of_ble_eq_true rfl)) d_L_law_232 ⟨by show _ ≤ 601024; omega, by show _ ≤ 7293034; omega⟩) hS (fun q _ h => hFc q h) hFc (fun r6 u t H locs ht hvm hw hB hz1 hk1 hS => ?_)
    obtain ⟨hP1, hK1, hD1⟩ := hB
    rw [ht] at hP1
    obtain ⟨hP, hD⟩ := sw_join hPo hDo hk1 hFc hP1 hD1
    replace hP := sw_P_perm hP List.perm_append_comm
    replace hD := sw_D_perm2 hD List.perm_append_comm
    clear hPo hDo hP1 hK1 hD1 hk1 hz1 hFc ht hvm
    rcases hw with ⟨hu2, rfl, rfl⟩ | ⟨x2, hu2, rfl, za', ta', ka', rfl, hI9⟩
    · rw [hux] at hu2; cases hu2
    · obtain rfl : x = x2 := Option.some.inj (hux.symm.trans hu2)
      obtain ⟨p1, s1, hJ1, hh1, hw1⟩ := J_give hJ hL9 (hI9 l1 l2 hL9)
      rw [hw1, ← hh1] at hP hD
      replace hP : va_P D classes (mW hm qs qt qm cI cJ cZ 0 cn (nw + 1) v w z (hdB s1) za' ta' ka' ++ (oW qo cL (vp_updL o 0 ans.toInt64) ++ cW h cn (f + 1) v w z p1 s1)) H := hP
      replace hD : va_D (fun q => s.heap.size ≤ q) (mW hm qs qt qm cI cJ cZ 0 cn (nw + 1) v w z (hdB s1) za' ta' ka' ++ (oW qo cL (vp_updL o 0 ans.toInt64) ++ cW h cn (f + 1) v w z p1 s1)) := hD
      refine lv_istore (lv' := [(6, .int (nI x.2.2.1)), (5, .int 0), (0, .ref b), (1, .ref h), (2, .ref hm), (3, .ref qo), (4, .int (nI (2 * cnt)))]) hx hb d_L_law_235 hl (by decide) rfl (fun ls hl => ?_)
      refine lv_aload_n hx hb d_L_law_237 rfl (lv_at hl 4 rfl) ?_
      refine vp_callSi (va_runV (As := []) (rest := []) ⟨hx, hb, hml, hown, hg⟩ (c_M_thrown l D _ hm qs qt qm cI cJ cZ 0 cn (nw + 1) v w z (hdB s1) za' ta' ka' rfl rfl rfl) (cwV 0 hg (gw_V gw_385 gw_386 gw_387 gw_28 gw_388) rfl rfl rfl (by decide +kernel) ⟨Nat.le_of_ble_eq_true rfl, Nat.le_of_ble_eq_true rfl⟩) (pre_roV (sw_PL hP) hK hN (ci := 2) (k := 0) rfl rfl) rfl rfl hl.1 rfl (lv_room (Nat.le_of_ble_eq_true rfl)) d_L_law_238 ⟨by show _ ≤ 601024; omega, by show _ ≤ 7293034; omega⟩).run (fun r7 hr7 => ?_)
      subst hr7
      refine lv_iload hx hb d_L_law_241 (lv_at hl 1 rfl) ?_
      refine lv_icmp_eq (tgt := 248) hx hb d_L_law_243 (by decide) (fun c_243 => ?_) (fun c_243 => ?_)
      · refine lv_iload hx hb d_L_law_248 (lv_at hl 1 rfl) ?_
        refine lv_if_ne (tgt := 265) hx hb d_L_law_250 (by decide) (fun c_250 => ?_) (fun c_250 => ?_)
        · exact absurd rfl c_250
        · refine lv_aload_n hx hb d_L_law_253 rfl (lv_at hl 5 rfl) ?_
          refine lv_iconst (v := 0) hx hb d_L_law_254 (by decide) ?_
          refine va_lald hx hb hK hP 4 3 rfl rfl (vp_in_nI (n := 0) (by decide) (by decide)) d_L_law_255 ?_
          refine lv_topl (fun y8 ey8 => ?_)
          obtain rfl : y8 = (ans).toInt64 := ey8.trans (show (vp_updL o 0 ans.toInt64) 0 = _ from pk_uLs)
          clear ey8
          refine lv_iload hx hb d_L_law_256 (lv_at hl 0 rfl) ?_
          refine lv_i2l (v := Int32.toInt64 (nI x.2.2.1)) hx hb d_L_law_258 rfl ?_
          refine W.lcmp hx hb d_L_law_259 ?_
          refine lv_if_eq (tgt := 265) hx hb d_L_law_260 (by decide) (fun c_260 => ?_) (fun c_260 => ?_)
          · refine lv_goto (tgt := 587) hx hb d_L_law_265 (by decide) ?_
            obtain ⟨j9, ej9⟩ : ∃ y : Int32, y = nI (2 * cnt) + 2 := ⟨_, rfl⟩
            refine lv_iinc (v := j9) (lv' := [(4, .int j9), (6, .int (nI x.2.2.1)), (5, .int 0), (0, .ref b), (1, .ref h), (2, .ref hm), (3, .ref qo)]) hx hb d_L_law_587 hl (k := 6) rfl (by rw [ej9]; rfl) (by decide) rfl (fun ls hl => ?_)
            replace ej9 : j9 = nI (2 * (cnt + 1)) := ej9.trans (nI_add (2 * cnt) 2)
            subst ej9
            refine lv_goto (tgt := 23) hx hb d_L_law_590 (by decide) ?_
            refine W.widen (k := 7 + 2 * (cnt + 1)) (n := 49182 + 12 * (cnt + 1)) (by omega) (by omega) ?_
            exact hk cn (f + 1) (nw + 1) v w z p1 s1 za' ta' ka' 0 (vp_updL o 0 ans.toInt64) _ _ ls hJ1 h16 (by omega) hP hD hS (lv_sub hl [3, 4, 5, 6, 0] rfl)
          · exact absurd ((lg_cmp_eq _ _).mpr (by rw [hans])) c_260
      · exact absurd rfl c_243
set_option maxHeartbeats 4000000 in
set_option maxRecDepth 100000 in
theorem lo_mark {p : Program} {l : Launch} {e : Env} {s : State} {m : MethodId} {below : List Frame} {meth : Method} {c : Code} {D : va_G} {b L : Nat} {xs : Nat → Int32} {h hm qs qt qm qo : Nat} {cI cJ cZ cL : ClassId} (hl9 : l.stackTraces = false) (C0 : lw_At p s m meth c b L xs) (hK : va_K D classes [(cI, .int), (cJ, .int), (cZ, .boolean), (cL, .long)] s) (hN : NW s) (hE : EV s.heap.size s s.heap) (cnt : Nat) (hc : 2 * cnt + 2 ≤ L) (hL : L ≤ 1024) (hk : LW p l e s m below meth c D b h hm qs qt qm qo cI cJ cZ cL (cnt + 1)) (cn f nw : Nat) (v w z : Int32) (p0 s0 : List AP) (za ta ka : Nat → Int32) (th : Int32) (o : Nat → Int64) (H : Heap) (locs : List Loc) (ls : Array Slot) (hJ : JJ cn f nw p0 s0 za ta ka) (h16 : 16 ≤ cn) (hnw : nw ≤ 5001 * cnt) (hP : va_P D classes (mW hm qs qt qm cI cJ cZ th cn nw v w z (hdB s0) za ta ka ++ (oW qo cL o ++ cW h cn f v w z p0 s0)) H) (hD : va_D (fun q => s.heap.size ≤ q) (mW hm qs qt qm cI cJ cZ th cn nw v w z (hdB s0) za ta ka ++ (oW qo cL o ++ cW h cn f v w z p0 s0))) (hS : va_S (fun q => s.heap.size ≤ q) s.heap H locs) (hl : lv_has ls 7 [(0, .ref b), (1, .ref h), (2, .ref hm), (3, .ref qo), (4, .int (nI (2 * cnt)))]) : W p l e room_1 s m #[Value.ref b] below meth c H locs (7 + 2 * cnt) (49182 + 12 * cnt) (lw_Z below #[Value.ref b] s) (F0 m 268 ls []) := by
  obtain ⟨hx, hb, hr, hml, hown, hts, hX, hbl, hlocks, hgv⟩ := C0
  have hown : s.vm.findClass R_L = some m.cls := hown
  have hg := lw_hg hts
  have hA : ∀ q : Nat, s.heap.size ≤ q → (fun q : Nat => s.heap.size ≤ q) q := fun _ h => h
  have hbA : ¬ (fun q : Nat => s.heap.size ≤ q) b := Nat.not_le.mpr hbl
  have hAN : ∀ q : Nat, (fun q : Nat => s.heap.size ≤ q) q → s.heap.size ≤ q := fun _ h => h
  have hN0 := Nat.le_refl s.heap.size
  have hnb : nw + 5001 < 2 ^ 30 := by omega
  have hcn := hJ.1.2.2.1
  have hBd := hJ.bd
  have hhd : hdB s0 < 2 ^ 31 := by cases s0 with | nil => decide | cons y9 r9 => exact Nat.lt_trans (hBd y9 (by simp)).1 (by decide)
  refine lv_aload_n hx hb d_L_law_268 rfl (lv_at hl 1 rfl) ?_
  refine lv_aload_n hx hb d_L_law_269 rfl (lv_at hl 0 rfl) ?_
  refine lv_iload hx hb d_L_law_270 (lv_at hl 4 rfl) ?_
  refine lv_iconst (v := 1) hx hb d_L_law_272 (by decide) ?_
  refine lv_iadd hx hb d_L_law_273 ?_
  refine lv_topi (fun y1 ey1 => ?_)
  obtain rfl : y1 = nI (2 * cnt + 1) := ey1.trans (nI_add (2 * cnt) 1)
  clear ey1
  refine va_sld hx hb hX hbl hbA hS (vp_in_nI (n := (2 * cnt + 1)) (by omega) (by omega)) d_L_law_274 ?_
  refine lv_topi (fun y2 ey2 => ?_)
  obtain rfl : y2 = xs (2 * cnt + 1) := ey2.trans (congrArg xs (nI_clamp (by omega)))
  clear ey2
  refine lv_aload_n hx hb d_L_law_275 rfl (lv_at hl 3 rfl) ?_
  have hFc := sw_freeR hD hS hA
  have hPo := hP
  have hDo := hD
  refine va_calli (vx_runSW (As := [.ref h, .int (xs (2 * cnt + 1)), .ref qo]) (rest := []) ⟨hx, hb, hml, hown, hg⟩ (c_L_mark l hl9 D _ s.heap.size _ qo cL o h cn f v w z p0 s0 (xs (2 * cnt + 1)) rfl) (vx_cwSW 3 hg (gw_S gw_261 gw_262 gw_25 gw_263) rfl rfl rfl (by decide +kernel) ⟨Nat.le_of_ble_eq_true rfl, Nat.le_of_ble_eq_true rfl⟩) (pre_wrS (sw_PR hP) hK hN (sw_DR hD) hS hAN hN0 hE) rfl rfl hl.1 rfl (lv_room (Nat.le_of_ble_eq_true rfl)) d_L_law_276 ⟨by show _ ≤ 601024; omega, by show _ ≤ 7293034; omega⟩) hS (fun q _ h => hFc q h) hFc (fun r u t H locs ht hvm hw hB hz1 hk1 hS => ?_)
  obtain ⟨hP1, hK1, hD1⟩ := hB
  rw [ht] at hP1
  obtain ⟨hP, hD⟩ := sw_join hPo hDo hk1 hFc hP1 hD1
  clear hPo hDo hP1 hK1 hD1 hk1 hz1 hFc ht hvm
  rcases hw with ⟨rfl, hux, rfl⟩ | ⟨rfl, ⟨hux, hs0⟩, rfl⟩ | ⟨rfl, ans, ws1, ⟨hs0, x, l1, l2, hux, hL9, hans, rfl⟩, rfl⟩
  · refine lv_istore (lv' := [(5, .int 1), (0, .ref b), (1, .ref h), (2, .ref hm), (3, .ref qo), (4, .int (nI (2 * cnt)))]) hx hb d_L_law_279 hl (by decide) rfl (fun ls hl => ?_)
    refine lv_aload_n hx hb d_L_law_281 rfl (lv_at hl 3 rfl) ?_
    refine lv_aload_n hx hb d_L_law_282 rfl (lv_at hl 1 rfl) ?_
    refine lv_iload hx hb d_L_law_283 (lv_at hl 5 rfl) ?_
    refine lv_iconst (v := 1) hx hb d_L_law_285 (by decide) ?_
    refine lv_iadd hx hb d_L_law_286 ?_
    refine lv_topi (fun y3 ey3 => ?_)
    obtain rfl : y3 = nI (2 * cnt + 1) := ey3.trans (nI_add (2 * cnt) 1)
    clear ey3
    refine va_sld hx hb hX hbl hbA hS (vp_in_nI (n := (2 * cnt + 1)) (by omega) (by omega)) d_L_law_287 ?_
    refine lv_topi (fun y4 ey4 => ?_)
    obtain rfl : y4 = xs (2 * cnt + 1) := ey4.trans (congrArg xs (nI_clamp (by omega)))
    clear ey4
    replace hP := sw_P_perm hP List.perm_append_comm
    replace hD := sw_D_perm2 hD List.perm_append_comm
    have hFc := sw_freeR hD hS hA
    have hPo := hP
    have hDo := hD
    refine va_calli (va_runV (As := [.int (xs (2 * cnt + 1))]) (rest := []) ⟨hx, hb, hml, hown, hg⟩ (c_M_mark l D _ s.heap.size _ hm qs qt qm cI cJ cZ th cn nw v w z (hdB s0) za ta ka (xs (2 * cnt + 1)) (p0 ++ s0) f hJ.1 rfl rfl rfl hhd) (cwV 1 hg (gw_V gw_421 gw_422 gw_423 gw_28 gw_424) rfl rfl rfl (by decide +kernel) ⟨Nat.le_of_ble_eq_true rfl, Nat.le_of_ble_eq_true rfl⟩) (pre_wrV (sw_PR hP) hK hN (sw_DR hD) hS hAN hN0 hE (ci := 2) (k := 0) rfl rfl) rfl rfl hl.1 rfl (lv_room (Nat.le_of_ble_eq_true rfl)) d_L_law_288 ⟨by show _ ≤ 601024; omega, by show _ ≤ 7293034; omega⟩) hS (fun q _ h => hFc q h) hFc (fun r6 u t H locs ht hvm hw hB hz1 hk1 hS => ?_)
    obtain ⟨hP1, hK1, hD1⟩ := hB
    rw [ht] at hP1
    obtain ⟨hP, hD⟩ := sw_join hPo hDo hk1 hFc hP1 hD1
    replace hP := sw_P_perm hP List.perm_append_comm
    replace hD := sw_D_perm2 hD List.perm_append_comm
    clear hPo hDo hP1 hK1 hD1 hk1 hz1 hFc ht hvm
    rcases hw with ⟨hu2, rfl, rfl⟩ | ⟨hu2, hm1, rfl, rfl⟩ | ⟨x2, hu2, hm1, rfl, ka', rfl, hI9⟩
    · replace hP : va_P D classes (mW hm qs qt qm cI cJ cZ 1 cn nw v w z (hdB s0) za ta ka ++ (oW qo cL o ++ cW h cn f v w z p0 s0)) H := hP
      replace hD : va_D (fun q => s.heap.size ≤ q) (mW hm qs qt qm cI cJ cZ 1 cn nw v w z (hdB s0) za ta ka ++ (oW qo cL o ++ cW h cn f v w z p0 s0)) := hD
      refine lv_istore (lv' := [(6, .int 0), (5, .int 1), (0, .ref b), (1, .ref h), (2, .ref hm), (3, .ref qo), (4, .int (nI (2 * cnt)))]) hx hb d_L_law_291 hl (by decide) rfl (fun ls hl => ?_)
      refine lv_aload_n hx hb d_L_law_293 rfl (lv_at hl 4 rfl) ?_
      refine vp_callSi (va_runV (As := []) (rest := []) ⟨hx, hb, hml, hown, hg⟩ (c_M_thrown l D _ hm qs qt qm cI cJ cZ 1 cn nw v w z (hdB s0) za ta ka rfl rfl rfl) (cwV 0 hg (gw_V gw_385 gw_386 gw_387 gw_28 gw_388) rfl rfl rfl (by decide +kernel) ⟨Nat.le_of_ble_eq_true rfl, Nat.le_of_ble_eq_true rfl⟩) (pre_roV (sw_PL hP) hK hN (ci := 2) (k := 0) rfl rfl) rfl rfl hl.1 rfl (lv_room (Nat.le_of_ble_eq_true rfl)) d_L_law_294 ⟨by show _ ≤ 601024; omega, by show _ ≤ 7293034; omega⟩).run (fun r7 hr7 => ?_)
      subst hr7
      refine lv_iload hx hb d_L_law_297 (lv_at hl 1 rfl) ?_
      refine lv_icmp_eq (tgt := 304) hx hb d_L_law_299 (by decide) (fun c_299 => ?_) (fun c_299 => ?_)
      · refine lv_iload hx hb d_L_law_304 (lv_at hl 1 rfl) ?_
        refine lv_if_ne (tgt := 328) hx hb d_L_law_306 (by decide) (fun c_306 => ?_) (fun c_306 => ?_)
        · refine lv_goto (tgt := 587) hx hb d_L_law_328 (by decide) ?_
          obtain ⟨j5, ej5⟩ : ∃ y : Int32, y = nI (2 * cnt) + 2 := ⟨_, rfl⟩
          refine lv_iinc (v := j5) (lv' := [(4, .int j5), (6, .int 0), (5, .int 1), (0, .ref b), (1, .ref h), (2, .ref hm), (3, .ref qo)]) hx hb d_L_law_587 hl (k := 6) rfl (by rw [ej5]; rfl) (by decide) rfl (fun ls hl => ?_)
          replace ej5 : j5 = nI (2 * (cnt + 1)) := ej5.trans (nI_add (2 * cnt) 2)
          subst ej5
          refine lv_goto (tgt := 23) hx hb d_L_law_590 (by decide) ?_
          refine W.widen (k := 7 + 2 * (cnt + 1)) (n := 49182 + 12 * (cnt + 1)) (by omega) (by omega) ?_
          exact hk cn f nw v w z p0 s0 za ta ka 1 o _ _ ls hJ h16 (by omega) hP hD hS (lv_sub hl [3, 4, 5, 6, 0] rfl)
        · exact absurd c_306 (by decide)
      · exact absurd rfl c_299
    · exact absurd hux hu2
    · rw [hux] at hu2; cases hu2
  · refine lv_istore (lv' := [(5, .int 2), (0, .ref b), (1, .ref h), (2, .ref hm), (3, .ref qo), (4, .int (nI (2 * cnt)))]) hx hb d_L_law_279 hl (by decide) rfl (fun ls hl => ?_)
    refine lv_aload_n hx hb d_L_law_281 rfl (lv_at hl 3 rfl) ?_
    refine lv_aload_n hx hb d_L_law_282 rfl (lv_at hl 1 rfl) ?_
    refine lv_iload hx hb d_L_law_283 (lv_at hl 5 rfl) ?_
    refine lv_iconst (v := 1) hx hb d_L_law_285 (by decide) ?_
    refine lv_iadd hx hb d_L_law_286 ?_
    refine lv_topi (fun y6 ey6 => ?_)
    obtain rfl : y6 = nI (2 * cnt + 1) := ey6.trans (nI_add (2 * cnt) 1)
    clear ey6
    refine va_sld hx hb hX hbl hbA hS (vp_in_nI (n := (2 * cnt + 1)) (by omega) (by omega)) d_L_law_287 ?_
    refine lv_topi (fun y7 ey7 => ?_)
    obtain rfl : y7 = xs (2 * cnt + 1) := ey7.trans (congrArg xs (nI_clamp (by omega)))
    clear ey7
    replace hP := sw_P_perm hP List.perm_append_comm
    replace hD := sw_D_perm2 hD List.perm_append_comm
    have hFc := sw_freeR hD hS hA
    have hPo := hP
    have hDo := hD
    refine va_calli (va_runV (As := [.int (xs (2 * cnt + 1))]) (rest := []) ⟨hx, hb, hml, hown, hg⟩ (c_M_mark l D _ s.heap.size _ hm qs qt qm cI cJ cZ th cn nw v w z (hdB s0) za ta ka (xs (2 * cnt + 1)) (p0 ++ s0) f hJ.1 rfl rfl rfl hhd) (cwV 1 hg (gw_V gw_421 gw_422 gw_423 gw_28 gw_424) rfl rfl rfl (by decide +kernel) ⟨Nat.le_of_ble_eq_true rfl, Nat.le_of_ble_eq_true rfl⟩) (pre_wrV (sw_PR hP) hK hN (sw_DR hD) hS hAN hN0 hE (ci := 2) (k := 0) rfl rfl) rfl rfl hl.1 rfl (lv_room (Nat.le_of_ble_eq_true rfl)) d_L_law_288 ⟨by show _ ≤ 601024; omega, by show _ ≤ 7293034; omega⟩) hS (fun q _ h => hFc q h) hFc (fun r6 u t H locs ht hvm hw hB hz1 hk1 hS => ?_)
    obtain ⟨hP1, hK1, hD1⟩ := hB
    rw [ht] at hP1
    obtain ⟨hP, hD⟩ := sw_join hPo hDo hk1 hFc hP1 hD1
    replace hP := sw_P_perm hP List.perm_append_comm
    replace hD := sw_D_perm2 hD List.perm_append_comm
    clear hPo hDo hP1 hK1 hD1 hk1 hz1 hFc ht hvm
    rcases hw with ⟨hu2, rfl, rfl⟩ | ⟨hu2, hm1, rfl, rfl⟩ | ⟨x2, hu2, hm1, rfl, ka', rfl, hI9⟩
    · exact absurd hu2 hux
    · replace hP : va_P D classes (mW hm qs qt qm cI cJ cZ 2 cn nw v w z (hdB s0) za ta ka ++ (oW qo cL o ++ cW h cn f v w z p0 s0)) H := hP
      replace hD : va_D (fun q => s.heap.size ≤ q) (mW hm qs qt qm cI cJ cZ 2 cn nw v w z (hdB s0) za ta ka ++ (oW qo cL o ++ cW h cn f v w z p0 s0)) := hD
      refine lv_istore (lv' := [(6, .int 0), (5, .int 2), (0, .ref b), (1, .ref h), (2, .ref hm), (3, .ref qo), (4, .int (nI (2 * cnt)))]) hx hb d_L_law_291 hl (by decide) rfl (fun ls hl => ?_)
      refine lv_aload_n hx hb d_L_law_293 rfl (lv_at hl 4 rfl) ?_
      refine vp_callSi (va_runV (As := []) (rest := []) ⟨hx, hb, hml, hown, hg⟩ (c_M_thrown l D _ hm qs qt qm cI cJ cZ 2 cn nw v w z (hdB s0) za ta ka rfl rfl rfl) (cwV 0 hg (gw_V gw_385 gw_386 gw_387 gw_28 gw_388) rfl rfl rfl (by decide +kernel) ⟨Nat.le_of_ble_eq_true rfl, Nat.le_of_ble_eq_true rfl⟩) (pre_roV (sw_PL hP) hK hN (ci := 2) (k := 0) rfl rfl) rfl rfl hl.1 rfl (lv_room (Nat.le_of_ble_eq_true rfl)) d_L_law_294 ⟨by show _ ≤ 601024; omega, by show _ ≤ 7293034; omega⟩).run (fun r7 hr7 => ?_)
      subst hr7
      refine lv_iload hx hb d_L_law_297 (lv_at hl 1 rfl) ?_
      refine lv_icmp_eq (tgt := 304) hx hb d_L_law_299 (by decide) (fun c_299 => ?_) (fun c_299 => ?_)
      · refine lv_iload hx hb d_L_law_304 (lv_at hl 1 rfl) ?_
        refine lv_if_ne (tgt := 328) hx hb d_L_law_306 (by decide) (fun c_306 => ?_) (fun c_306 => ?_)
        · refine lv_goto (tgt := 587) hx hb d_L_law_328 (by decide) ?_
          obtain ⟨j8, ej8⟩ : ∃ y : Int32, y = nI (2 * cnt) + 2 := ⟨_, rfl⟩
          refine lv_iinc (v := j8) (lv' := [(4, .int j8), (6, .int 0), (5, .int 2), (0, .ref b), (1, .ref h), (2, .ref hm), (3, .ref qo)]) hx hb d_L_law_587 hl (k := 6) rfl (by rw [ej8]; rfl) (by decide) rfl (fun ls hl => ?_)
          replace ej8 : j8 = nI (2 * (cnt + 1)) := ej8.trans (nI_add (2 * cnt) 2)
          subst ej8
          refine lv_goto (tgt := 23) hx hb d_L_law_590 (by decide) ?_
          refine W.widen (k := 7 + 2 * (cnt + 1)) (n := 49182 + 12 * (cnt + 1)) (by omega) (by omega) ?_
          exact hk cn f nw v w z p0 s0 za ta ka 2 o _ _ ls hJ h16 (by omega) hP hD hS (lv_sub hl [3, 4, 5, 6, 0] rfl)
        · exact absurd c_306 (by decide)
      · exact absurd rfl c_299
    · exact absurd (hdB_0 hJ.1 hm1) hs0
  · refine lv_istore (lv' := [(5, .int 0), (0, .ref b), (1, .ref h), (2, .ref hm), (3, .ref qo), (4, .int (nI (2 * cnt)))]) hx hb d_L_law_279 hl (by decide) rfl (fun ls hl => ?_)
    refine lv_aload_n hx hb d_L_law_281 rfl (lv_at hl 3 rfl) ?_
    refine lv_aload_n hx hb d_L_law_282 rfl (lv_at hl 1 rfl) ?_
    refine lv_iload hx hb d_L_law_283 (lv_at hl 5 rfl) ?_
    refine lv_iconst (v := 1) hx hb d_L_law_285 (by decide) ?_
    refine lv_iadd hx hb d_L_law_286 ?_
    refine lv_topi (fun y9 ey9 => ?_)
    obtain rfl : y9 = nI (2 * cnt + 1) := ey9.trans (nI_add (2 * cnt) 1)
    clear ey9
    refine va_sld hx hb hX hbl hbA hS (vp_in_nI (n := (2 * cnt + 1)) (by omega) (by omega)) d_L_law_287 ?_
    refine lv_topi (fun y10 ey10 => ?_)
    obtain rfl : y10 = xs (2 * cnt + 1) := ey10.trans (congrArg xs (nI_clamp (by omega)))
    clear ey10
    replace hP := sw_P_perm hP List.perm_append_comm
    replace hD := sw_D_perm2 hD List.perm_append_comm
    have hFc := sw_freeR hD hS hA
    have hPo := hP
    have hDo := hD
    refine va_calli (va_runV (As := [.int (xs (2 * cnt + 1))]) (rest := []) ⟨hx, hb, hml, hown, hg⟩ (c_M_mark l D _ s.heap.size _ hm qs qt qm cI cJ cZ th cn nw v w z (hdB s0) za ta ka (xs (2 * cnt + 1)) (p0 ++ s0) f hJ.1 rfl rfl rfl hhd) (cwV 1 hg (gw_V gw_421 gw_422 gw_423 gw_28 gw_424) rfl rfl rfl (by decide +kernel) ⟨Nat.le_of_ble_eq_true rfl, Nat.le_of_ble_eq_true rfl⟩) (pre_wrV (sw_PR hP) hK hN (sw_DR hD) hS hAN hN0 hE (ci := 2) (k := 0) rfl rfl) rfl rfl hl.1 rfl (lv_room (Nat.le_of_ble_eq_true rfl)) d_L_law_288 ⟨by show _ ≤ 601024; omega, by show _ ≤ 7293034; omega⟩) hS (fun q _ h => hFc q h) hFc (fun r6 u t H locs ht hvm hw hB hz1 hk1 hS => ?_)
    obtain ⟨hP1, hK1, hD1⟩ := hB
    rw [ht] at hP1
    obtain ⟨hP, hD⟩ := sw_join hPo hDo hk1 hFc hP1 hD1
    replace hP := sw_P_perm hP List.perm_append_comm
    replace hD := sw_D_perm2 hD List.perm_append_comm
    clear hPo hDo hP1 hK1 hD1 hk1 hz1 hFc ht hvm
    rcases hw with ⟨hu2, rfl, rfl⟩ | ⟨hu2, hm1, rfl, rfl⟩ | ⟨x2, hu2, hm1, rfl, ka', rfl, hI9⟩
    · rw [hux] at hu2; cases hu2
    · exact absurd (by rw [hs0]; rfl) hm1
    · obtain rfl : x = x2 := Option.some.inj (hux.symm.trans hu2)
      obtain ⟨p1, s1, hJ1, hh1, hw1⟩ := J_mark hJ hs0 hL9 (hI9 l1 l2 hL9)
      rw [hw1, ← hh1] at hP hD
      replace hP : va_P D classes (mW hm qs qt qm cI cJ cZ 0 cn nw v w z (hdB s1) za ta ka' ++ (oW qo cL (vp_updL o 0 ans.toInt64) ++ cW h cn f v w z p1 s1)) H := hP
      replace hD : va_D (fun q => s.heap.size ≤ q) (mW hm qs qt qm cI cJ cZ 0 cn nw v w z (hdB s1) za ta ka' ++ (oW qo cL (vp_updL o 0 ans.toInt64) ++ cW h cn f v w z p1 s1)) := hD
      refine lv_istore (lv' := [(6, .int (bI (!x.2.2.2.2.1))), (5, .int 0), (0, .ref b), (1, .ref h), (2, .ref hm), (3, .ref qo), (4, .int (nI (2 * cnt)))]) hx hb d_L_law_291 hl (by decide) rfl (fun ls hl => ?_)
      refine lv_aload_n hx hb d_L_law_293 rfl (lv_at hl 4 rfl) ?_
      refine vp_callSi (va_runV (As := []) (rest := []) ⟨hx, hb, hml, hown, hg⟩ (c_M_thrown l D _ hm qs qt qm cI cJ cZ 0 cn nw v w z (hdB s1) za ta ka' rfl rfl rfl) (cwV 0 hg (gw_V gw_385 gw_386 gw_387 gw_28 gw_388) rfl rfl rfl (by decide +kernel) ⟨Nat.le_of_ble_eq_true rfl, Nat.le_of_ble_eq_true rfl⟩) (pre_roV (sw_PL hP) hK hN (ci := 2) (k := 0) rfl rfl) rfl rfl hl.1 rfl (lv_room (Nat.le_of_ble_eq_true rfl)) d_L_law_294 ⟨by show _ ≤ 601024; omega, by show _ ≤ 7293034; omega⟩).run (fun r7 hr7 => ?_)
      subst hr7
      refine lv_iload hx hb d_L_law_297 (lv_at hl 1 rfl) ?_
      refine lv_icmp_eq (tgt := 304) hx hb d_L_law_299 (by decide) (fun c_299 => ?_) (fun c_299 => ?_)
      · refine lv_iload hx hb d_L_law_304 (lv_at hl 1 rfl) ?_
        refine lv_if_ne (tgt := 328) hx hb d_L_law_306 (by decide) (fun c_306 => ?_) (fun c_306 => ?_)
        · exact absurd rfl c_306
        · refine lv_aload_n hx hb d_L_law_309 rfl (lv_at hl 5 rfl) ?_
          refine lv_iconst (v := 0) hx hb d_L_law_310 (by decide) ?_
          refine va_lald hx hb hK hP 4 3 rfl rfl (vp_in_nI (n := 0) (by decide) (by decide)) d_L_law_311 ?_
          refine lv_topl (fun y11 ey11 => ?_)
          obtain rfl : y11 = (ans).toInt64 := ey11.trans (show (vp_updL o 0 ans.toInt64) 0 = _ from pk_uLs)
          clear ey11
          refine lv_iload hx hb d_L_law_312 (lv_at hl 0 rfl) ?_
          refine lv_if_eq (tgt := 321) hx hb d_L_law_314 (by decide) (fun c_314 => ?_) (fun c_314 => ?_)
          · refine lv_lconst (v := 0) hx hb d_L_law_321 (by decide) ?_
            refine W.lcmp hx hb d_L_law_322 ?_
            refine lv_if_eq (tgt := 328) hx hb d_L_law_323 (by decide) (fun c_323 => ?_) (fun c_323 => ?_)
            · refine lv_goto (tgt := 587) hx hb d_L_law_328 (by decide) ?_
              obtain ⟨j12, ej12⟩ : ∃ y : Int32, y = nI (2 * cnt) + 2 := ⟨_, rfl⟩
              refine lv_iinc (v := j12) (lv' := [(4, .int j12), (6, .int (bI (!x.2.2.2.2.1))), (5, .int 0), (0, .ref b), (1, .ref h), (2, .ref hm), (3, .ref qo)]) hx hb d_L_law_587 hl (k := 6) rfl (by rw [ej12]; rfl) (by decide) rfl (fun ls hl => ?_)
              replace ej12 : j12 = nI (2 * (cnt + 1)) := ej12.trans (nI_add (2 * cnt) 2)
              subst ej12
              refine lv_goto (tgt := 23) hx hb d_L_law_590 (by decide) ?_
              refine W.widen (k := 7 + 2 * (cnt + 1)) (n := 49182 + 12 * (cnt + 1)) (by omega) (by omega) ?_
              exact hk cn f nw v w z p1 s1 za ta ka' 0 (vp_updL o 0 ans.toInt64) _ _ ls hJ1 h16 (by omega) hP hD hS (lv_sub hl [3, 4, 5, 6, 0] rfl)
            · exact absurd ((lg_cmp_eq _ _).mpr (by rw [hans, bI_0.mp c_314]; rfl)) c_323
          · refine lv_lconst (v := 1) hx hb d_L_law_317 (by decide) ?_
            refine lv_goto (tgt := 322) hx hb d_L_law_318 (by decide) ?_
            refine W.lcmp hx hb d_L_law_322 ?_
            refine lv_if_eq (tgt := 328) hx hb d_L_law_323 (by decide) (fun c_323 => ?_) (fun c_323 => ?_)
            · refine lv_goto (tgt := 587) hx hb d_L_law_328 (by decide) ?_
              obtain ⟨j13, ej13⟩ : ∃ y : Int32, y = nI (2 * cnt) + 2 := ⟨_, rfl⟩
              refine lv_iinc (v := j13) (lv' := [(4, .int j13), (6, .int (bI (!x.2.2.2.2.1))), (5, .int 0), (0, .ref b), (1, .ref h), (2, .ref hm), (3, .ref qo)]) hx hb d_L_law_587 hl (k := 6) rfl (by rw [ej13]; rfl) (by decide) rfl (fun ls hl => ?_)
              replace ej13 : j13 = nI (2 * (cnt + 1)) := ej13.trans (nI_add (2 * cnt) 2)
              subst ej13
              refine lv_goto (tgt := 23) hx hb d_L_law_590 (by decide) ?_
              refine W.widen (k := 7 + 2 * (cnt + 1)) (n := 49182 + 12 * (cnt + 1)) (by omega) (by omega) ?_
              exact hk cn f nw v w z p1 s1 za ta ka' 0 (vp_updL o 0 ans.toInt64) _ _ ls hJ1 h16 (by omega) hP hD hS (lv_sub hl [3, 4, 5, 6, 0] rfl)
            · exact absurd ((lg_cmp_eq _ _).mpr (by rw [hans, bI_n0.mp c_314]; rfl)) c_323
      · exact absurd rfl c_299
set_option maxHeartbeats 4000000 in
set_option maxRecDepth 100000 in
theorem lo_unmark {p : Program} {l : Launch} {e : Env} {s : State} {m : MethodId} {below : List Frame} {meth : Method} {c : Code} {D : va_G} {b L : Nat} {xs : Nat → Int32} {h hm qs qt qm qo : Nat} {cI cJ cZ cL : ClassId} (hl9 : l.stackTraces = false) (C0 : lw_At p s m meth c b L xs) (hK : va_K D classes [(cI, .int), (cJ, .int), (cZ, .boolean), (cL, .long)] s) (hN : NW s) (hE : EV s.heap.size s s.heap) (cnt : Nat) (hc : 2 * cnt + 2 ≤ L) (hL : L ≤ 1024) (hk : LW p l e s m below meth c D b h hm qs qt qm qo cI cJ cZ cL (cnt + 1)) (cn f nw : Nat) (v w z : Int32) (p0 s0 : List AP) (za ta ka : Nat → Int32) (th : Int32) (o : Nat → Int64) (H : Heap) (locs : List Loc) (ls : Array Slot) (hJ : JJ cn f nw p0 s0 za ta ka) (h16 : 16 ≤ cn) (hnw : nw ≤ 5001 * cnt) (hP : va_P D classes (mW hm qs qt qm cI cJ cZ th cn nw v w z (hdB s0) za ta ka ++ (oW qo cL o ++ cW h cn f v w z p0 s0)) H) (hD : va_D (fun q => s.heap.size ≤ q) (mW hm qs qt qm cI cJ cZ th cn nw v w z (hdB s0) za ta ka ++ (oW qo cL o ++ cW h cn f v w z p0 s0))) (hS : va_S (fun q => s.heap.size ≤ q) s.heap H locs) (hl : lv_has ls 7 [(0, .ref b), (1, .ref h), (2, .ref hm), (3, .ref qo), (4, .int (nI (2 * cnt)))]) : W p l e room_1 s m #[Value.ref b] below meth c H locs (7 + 2 * cnt) (49182 + 12 * cnt) (lw_Z below #[Value.ref b] s) (F0 m 331 ls []) := by
  obtain ⟨hx, hb, hr, hml, hown, hts, hX, hbl, hlocks, hgv⟩ := C0
  have hown : s.vm.findClass R_L = some m.cls := hown
  have hg := lw_hg hts
  have hA : ∀ q : Nat, s.heap.size ≤ q → (fun q : Nat => s.heap.size ≤ q) q := fun _ h => h
  have hbA : ¬ (fun q : Nat => s.heap.size ≤ q) b := Nat.not_le.mpr hbl
  have hAN : ∀ q : Nat, (fun q : Nat => s.heap.size ≤ q) q → s.heap.size ≤ q := fun _ h => h
  have hN0 := Nat.le_refl s.heap.size
  have hnb : nw + 5001 < 2 ^ 30 := by omega
  have hcn := hJ.1.2.2.1
  have hBd := hJ.bd
  have hhd : hdB s0 < 2 ^ 31 := by cases s0 with | nil => decide | cons y9 r9 => exact Nat.lt_trans (hBd y9 (by simp)).1 (by decide)
  refine lv_aload_n hx hb d_L_law_331 rfl (lv_at hl 1 rfl) ?_
  refine lv_aload_n hx hb d_L_law_332 rfl (lv_at hl 3 rfl) ?_
  have hFc := sw_freeR hD hS hA
  have hPo := hP
  have hDo := hD
  refine va_calli (vx_runSW (As := [.ref h, .ref qo]) (rest := []) ⟨hx, hb, hml, hown, hg⟩ (c_L_unmark l hl9 D _ s.heap.size _ qo cL o h cn f v w z p0 s0 rfl) (vx_cwSW 2 hg (gw_S gw_289 gw_290 gw_25 gw_291) rfl rfl rfl (by decide +kernel) ⟨Nat.le_of_ble_eq_true rfl, Nat.le_of_ble_eq_true rfl⟩) (pre_wrS (sw_PR hP) hK hN (sw_DR hD) hS hAN hN0 hE) rfl rfl hl.1 rfl (lv_room (Nat.le_of_ble_eq_true rfl)) d_L_law_333 ⟨by show _ ≤ 601024; omega, by show _ ≤ 7293034; omega⟩) hS (fun q _ h => hFc q h) hFc (fun r u t H locs ht hvm hw hB hz1 hk1 hS => ?_)
  obtain ⟨hP1, hK1, hD1⟩ := hB
  rw [ht] at hP1
  obtain ⟨hP, hD⟩ := sw_join hPo hDo hk1 hFc hP1 hD1
  clear hPo hDo hP1 hK1 hD1 hk1 hz1 hFc ht hvm
  rcases hw with ⟨rfl, hs0, rfl⟩ | ⟨rfl, ans, ws1, ⟨hs0, hans, rfl⟩, rfl⟩
  · refine lv_istore (lv' := [(5, .int 1), (0, .ref b), (1, .ref h), (2, .ref hm), (3, .ref qo), (4, .int (nI (2 * cnt)))]) hx hb d_L_law_336 hl (by decide) rfl (fun ls hl => ?_)
    refine lv_aload_n hx hb d_L_law_338 rfl (lv_at hl 3 rfl) ?_
    replace hP := sw_P_perm hP List.perm_append_comm
    replace hD := sw_D_perm2 hD List.perm_append_comm
    have hFc := sw_freeR hD hS hA
    have hPo := hP
    have hDo := hD
    refine va_calli (va_runV (As := []) (rest := []) ⟨hx, hb, hml, hown, hg⟩ (c_M_unmark l D _ s.heap.size _ hm qs qt qm cI cJ cZ th cn nw v w z (hdB s0) za ta ka (p0 ++ s0) f hJ.1 rfl rfl rfl hhd) (cwV 0 hg (gw_V gw_425 gw_426 gw_427 gw_28 gw_428) rfl rfl rfl (by decide +kernel) ⟨Nat.le_of_ble_eq_true rfl, Nat.le_of_ble_eq_true rfl⟩) (pre_wrV (sw_PR hP) hK hN (sw_DR hD) hS hAN hN0 hE (ci := 2) (k := 0) rfl rfl) rfl rfl hl.1 rfl (lv_room (Nat.le_of_ble_eq_true rfl)) d_L_law_339 ⟨by show _ ≤ 601024; omega, by show _ ≤ 7293034; omega⟩) hS (fun q _ h => hFc q h) hFc (fun r6 u t H locs ht hvm hw hB hz1 hk1 hS => ?_)
    obtain ⟨hP1, hK1, hD1⟩ := hB
    rw [ht] at hP1
    obtain ⟨hP, hD⟩ := sw_join hPo hDo hk1 hFc hP1 hD1
    replace hP := sw_P_perm hP List.perm_append_comm
    replace hD := sw_D_perm2 hD List.perm_append_comm
    clear hPo hDo hP1 hK1 hD1 hk1 hz1 hFc ht hvm
    rcases hw with ⟨hm1, rfl, rfl⟩ | ⟨hm1, rfl, ka', rfl, hI9⟩
    · replace hP : va_P D classes (mW hm qs qt qm cI cJ cZ 1 cn nw v w z (hdB s0) za ta ka ++ (oW qo cL o ++ cW h cn f v w z p0 s0)) H := hP
      replace hD : va_D (fun q => s.heap.size ≤ q) (mW hm qs qt qm cI cJ cZ 1 cn nw v w z (hdB s0) za ta ka ++ (oW qo cL o ++ cW h cn f v w z p0 s0)) := hD
      refine lv_istore (lv' := [(6, .int 0), (5, .int 1), (0, .ref b), (1, .ref h), (2, .ref hm), (3, .ref qo), (4, .int (nI (2 * cnt)))]) hx hb d_L_law_342 hl (by decide) rfl (fun ls hl => ?_)
      refine lv_aload_n hx hb d_L_law_344 rfl (lv_at hl 4 rfl) ?_
      refine vp_callSi (va_runV (As := []) (rest := []) ⟨hx, hb, hml, hown, hg⟩ (c_M_thrown l D _ hm qs qt qm cI cJ cZ 1 cn nw v w z (hdB s0) za ta ka rfl rfl rfl) (cwV 0 hg (gw_V gw_385 gw_386 gw_387 gw_28 gw_388) rfl rfl rfl (by decide +kernel) ⟨Nat.le_of_ble_eq_true rfl, Nat.le_of_ble_eq_true rfl⟩) (pre_roV (sw_PL hP) hK hN (ci := 2) (k := 0) rfl rfl) rfl rfl hl.1 rfl (lv_room (Nat.le_of_ble_eq_true rfl)) d_L_law_345 ⟨by show _ ≤ 601024; omega, by show _ ≤ 7293034; omega⟩).run (fun r7 hr7 => ?_)
      subst hr7
      refine lv_iload hx hb d_L_law_348 (lv_at hl 1 rfl) ?_
      refine lv_icmp_eq (tgt := 355) hx hb d_L_law_350 (by decide) (fun c_350 => ?_) (fun c_350 => ?_)
      · refine lv_iload hx hb d_L_law_355 (lv_at hl 1 rfl) ?_
        refine lv_if_ne (tgt := 372) hx hb d_L_law_357 (by decide) (fun c_357 => ?_) (fun c_357 => ?_)
        · refine lv_goto (tgt := 587) hx hb d_L_law_372 (by decide) ?_
          obtain ⟨j1, ej1⟩ : ∃ y : Int32, y = nI (2 * cnt) + 2 := ⟨_, rfl⟩
          refine lv_iinc (v := j1) (lv' := [(4, .int j1), (6, .int 0), (5, .int 1), (0, .ref b), (1, .ref h), (2, .ref hm), (3, .ref qo)]) hx hb d_L_law_587 hl (k := 6) rfl (by rw [ej1]; rfl) (by decide) rfl (fun ls hl => ?_)
          replace ej1 : j1 = nI (2 * (cnt + 1)) := ej1.trans (nI_add (2 * cnt) 2)
          subst ej1
          refine lv_goto (tgt := 23) hx hb d_L_law_590 (by decide) ?_
          refine W.widen (k := 7 + 2 * (cnt + 1)) (n := 49182 + 12 * (cnt + 1)) (by omega) (by omega) ?_
          exact hk cn f nw v w z p0 s0 za ta ka 1 o _ _ ls hJ h16 (by omega) hP hD hS (lv_sub hl [3, 4, 5, 6, 0] rfl)
        · exact absurd c_357 (by decide)
      · exact absurd rfl c_350
    · exact absurd (hdB_0 hJ.1 hm1) hs0
  · refine lv_istore (lv' := [(5, .int 0), (0, .ref b), (1, .ref h), (2, .ref hm), (3, .ref qo), (4, .int (nI (2 * cnt)))]) hx hb d_L_law_336 hl (by decide) rfl (fun ls hl => ?_)
    refine lv_aload_n hx hb d_L_law_338 rfl (lv_at hl 3 rfl) ?_
    replace hP := sw_P_perm hP List.perm_append_comm
    replace hD := sw_D_perm2 hD List.perm_append_comm
    have hFc := sw_freeR hD hS hA
    have hPo := hP
    have hDo := hD
    refine va_calli (va_runV (As := []) (rest := []) ⟨hx, hb, hml, hown, hg⟩ (c_M_unmark l D _ s.heap.size _ hm qs qt qm cI cJ cZ th cn nw v w z (hdB s0) za ta ka (p0 ++ s0) f hJ.1 rfl rfl rfl hhd) (cwV 0 hg (gw_V gw_425 gw_426 gw_427 gw_28 gw_428) rfl rfl rfl (by decide +kernel) ⟨Nat.le_of_ble_eq_true rfl, Nat.le_of_ble_eq_true rfl⟩) (pre_wrV (sw_PR hP) hK hN (sw_DR hD) hS hAN hN0 hE (ci := 2) (k := 0) rfl rfl) rfl rfl hl.1 rfl (lv_room (Nat.le_of_ble_eq_true rfl)) d_L_law_339 ⟨by show _ ≤ 601024; omega, by show _ ≤ 7293034; omega⟩) hS (fun q _ h => hFc q h) hFc (fun r6 u t H locs ht hvm hw hB hz1 hk1 hS => ?_)
    obtain ⟨hP1, hK1, hD1⟩ := hB
    rw [ht] at hP1
    obtain ⟨hP, hD⟩ := sw_join hPo hDo hk1 hFc hP1 hD1
    replace hP := sw_P_perm hP List.perm_append_comm
    replace hD := sw_D_perm2 hD List.perm_append_comm
    clear hPo hDo hP1 hK1 hD1 hk1 hz1 hFc ht hvm
    rcases hw with ⟨hm1, rfl, rfl⟩ | ⟨hm1, rfl, ka', rfl, hI9⟩
    · exact absurd (by rw [hs0]; rfl) hm1
    · obtain ⟨hJ1, hw1⟩ := J_unmark hJ hs0 hI9
      rw [hw1, hm1] at hP hD
      replace hP : va_P D classes (mW hm qs qt qm cI cJ cZ 0 cn nw v w z (hdB []) za ta ka' ++ (oW qo cL (vp_updL o 0 ans.toInt64) ++ cW h cn f v w z (unmkL (p0 ++ s0)) [])) H := hP
      replace hD : va_D (fun q => s.heap.size ≤ q) (mW hm qs qt qm cI cJ cZ 0 cn nw v w z (hdB []) za ta ka' ++ (oW qo cL (vp_updL o 0 ans.toInt64) ++ cW h cn f v w z (unmkL (p0 ++ s0)) [])) := hD
      refine lv_istore (lv' := [(6, .int (nI (shrS 8 (p0 ++ s0)))), (5, .int 0), (0, .ref b), (1, .ref h), (2, .ref hm), (3, .ref qo), (4, .int (nI (2 * cnt)))]) hx hb d_L_law_342 hl (by decide) rfl (fun ls hl => ?_)
      refine lv_aload_n hx hb d_L_law_344 rfl (lv_at hl 4 rfl) ?_
      refine vp_callSi (va_runV (As := []) (rest := []) ⟨hx, hb, hml, hown, hg⟩ (c_M_thrown l D _ hm qs qt qm cI cJ cZ 0 cn nw v w z (hdB []) za ta ka' rfl rfl rfl) (cwV 0 hg (gw_V gw_385 gw_386 gw_387 gw_28 gw_388) rfl rfl rfl (by decide +kernel) ⟨Nat.le_of_ble_eq_true rfl, Nat.le_of_ble_eq_true rfl⟩) (pre_roV (sw_PL hP) hK hN (ci := 2) (k := 0) rfl rfl) rfl rfl hl.1 rfl (lv_room (Nat.le_of_ble_eq_true rfl)) d_L_law_345 ⟨by show _ ≤ 601024; omega, by show _ ≤ 7293034; omega⟩).run (fun r7 hr7 => ?_)
      subst hr7
      refine lv_iload hx hb d_L_law_348 (lv_at hl 1 rfl) ?_
      refine lv_icmp_eq (tgt := 355) hx hb d_L_law_350 (by decide) (fun c_350 => ?_) (fun c_350 => ?_)
      · refine lv_iload hx hb d_L_law_355 (lv_at hl 1 rfl) ?_
        refine lv_if_ne (tgt := 372) hx hb d_L_law_357 (by decide) (fun c_357 => ?_) (fun c_357 => ?_)
        · exact absurd rfl c_357
        · refine lv_aload_n hx hb d_L_law_360 rfl (lv_at hl 5 rfl) ?_
          refine lv_iconst (v := 0) hx hb d_L_law_361 (by decide) ?_
          refine va_lald hx hb hK hP 4 3 rfl rfl (vp_in_nI (n := 0) (by decide) (by decide)) d_L_law_362 ?_
          refine lv_topl (fun y2 ey2 => ?_)
          obtain rfl : y2 = (ans).toInt64 := ey2.trans (show (vp_updL o 0 ans.toInt64) 0 = _ from pk_uLs)
          clear ey2
          refine lv_iload hx hb d_L_law_363 (lv_at hl 0 rfl) ?_
          refine lv_i2l (v := Int32.toInt64 (nI (shrS 8 (p0 ++ s0)))) hx hb d_L_law_365 rfl ?_
          refine W.lcmp hx hb d_L_law_366 ?_
          refine lv_if_eq (tgt := 372) hx hb d_L_law_367 (by decide) (fun c_367 => ?_) (fun c_367 => ?_)
          · refine lv_goto (tgt := 587) hx hb d_L_law_372 (by decide) ?_
            obtain ⟨j3, ej3⟩ : ∃ y : Int32, y = nI (2 * cnt) + 2 := ⟨_, rfl⟩
            refine lv_iinc (v := j3) (lv' := [(4, .int j3), (6, .int (nI (shrS 8 (p0 ++ s0)))), (5, .int 0), (0, .ref b), (1, .ref h), (2, .ref hm), (3, .ref qo)]) hx hb d_L_law_587 hl (k := 6) rfl (by rw [ej3]; rfl) (by decide) rfl (fun ls hl => ?_)
            replace ej3 : j3 = nI (2 * (cnt + 1)) := ej3.trans (nI_add (2 * cnt) 2)
            subst ej3
            refine lv_goto (tgt := 23) hx hb d_L_law_590 (by decide) ?_
            refine W.widen (k := 7 + 2 * (cnt + 1)) (n := 49182 + 12 * (cnt + 1)) (by omega) (by omega) ?_
            exact hk cn f nw v w z (unmkL (p0 ++ s0)) [] za ta ka' 0 (vp_updL o 0 ans.toInt64) _ _ ls hJ1 h16 (by omega) hP hD hS (lv_sub hl [3, 4, 5, 6, 0] rfl)
          · exact absurd ((lg_cmp_eq _ _).mpr (by rw [hans])) c_367
      · exact absurd rfl c_350
set_option maxHeartbeats 4000000 in
set_option maxRecDepth 100000 in
theorem lo_sweep {p : Program} {l : Launch} {e : Env} {s : State} {m : MethodId} {below : List Frame} {meth : Method} {c : Code} {D : va_G} {b L : Nat} {xs : Nat → Int32} {h hm qs qt qm qo : Nat} {cI cJ cZ cL : ClassId} (hl9 : l.stackTraces = false) (C0 : lw_At p s m meth c b L xs) (hK : va_K D classes [(cI, .int), (cJ, .int), (cZ, .boolean), (cL, .long)] s) (hN : NW s) (hE : EV s.heap.size s s.heap) (cnt : Nat) (hc : 2 * cnt + 2 ≤ L) (hL : L ≤ 1024) (hk : LW p l e s m below meth c D b h hm qs qt qm qo cI cJ cZ cL (cnt + 1)) (cn f nw : Nat) (v w z : Int32) (p0 s0 : List AP) (za ta ka : Nat → Int32) (th : Int32) (o : Nat → Int64) (H : Heap) (locs : List Loc) (ls : Array Slot) (hJ : JJ cn f nw p0 s0 za ta ka) (h16 : 16 ≤ cn) (hnw : nw ≤ 5001 * cnt) (hP : va_P D classes (mW hm qs qt qm cI cJ cZ th cn nw v w z (hdB s0) za ta ka ++ (oW qo cL o ++ cW h cn f v w z p0 s0)) H) (hD : va_D (fun q => s.heap.size ≤ q) (mW hm qs qt qm cI cJ cZ th cn nw v w z (hdB s0) za ta ka ++ (oW qo cL o ++ cW h cn f v w z p0 s0))) (hS : va_S (fun q => s.heap.size ≤ q) s.heap H locs) (hl : lv_has ls 7 [(0, .ref b), (1, .ref h), (2, .ref hm), (3, .ref qo), (4, .int (nI (2 * cnt)))]) : W p l e room_1 s m #[Value.ref b] below meth c H locs (7 + 2 * cnt) (49182 + 12 * cnt) (lw_Z below #[Value.ref b] s) (F0 m 399 ls []) := by
  obtain ⟨hx, hb, hr, hml, hown, hts, hX, hbl, hlocks, hgv⟩ := C0
  have hown : s.vm.findClass R_L = some m.cls := hown
  have hg := lw_hg hts
  have hA : ∀ q : Nat, s.heap.size ≤ q → (fun q : Nat => s.heap.size ≤ q) q := fun _ h => h
  have hbA : ¬ (fun q : Nat => s.heap.size ≤ q) b := Nat.not_le.mpr hbl
  have hAN : ∀ q : Nat, (fun q : Nat => s.heap.size ≤ q) q → s.heap.size ≤ q := fun _ h => h
  have hN0 := Nat.le_refl s.heap.size
  have hnb : nw + 5001 < 2 ^ 30 := by omega
  have hcn := hJ.1.2.2.1
  have hBd := hJ.bd
  have hhd : hdB s0 < 2 ^ 31 := by cases s0 with | nil => decide | cons y9 r9 => exact Nat.lt_trans (hBd y9 (by simp)).1 (by decide)
  refine lv_aload_n hx hb d_L_law_399 rfl (lv_at hl 1 rfl) ?_
  refine lv_aload_n hx hb d_L_law_400 rfl (lv_at hl 0 rfl) ?_
  refine lv_iload hx hb d_L_law_401 (lv_at hl 4 rfl) ?_
  refine lv_iconst (v := 1) hx hb d_L_law_403 (by decide) ?_
  refine lv_iadd hx hb d_L_law_404 ?_
  refine lv_topi (fun y1 ey1 => ?_)
  obtain rfl : y1 = nI (2 * cnt + 1) := ey1.trans (nI_add (2 * cnt) 1)
  clear ey1
  refine va_sld hx hb hX hbl hbA hS (vp_in_nI (n := (2 * cnt + 1)) (by omega) (by omega)) d_L_law_405 ?_
  refine lv_topi (fun y2 ey2 => ?_)
  obtain rfl : y2 = xs (2 * cnt + 1) := ey2.trans (congrArg xs (nI_clamp (by omega)))
  clear ey2
  refine lv_aload_n hx hb d_L_law_406 rfl (lv_at hl 3 rfl) ?_
  have hFc := sw_freeR hD hS hA
  have hPo := hP
  have hDo := hD
  refine va_calli (vx_runSW (As := [.ref h, .int (xs (2 * cnt + 1)), .ref qo]) (rest := []) ⟨hx, hb, hml, hown, hg⟩ (c_L_sweep l hl9 D _ s.heap.size _ qo cL o h cn f v w z p0 s0 (xs (2 * cnt + 1)) rfl) (vx_cwSW 3 hg (gw_S gw_303 gw_304 gw_25 gw_305) rfl rfl rfl (by decide +kernel) ⟨Nat.le_of_ble_eq_true rfl, Nat.le_of_ble_eq_true rfl⟩) (pre_wrS (sw_PR hP) hK hN (sw_DR hD) hS hAN hN0 hE) rfl rfl hl.1 rfl (lv_room (Nat.le_of_ble_eq_true rfl)) d_L_law_407 ⟨by show _ ≤ 601024; omega, by show _ ≤ 7293034; omega⟩) hS (fun q _ h => hFc q h) hFc (fun r u t H locs ht hvm hw hB hz1 hk1 hS => ?_)
  obtain ⟨hP1, hK1, hD1⟩ := hB
  rw [ht] at hP1
  obtain ⟨hP, hD⟩ := sw_join hPo hDo hk1 hFc hP1 hD1
  clear hPo hDo hP1 hK1 hD1 hk1 hz1 hFc ht hvm
  rcases hw with ⟨rfl, hthr, rfl⟩ | ⟨rfl, ans, ws1, ⟨k, hk2, hkn, hans, rfl⟩, rfl⟩
  · refine lv_istore (lv' := [(5, .int 1), (0, .ref b), (1, .ref h), (2, .ref hm), (3, .ref qo), (4, .int (nI (2 * cnt)))]) hx hb d_L_law_410 hl (by decide) rfl (fun ls hl => ?_)
    refine lv_aload_n hx hb d_L_law_412 rfl (lv_at hl 3 rfl) ?_
    refine lv_aload_n hx hb d_L_law_413 rfl (lv_at hl 1 rfl) ?_
    refine lv_iload hx hb d_L_law_414 (lv_at hl 5 rfl) ?_
    refine lv_iconst (v := 1) hx hb d_L_law_416 (by decide) ?_
    refine lv_iadd hx hb d_L_law_417 ?_
    refine lv_topi (fun y3 ey3 => ?_)
    obtain rfl : y3 = nI (2 * cnt + 1) := ey3.trans (nI_add (2 * cnt) 1)
    clear ey3
    refine va_sld hx hb hX hbl hbA hS (vp_in_nI (n := (2 * cnt + 1)) (by omega) (by omega)) d_L_law_418 ?_
    refine lv_topi (fun y4 ey4 => ?_)
    obtain rfl : y4 = xs (2 * cnt + 1) := ey4.trans (congrArg xs (nI_clamp (by omega)))
    clear ey4
    replace hP := sw_P_perm hP List.perm_append_comm
    replace hD := sw_D_perm2 hD List.perm_append_comm
    have hFc := sw_freeR hD hS hA
    have hPo := hP
    have hDo := hD
    refine va_calli (va_runV (As := [.int (xs (2 * cnt + 1))]) (rest := []) ⟨hx, hb, hml, hown, hg⟩ (c_M_sweep l D _ s.heap.size _ hm qs qt qm cI cJ cZ th cn nw v w z (hdB s0) za ta ka (xs (2 * cnt + 1)) p0 s0 f hJ.1 rfl rfl rfl rfl hnb) (cwV 1 hg (gw_V gw_437 gw_438 gw_439 gw_28 gw_440) rfl rfl rfl (by decide +kernel) ⟨Nat.le_of_ble_eq_true rfl, Nat.le_of_ble_eq_true rfl⟩) (pre_wrV (sw_PR hP) hK hN (sw_DR hD) hS hAN hN0 hE (ci := 2) (k := 0) rfl rfl) rfl rfl hl.1 rfl (lv_room (Nat.le_of_ble_eq_true rfl)) d_L_law_419 ⟨by show _ ≤ 601024; omega, by show _ ≤ 7293034; omega⟩) hS (fun q _ h => hFc q h) hFc (fun r6 u t H locs ht hvm hw hB hz1 hk1 hS => ?_)
    obtain ⟨hP1, hK1, hD1⟩ := hB
    rw [ht] at hP1
    obtain ⟨hP, hD⟩ := sw_join hPo hDo hk1 hFc hP1 hD1
    replace hP := sw_P_perm hP List.perm_append_comm
    replace hD := sw_D_perm2 hD List.perm_append_comm
    clear hPo hDo hP1 hK1 hD1 hk1 hz1 hFc ht hvm
    rcases hw with ⟨hm1, rfl⟩ | ⟨k2, hm2, hm3, rfl, nw', za', ta', ka', hn1, hn2, rfl, hI9⟩
    · replace hP : va_P D classes (mW hm qs qt qm cI cJ cZ 1 cn nw v w z (hdB s0) za ta ka ++ (oW qo cL o ++ cW h cn f v w z p0 s0)) H := hP
      replace hD : va_D (fun q => s.heap.size ≤ q) (mW hm qs qt qm cI cJ cZ 1 cn nw v w z (hdB s0) za ta ka ++ (oW qo cL o ++ cW h cn f v w z p0 s0)) := hD
      refine lv_istore (lv' := [(6, .int r6), (5, .int 1), (0, .ref b), (1, .ref h), (2, .ref hm), (3, .ref qo), (4, .int (nI (2 * cnt)))]) hx hb d_L_law_422 hl (by decide) rfl (fun ls hl => ?_)
      refine lv_aload_n hx hb d_L_law_424 rfl (lv_at hl 4 rfl) ?_
      refine vp_callSi (va_runV (As := []) (rest := []) ⟨hx, hb, hml, hown, hg⟩ (c_M_thrown l D _ hm qs qt qm cI cJ cZ 1 cn nw v w z (hdB s0) za ta ka rfl rfl rfl) (cwV 0 hg (gw_V gw_385 gw_386 gw_387 gw_28 gw_388) rfl rfl rfl (by decide +kernel) ⟨Nat.le_of_ble_eq_true rfl, Nat.le_of_ble_eq_true rfl⟩) (pre_roV (sw_PL hP) hK hN (ci := 2) (k := 0) rfl rfl) rfl rfl hl.1 rfl (lv_room (Nat.le_of_ble_eq_true rfl)) d_L_law_425 ⟨by show _ ≤ 601024; omega, by show _ ≤ 7293034; omega⟩).run (fun r7 hr7 => ?_)
      subst hr7
      refine lv_iload hx hb d_L_law_428 (lv_at hl 1 rfl) ?_
      refine lv_icmp_eq (tgt := 435) hx hb d_L_law_430 (by decide) (fun c_430 => ?_) (fun c_430 => ?_)
      · refine lv_iload hx hb d_L_law_435 (lv_at hl 1 rfl) ?_
        refine lv_if_ne (tgt := 452) hx hb d_L_law_437 (by decide) (fun c_437 => ?_) (fun c_437 => ?_)
        · refine lv_goto (tgt := 587) hx hb d_L_law_452 (by decide) ?_
          obtain ⟨j5, ej5⟩ : ∃ y : Int32, y = nI (2 * cnt) + 2 := ⟨_, rfl⟩
          refine lv_iinc (v := j5) (lv' := [(4, .int j5), (6, .int r6), (5, .int 1), (0, .ref b), (1, .ref h), (2, .ref hm), (3, .ref qo)]) hx hb d_L_law_587 hl (k := 6) rfl (by rw [ej5]; rfl) (by decide) rfl (fun ls hl => ?_)
          replace ej5 : j5 = nI (2 * (cnt + 1)) := ej5.trans (nI_add (2 * cnt) 2)
          subst ej5
          refine lv_goto (tgt := 23) hx hb d_L_law_590 (by decide) ?_
          refine W.widen (k := 7 + 2 * (cnt + 1)) (n := 49182 + 12 * (cnt + 1)) (by omega) (by omega) ?_
          exact hk cn f nw v w z p0 s0 za ta ka 1 o _ _ ls hJ h16 (by omega) hP hD hS (lv_sub hl [3, 4, 5, 6, 0] rfl)
        · exact absurd c_437 (by decide)
      · exact absurd rfl c_430
    · exact absurd hthr (by rw [hm3]; exact (rng_no (lo := 0) (Nat.zero_le k2) hm2 (by decide) (by decide)))
  · refine lv_istore (lv' := [(5, .int 0), (0, .ref b), (1, .ref h), (2, .ref hm), (3, .ref qo), (4, .int (nI (2 * cnt)))]) hx hb d_L_law_410 hl (by decide) rfl (fun ls hl => ?_)
    refine lv_aload_n hx hb d_L_law_412 rfl (lv_at hl 3 rfl) ?_
    refine lv_aload_n hx hb d_L_law_413 rfl (lv_at hl 1 rfl) ?_
    refine lv_iload hx hb d_L_law_414 (lv_at hl 5 rfl) ?_
    refine lv_iconst (v := 1) hx hb d_L_law_416 (by decide) ?_
    refine lv_iadd hx hb d_L_law_417 ?_
    refine lv_topi (fun y6 ey6 => ?_)
    obtain rfl : y6 = nI (2 * cnt + 1) := ey6.trans (nI_add (2 * cnt) 1)
    clear ey6
    refine va_sld hx hb hX hbl hbA hS (vp_in_nI (n := (2 * cnt + 1)) (by omega) (by omega)) d_L_law_418 ?_
    refine lv_topi (fun y7 ey7 => ?_)
    obtain rfl : y7 = xs (2 * cnt + 1) := ey7.trans (congrArg xs (nI_clamp (by omega)))
    clear ey7
    replace hP := sw_P_perm hP List.perm_append_comm
    replace hD := sw_D_perm2 hD List.perm_append_comm
    have hFc := sw_freeR hD hS hA
    have hPo := hP
    have hDo := hD
    refine va_calli (va_runV (As := [.int (xs (2 * cnt + 1))]) (rest := []) ⟨hx, hb, hml, hown, hg⟩ (c_M_sweep l D _ s.heap.size _ hm qs qt qm cI cJ cZ th cn nw v w z (hdB s0) za ta ka (xs (2 * cnt + 1)) p0 s0 f hJ.1 rfl rfl rfl rfl hnb) (cwV 1 hg (gw_V gw_437 gw_438 gw_439 gw_28 gw_440) rfl rfl rfl (by decide +kernel) ⟨Nat.le_of_ble_eq_true rfl, Nat.le_of_ble_eq_true rfl⟩) (pre_wrV (sw_PR hP) hK hN (sw_DR hD) hS hAN hN0 hE (ci := 2) (k := 0) rfl rfl) rfl rfl hl.1 rfl (lv_room (Nat.le_of_ble_eq_true rfl)) d_L_law_419 ⟨by show _ ≤ 601024; omega, by show _ ≤ 7293034; omega⟩) hS (fun q _ h => hFc q h) hFc (fun r6 u t H locs ht hvm hw hB hz1 hk1 hS => ?_)
    obtain ⟨hP1, hK1, hD1⟩ := hB
    rw [ht] at hP1
    obtain ⟨hP, hD⟩ := sw_join hPo hDo hk1 hFc hP1 hD1
    replace hP := sw_P_perm hP List.perm_append_comm
    replace hD := sw_D_perm2 hD List.perm_append_comm
    clear hPo hDo hP1 hK1 hD1 hk1 hz1 hFc ht hvm
    rcases hw with ⟨hm1, rfl⟩ | ⟨k2, hm2, hm3, rfl, nw', za', ta', ka', hn1, hn2, rfl, hI9⟩
    · exact absurd hm1 (by rw [hkn]; exact (rng_no (lo := 0) (Nat.zero_le k) hk2 (by decide) (by decide)))
    · have hkk : k2 = k := (nI_eq (by omega) (by omega)).mp (hm3.symm.trans hkn)
      subst hkk
      replace hP : va_P D classes (mW hm qs qt qm cI cJ cZ 0 cn nw' v ((swR k2 p0 s0 f w z).2.2.2.2.1) ((swR k2 p0 s0 f w z).2.2.2.2.2) (hdB (swR k2 p0 s0 f w z).2.2.1) za' ta' ka' ++ (oW qo cL (vp_updL o 0 ans.toInt64) ++ cW h cn ((swR k2 p0 s0 f w z).2.2.2.1) v ((swR k2 p0 s0 f w z).2.2.2.2.1) ((swR k2 p0 s0 f w z).2.2.2.2.2) ((swR k2 p0 s0 f w z).2.1) ((swR k2 p0 s0 f w z).2.2.1))) H := hP
      replace hD : va_D (fun q => s.heap.size ≤ q) (mW hm qs qt qm cI cJ cZ 0 cn nw' v ((swR k2 p0 s0 f w z).2.2.2.2.1) ((swR k2 p0 s0 f w z).2.2.2.2.2) (hdB (swR k2 p0 s0 f w z).2.2.1) za' ta' ka' ++ (oW qo cL (vp_updL o 0 ans.toInt64) ++ cW h cn ((swR k2 p0 s0 f w z).2.2.2.1) v ((swR k2 p0 s0 f w z).2.2.2.2.1) ((swR k2 p0 s0 f w z).2.2.2.2.2) ((swR k2 p0 s0 f w z).2.1) ((swR k2 p0 s0 f w z).2.2.1))) := hD
      refine lv_istore (lv' := [(6, .int (nI (swR k2 p0 s0 f w z).1)), (5, .int 0), (0, .ref b), (1, .ref h), (2, .ref hm), (3, .ref qo), (4, .int (nI (2 * cnt)))]) hx hb d_L_law_422 hl (by decide) rfl (fun ls hl => ?_)
      refine lv_aload_n hx hb d_L_law_424 rfl (lv_at hl 4 rfl) ?_
      refine vp_callSi (va_runV (As := []) (rest := []) ⟨hx, hb, hml, hown, hg⟩ (c_M_thrown l D _ hm qs qt qm cI cJ cZ 0 cn nw' v ((swR k2 p0 s0 f w z).2.2.2.2.1) ((swR k2 p0 s0 f w z).2.2.2.2.2) (hdB (swR k2 p0 s0 f w z).2.2.1) za' ta' ka' rfl rfl rfl) (cwV 0 hg (gw_V gw_385 gw_386 gw_387 gw_28 gw_388) rfl rfl rfl (by decide +kernel) ⟨Nat.le_of_ble_eq_true rfl, Nat.le_of_ble_eq_true rfl⟩) (pre_roV (sw_PL hP) hK hN (ci := 2) (k := 0) rfl rfl) rfl rfl hl.1 rfl (lv_room (Nat.le_of_ble_eq_true rfl)) d_L_law_425 ⟨by show _ ≤ 601024; omega, by show _ ≤ 7293034; omega⟩).run (fun r7 hr7 => ?_)
      subst hr7
      refine lv_iload hx hb d_L_law_428 (lv_at hl 1 rfl) ?_
      refine lv_icmp_eq (tgt := 435) hx hb d_L_law_430 (by decide) (fun c_430 => ?_) (fun c_430 => ?_)
      · refine lv_iload hx hb d_L_law_435 (lv_at hl 1 rfl) ?_
        refine lv_if_ne (tgt := 452) hx hb d_L_law_437 (by decide) (fun c_437 => ?_) (fun c_437 => ?_)
        · exact absurd rfl c_437
        · refine lv_aload_n hx hb d_L_law_440 rfl (lv_at hl 5 rfl) ?_
          refine lv_iconst (v := 0) hx hb d_L_law_441 (by decide) ?_
          refine va_lald hx hb hK hP 4 3 rfl rfl (vp_in_nI (n := 0) (by decide) (by decide)) d_L_law_442 ?_
          refine lv_topl (fun y8 ey8 => ?_)
          obtain rfl : y8 = (ans).toInt64 := ey8.trans (show (vp_updL o 0 ans.toInt64) 0 = _ from pk_uLs)
          clear ey8
          refine lv_iload hx hb d_L_law_443 (lv_at hl 0 rfl) ?_
          refine lv_i2l (v := Int32.toInt64 (nI (swR k2 p0 s0 f w z).1)) hx hb d_L_law_445 rfl ?_
          refine W.lcmp hx hb d_L_law_446 ?_
          refine lv_if_eq (tgt := 452) hx hb d_L_law_447 (by decide) (fun c_447 => ?_) (fun c_447 => ?_)
          · refine lv_goto (tgt := 587) hx hb d_L_law_452 (by decide) ?_
            obtain ⟨j9, ej9⟩ : ∃ y : Int32, y = nI (2 * cnt) + 2 := ⟨_, rfl⟩
            refine lv_iinc (v := j9) (lv' := [(4, .int j9), (6, .int (nI (swR k2 p0 s0 f w z).1)), (5, .int 0), (0, .ref b), (1, .ref h), (2, .ref hm), (3, .ref qo)]) hx hb d_L_law_587 hl (k := 6) rfl (by rw [ej9]; rfl) (by decide) rfl (fun ls hl => ?_)
            replace ej9 : j9 = nI (2 * (cnt + 1)) := ej9.trans (nI_add (2 * cnt) 2)
            subst ej9
            refine lv_goto (tgt := 23) hx hb d_L_law_590 (by decide) ?_
            refine W.widen (k := 7 + 2 * (cnt + 1)) (n := 49182 + 12 * (cnt + 1)) (by omega) (by omega) ?_
            exact hk cn ((swR k2 p0 s0 f w z).2.2.2.1) nw' v ((swR k2 p0 s0 f w z).2.2.2.2.1) ((swR k2 p0 s0 f w z).2.2.2.2.2) ((swR k2 p0 s0 f w z).2.1) ((swR k2 p0 s0 f w z).2.2.1) za' ta' ka' 0 (vp_updL o 0 ans.toInt64) _ _ ls (J_sweep hJ hn1 hI9) h16 (by omega) hP hD hS (lv_sub hl [3, 4, 5, 6, 0] rfl)
          · exact absurd ((lg_cmp_eq _ _).mpr (by rw [hans])) c_447
      · exact absurd rfl c_430
set_option maxHeartbeats 4000000 in
set_option maxRecDepth 100000 in
theorem lo_count {p : Program} {l : Launch} {e : Env} {s : State} {m : MethodId} {below : List Frame} {meth : Method} {c : Code} {D : va_G} {b L : Nat} {xs : Nat → Int32} {h hm qs qt qm qo : Nat} {cI cJ cZ cL : ClassId} (hl9 : l.stackTraces = false) (C0 : lw_At p s m meth c b L xs) (hK : va_K D classes [(cI, .int), (cJ, .int), (cZ, .boolean), (cL, .long)] s) (hN : NW s) (hE : EV s.heap.size s s.heap) (cnt : Nat) (hc : 2 * cnt + 2 ≤ L) (hL : L ≤ 1024) (hk : LW p l e s m below meth c D b h hm qs qt qm qo cI cJ cZ cL (cnt + 1)) (cn f nw : Nat) (v w z : Int32) (p0 s0 : List AP) (za ta ka : Nat → Int32) (th : Int32) (o : Nat → Int64) (H : Heap) (locs : List Loc) (ls : Array Slot) (hJ : JJ cn f nw p0 s0 za ta ka) (h16 : 16 ≤ cn) (hnw : nw ≤ 5001 * cnt) (hP : va_P D classes (mW hm qs qt qm cI cJ cZ th cn nw v w z (hdB s0) za ta ka ++ (oW qo cL o ++ cW h cn f v w z p0 s0)) H) (hD : va_D (fun q => s.heap.size ≤ q) (mW hm qs qt qm cI cJ cZ th cn nw v w z (hdB s0) za ta ka ++ (oW qo cL o ++ cW h cn f v w z p0 s0))) (hS : va_S (fun q => s.heap.size ≤ q) s.heap H locs) (hl : lv_has ls 7 [(0, .ref b), (1, .ref h), (2, .ref hm), (3, .ref qo), (4, .int (nI (2 * cnt)))]) : W p l e room_1 s m #[Value.ref b] below meth c H locs (7 + 2 * cnt) (49182 + 12 * cnt) (lw_Z below #[Value.ref b] s) (F0 m 518 ls []) := by
  obtain ⟨hx, hb, hr, hml, hown, hts, hX, hbl, hlocks, hgv⟩ := C0
  have hown : s.vm.findClass R_L = some m.cls := hown
  have hg := lw_hg hts
  have hA : ∀ q : Nat, s.heap.size ≤ q → (fun q : Nat => s.heap.size ≤ q) q := fun _ h => h
  have hbA : ¬ (fun q : Nat => s.heap.size ≤ q) b := Nat.not_le.mpr hbl
  have hAN : ∀ q : Nat, (fun q : Nat => s.heap.size ≤ q) q → s.heap.size ≤ q := fun _ h => h
  have hN0 := Nat.le_refl s.heap.size
  have hnb : nw + 5001 < 2 ^ 30 := by omega
  have hcn := hJ.1.2.2.1
  have hBd := hJ.bd
  have hhd : hdB s0 < 2 ^ 31 := by cases s0 with | nil => decide | cons y9 r9 => exact Nat.lt_trans (hBd y9 (by simp)).1 (by decide)
  refine lv_aload_n hx hb d_L_law_518 rfl (lv_at hl 1 rfl) ?_
  refine lv_aload_n hx hb d_L_law_519 rfl (lv_at hl 0 rfl) ?_
  refine lv_iload hx hb d_L_law_520 (lv_at hl 4 rfl) ?_
  refine lv_iconst (v := 1) hx hb d_L_law_522 (by decide) ?_
  refine lv_iadd hx hb d_L_law_523 ?_
  refine lv_topi (fun y1 ey1 => ?_)
  obtain rfl : y1 = nI (2 * cnt + 1) := ey1.trans (nI_add (2 * cnt) 1)
  clear ey1
  refine va_sld hx hb hX hbl hbA hS (vp_in_nI (n := (2 * cnt + 1)) (by omega) (by omega)) d_L_law_524 ?_
  refine lv_topi (fun y2 ey2 => ?_)
  obtain rfl : y2 = xs (2 * cnt + 1) := ey2.trans (congrArg xs (nI_clamp (by omega)))
  clear ey2
  refine lv_aload_n hx hb d_L_law_525 rfl (lv_at hl 3 rfl) ?_
  have hFc := sw_freeR hD hS hA
  have hPo := hP
  have hDo := hD
  refine va_calli (vx_runSW (As := [.ref h, .int (xs (2 * cnt + 1)), .ref qo]) (rest := []) ⟨hx, hb, hml, hown, hg⟩ (c_L_count l hl9 D _ s.heap.size _ qo cL o h cn f v w z p0 s0 (xs (2 * cnt + 1)) rfl hBd) (vx_cwSW 3 hg (gw_S gw_323 gw_324 gw_25 gw_325) rfl rfl rfl (by decide +kernel) ⟨Nat.le_of_ble_eq_true rfl, Nat.le_of_ble_eq_true rfl⟩) (pre_wrS (sw_PR hP) hK hN (sw_DR hD) hS hAN hN0 hE) rfl rfl hl.1 rfl (lv_room (Nat.le_of_ble_eq_true rfl)) d_L_law_526 ⟨by show _ ≤ 601024; omega, by show _ ≤ 7293034; omega⟩) hS (fun q _ h => hFc q h) hFc (fun r u t H locs ht hvm hw hB hz1 hk1 hS => ?_)
  obtain ⟨hP1, hK1, hD1⟩ := hB
  rw [ht] at hP1
  obtain ⟨hP, hD⟩ := sw_join hPo hDo hk1 hFc hP1 hD1
  clear hPo hDo hP1 hK1 hD1 hk1 hz1 hFc ht hvm
  rcases hw with ⟨rfl, hthr, rfl⟩ | ⟨rfl, ans, ws1, ⟨k, hk2, hkn, hans, rfl⟩, rfl⟩
  · refine lv_istore (lv' := [(5, .int 1), (0, .ref b), (1, .ref h), (2, .ref hm), (3, .ref qo), (4, .int (nI (2 * cnt)))]) hx hb d_L_law_529 hl (by decide) rfl (fun ls hl => ?_)
    refine lv_aload_n hx hb d_L_law_531 rfl (lv_at hl 3 rfl) ?_
    refine lv_aload_n hx hb d_L_law_532 rfl (lv_at hl 1 rfl) ?_
    refine lv_iload hx hb d_L_law_533 (lv_at hl 5 rfl) ?_
    refine lv_iconst (v := 1) hx hb d_L_law_535 (by decide) ?_
    refine lv_iadd hx hb d_L_law_536 ?_
    refine lv_topi (fun y3 ey3 => ?_)
    obtain rfl : y3 = nI (2 * cnt + 1) := ey3.trans (nI_add (2 * cnt) 1)
    clear ey3
    refine va_sld hx hb hX hbl hbA hS (vp_in_nI (n := (2 * cnt + 1)) (by omega) (by omega)) d_L_law_537 ?_
    refine lv_topi (fun y4 ey4 => ?_)
    obtain rfl : y4 = xs (2 * cnt + 1) := ey4.trans (congrArg xs (nI_clamp (by omega)))
    clear ey4
    replace hP := sw_P_perm hP List.perm_append_comm
    replace hD := sw_D_perm2 hD List.perm_append_comm
    have hFc := sw_freeR hD hS hA
    have hPo := hP
    have hDo := hD
    refine va_calli (va_runV (As := [.int (xs (2 * cnt + 1))]) (rest := []) ⟨hx, hb, hml, hown, hg⟩ (c_M_count l D _ s.heap.size _ hm qs qt qm cI cJ cZ th cn nw v w z (hdB s0) za ta ka (xs (2 * cnt + 1)) (p0 ++ s0) f hJ.1 rfl rfl rfl) (cwV 1 hg (gw_V gw_457 gw_458 gw_459 gw_28 gw_460) rfl rfl rfl (by decide +kernel) ⟨Nat.le_of_ble_eq_true rfl, Nat.le_of_ble_eq_true rfl⟩) (pre_wrV (sw_PR hP) hK hN (sw_DR hD) hS hAN hN0 hE (ci := 2) (k := 0) rfl rfl) rfl rfl hl.1 rfl (lv_room (Nat.le_of_ble_eq_true rfl)) d_L_law_538 ⟨by show _ ≤ 601024; omega, by show _ ≤ 7293034; omega⟩) hS (fun q _ h => hFc q h) hFc (fun r6 u t H locs ht hvm hw hB hz1 hk1 hS => ?_)
    obtain ⟨hP1, hK1, hD1⟩ := hB
    rw [ht] at hP1
    obtain ⟨hP, hD⟩ := sw_join hPo hDo hk1 hFc hP1 hD1
    replace hP := sw_P_perm hP List.perm_append_comm
    replace hD := sw_D_perm2 hD List.perm_append_comm
    clear hPo hDo hP1 hK1 hD1 hk1 hz1 hFc ht hvm
    rcases hw with ⟨hm1, rfl⟩ | ⟨k2, hm2, hm3, rfl, rfl⟩
    · replace hP : va_P D classes (mW hm qs qt qm cI cJ cZ 1 cn nw v w z (hdB s0) za ta ka ++ (oW qo cL o ++ cW h cn f v w z p0 s0)) H := hP
      replace hD : va_D (fun q => s.heap.size ≤ q) (mW hm qs qt qm cI cJ cZ 1 cn nw v w z (hdB s0) za ta ka ++ (oW qo cL o ++ cW h cn f v w z p0 s0)) := hD
      refine lv_istore (lv' := [(6, .int r6), (5, .int 1), (0, .ref b), (1, .ref h), (2, .ref hm), (3, .ref qo), (4, .int (nI (2 * cnt)))]) hx hb d_L_law_541 hl (by decide) rfl (fun ls hl => ?_)
      refine lv_aload_n hx hb d_L_law_543 rfl (lv_at hl 4 rfl) ?_
      refine vp_callSi (va_runV (As := []) (rest := []) ⟨hx, hb, hml, hown, hg⟩ (c_M_thrown l D _ hm qs qt qm cI cJ cZ 1 cn nw v w z (hdB s0) za ta ka rfl rfl rfl) (cwV 0 hg (gw_V gw_385 gw_386 gw_387 gw_28 gw_388) rfl rfl rfl (by decide +kernel) ⟨Nat.le_of_ble_eq_true rfl, Nat.le_of_ble_eq_true rfl⟩) (pre_roV (sw_PL hP) hK hN (ci := 2) (k := 0) rfl rfl) rfl rfl hl.1 rfl (lv_room (Nat.le_of_ble_eq_true rfl)) d_L_law_544 ⟨by show _ ≤ 601024; omega, by show _ ≤ 7293034; omega⟩).run (fun r7 hr7 => ?_)
      subst hr7
      refine lv_iload hx hb d_L_law_547 (lv_at hl 1 rfl) ?_
      refine lv_icmp_eq (tgt := 554) hx hb d_L_law_549 (by decide) (fun c_549 => ?_) (fun c_549 => ?_)
      · refine lv_iload hx hb d_L_law_554 (lv_at hl 1 rfl) ?_
        refine lv_if_ne (tgt := 571) hx hb d_L_law_556 (by decide) (fun c_556 => ?_) (fun c_556 => ?_)
        · refine lv_goto (tgt := 587) hx hb d_L_law_571 (by decide) ?_
          obtain ⟨j5, ej5⟩ : ∃ y : Int32, y = nI (2 * cnt) + 2 := ⟨_, rfl⟩
          refine lv_iinc (v := j5) (lv' := [(4, .int j5), (6, .int r6), (5, .int 1), (0, .ref b), (1, .ref h), (2, .ref hm), (3, .ref qo)]) hx hb d_L_law_587 hl (k := 6) rfl (by rw [ej5]; rfl) (by decide) rfl (fun ls hl => ?_)
          replace ej5 : j5 = nI (2 * (cnt + 1)) := ej5.trans (nI_add (2 * cnt) 2)
          subst ej5
          refine lv_goto (tgt := 23) hx hb d_L_law_590 (by decide) ?_
          refine W.widen (k := 7 + 2 * (cnt + 1)) (n := 49182 + 12 * (cnt + 1)) (by omega) (by omega) ?_
          exact hk cn f nw v w z p0 s0 za ta ka 1 o _ _ ls hJ h16 (by omega) hP hD hS (lv_sub hl [3, 4, 5, 6, 0] rfl)
        · exact absurd c_556 (by decide)
      · exact absurd rfl c_549
    · exact absurd hthr (by rw [hm3]; exact (rng_no (lo := 0) (Nat.zero_le k2) hm2 (by decide) (by decide)))
  · refine lv_istore (lv' := [(5, .int 0), (0, .ref b), (1, .ref h), (2, .ref hm), (3, .ref qo), (4, .int (nI (2 * cnt)))]) hx hb d_L_law_529 hl (by decide) rfl (fun ls hl => ?_)
    refine lv_aload_n hx hb d_L_law_531 rfl (lv_at hl 3 rfl) ?_
    refine lv_aload_n hx hb d_L_law_532 rfl (lv_at hl 1 rfl) ?_
    refine lv_iload hx hb d_L_law_533 (lv_at hl 5 rfl) ?_
    refine lv_iconst (v := 1) hx hb d_L_law_535 (by decide) ?_
    refine lv_iadd hx hb d_L_law_536 ?_
    refine lv_topi (fun y6 ey6 => ?_)
    obtain rfl : y6 = nI (2 * cnt + 1) := ey6.trans (nI_add (2 * cnt) 1)
    clear ey6
    refine va_sld hx hb hX hbl hbA hS (vp_in_nI (n := (2 * cnt + 1)) (by omega) (by omega)) d_L_law_537 ?_
    refine lv_topi (fun y7 ey7 => ?_)
    obtain rfl : y7 = xs (2 * cnt + 1) := ey7.trans (congrArg xs (nI_clamp (by omega)))
    clear ey7
    replace hP := sw_P_perm hP List.perm_append_comm
    replace hD := sw_D_perm2 hD List.perm_append_comm
    have hFc := sw_freeR hD hS hA
    have hPo := hP
    have hDo := hD
    refine va_calli (va_runV (As := [.int (xs (2 * cnt + 1))]) (rest := []) ⟨hx, hb, hml, hown, hg⟩ (c_M_count l D _ s.heap.size _ hm qs qt qm cI cJ cZ th cn nw v w z (hdB s0) za ta ka (xs (2 * cnt + 1)) (p0 ++ s0) f hJ.1 rfl rfl rfl) (cwV 1 hg (gw_V gw_457 gw_458 gw_459 gw_28 gw_460) rfl rfl rfl (by decide +kernel) ⟨Nat.le_of_ble_eq_true rfl, Nat.le_of_ble_eq_true rfl⟩) (pre_wrV (sw_PR hP) hK hN (sw_DR hD) hS hAN hN0 hE (ci := 2) (k := 0) rfl rfl) rfl rfl hl.1 rfl (lv_room (Nat.le_of_ble_eq_true rfl)) d_L_law_538 ⟨by show _ ≤ 601024; omega, by show _ ≤ 7293034; omega⟩) hS (fun q _ h => hFc q h) hFc (fun r6 u t H locs ht hvm hw hB hz1 hk1 hS => ?_)
    obtain ⟨hP1, hK1, hD1⟩ := hB
    rw [ht] at hP1
    obtain ⟨hP, hD⟩ := sw_join hPo hDo hk1 hFc hP1 hD1
    replace hP := sw_P_perm hP List.perm_append_comm
    replace hD := sw_D_perm2 hD List.perm_append_comm
    clear hPo hDo hP1 hK1 hD1 hk1 hz1 hFc ht hvm
    rcases hw with ⟨hm1, rfl⟩ | ⟨k2, hm2, hm3, rfl, rfl⟩
    · exact absurd hm1 (by rw [hkn]; exact (rng_no (lo := 0) (Nat.zero_le k) hk2 (by decide) (by decide)))
    · have hkk : k2 = k := (nI_eq (by omega) (by omega)).mp (hm3.symm.trans hkn)
      subst hkk
      replace hP : va_P D classes (mW hm qs qt qm cI cJ cZ 0 cn nw v w z (hdB s0) za ta ka ++ (oW qo cL (vp_updL o 0 ans.toInt64) ++ cW h cn f v w z p0 s0)) H := hP
      replace hD : va_D (fun q => s.heap.size ≤ q) (mW hm qs qt qm cI cJ cZ 0 cn nw v w z (hdB s0) za ta ka ++ (oW qo cL (vp_updL o 0 ans.toInt64) ++ cW h cn f v w z p0 s0)) := hD
      refine lv_istore (lv' := [(6, .int (cntV cn v w z (p0 ++ s0) k2)), (5, .int 0), (0, .ref b), (1, .ref h), (2, .ref hm), (3, .ref qo), (4, .int (nI (2 * cnt)))]) hx hb d_L_law_541 hl (by decide) rfl (fun ls hl => ?_)
      refine lv_aload_n hx hb d_L_law_543 rfl (lv_at hl 4 rfl) ?_
      refine vp_callSi (va_runV (As := []) (rest := []) ⟨hx, hb, hml, hown, hg⟩ (c_M_thrown l D _ hm qs qt qm cI cJ cZ 0 cn nw v w z (hdB s0) za ta ka rfl rfl rfl) (cwV 0 hg (gw_V gw_385 gw_386 gw_387 gw_28 gw_388) rfl rfl rfl (by decide +kernel) ⟨Nat.le_of_ble_eq_true rfl, Nat.le_of_ble_eq_true rfl⟩) (pre_roV (sw_PL hP) hK hN (ci := 2) (k := 0) rfl rfl) rfl rfl hl.1 rfl (lv_room (Nat.le_of_ble_eq_true rfl)) d_L_law_544 ⟨by show _ ≤ 601024; omega, by show _ ≤ 7293034; omega⟩).run (fun r7 hr7 => ?_)
      subst hr7
      refine lv_iload hx hb d_L_law_547 (lv_at hl 1 rfl) ?_
      refine lv_icmp_eq (tgt := 554) hx hb d_L_law_549 (by decide) (fun c_549 => ?_) (fun c_549 => ?_)
      · refine lv_iload hx hb d_L_law_554 (lv_at hl 1 rfl) ?_
        refine lv_if_ne (tgt := 571) hx hb d_L_law_556 (by decide) (fun c_556 => ?_) (fun c_556 => ?_)
        · exact absurd rfl c_556
        · refine lv_aload_n hx hb d_L_law_559 rfl (lv_at hl 5 rfl) ?_
          refine lv_iconst (v := 0) hx hb d_L_law_560 (by decide) ?_
          refine va_lald hx hb hK hP 4 3 rfl rfl (vp_in_nI (n := 0) (by decide) (by decide)) d_L_law_561 ?_
          refine lv_topl (fun y8 ey8 => ?_)
          obtain rfl : y8 = (ans).toInt64 := ey8.trans (show (vp_updL o 0 ans.toInt64) 0 = _ from pk_uLs)
          clear ey8
          refine lv_iload hx hb d_L_law_562 (lv_at hl 0 rfl) ?_
          refine lv_i2l (v := Int32.toInt64 (cntV cn v w z (p0 ++ s0) k2)) hx hb d_L_law_564 rfl ?_
          refine W.lcmp hx hb d_L_law_565 ?_
          refine lv_if_eq (tgt := 571) hx hb d_L_law_566 (by decide) (fun c_566 => ?_) (fun c_566 => ?_)
          · refine lv_goto (tgt := 587) hx hb d_L_law_571 (by decide) ?_
            obtain ⟨j9, ej9⟩ : ∃ y : Int32, y = nI (2 * cnt) + 2 := ⟨_, rfl⟩
            refine lv_iinc (v := j9) (lv' := [(4, .int j9), (6, .int (cntV cn v w z (p0 ++ s0) k2)), (5, .int 0), (0, .ref b), (1, .ref h), (2, .ref hm), (3, .ref qo)]) hx hb d_L_law_587 hl (k := 6) rfl (by rw [ej9]; rfl) (by decide) rfl (fun ls hl => ?_)
            replace ej9 : j9 = nI (2 * (cnt + 1)) := ej9.trans (nI_add (2 * cnt) 2)
            subst ej9
            refine lv_goto (tgt := 23) hx hb d_L_law_590 (by decide) ?_
            refine W.widen (k := 7 + 2 * (cnt + 1)) (n := 49182 + 12 * (cnt + 1)) (by omega) (by omega) ?_
            exact hk cn f nw v w z p0 s0 za ta ka 0 (vp_updL o 0 ans.toInt64) _ _ ls hJ h16 (by omega) hP hD hS (lv_sub hl [3, 4, 5, 6, 0] rfl)
          · exact absurd ((lg_cmp_eq _ _).mpr (by rw [hans])) c_566
      · exact absurd rfl c_549
set_option maxHeartbeats 4000000 in
set_option maxRecDepth 100000 in
theorem lo_begin {p : Program} {l : Launch} {e : Env} {s : State} {m : MethodId} {below : List Frame} {meth : Method} {c : Code} {D : va_G} {b L : Nat} {xs : Nat → Int32} {h hm qs qt qm qo : Nat} {cI cJ cZ cL : ClassId} (hl9 : l.stackTraces = false) (C0 : lw_At p s m meth c b L xs) (hK : va_K D classes [(cI, .int), (cJ, .int), (cZ, .boolean), (cL, .long)] s) (hN : NW s) (hE : EV s.heap.size s s.heap) (cnt : Nat) (hc : 2 * cnt + 2 ≤ L) (hL : L ≤ 1024) (hk : LW p l e s m below meth c D b h hm qs qt qm qo cI cJ cZ cL (cnt + 1)) (cn f nw : Nat) (v w z : Int32) (p0 s0 : List AP) (za ta ka : Nat → Int32) (th : Int32) (o : Nat → Int64) (H : Heap) (locs : List Loc) (ls : Array Slot) (hJ : JJ cn f nw p0 s0 za ta ka) (h16 : 16 ≤ cn) (hnw : nw ≤ 5001 * cnt) (hP : va_P D classes (mW hm qs qt qm cI cJ cZ th cn nw v w z (hdB s0) za ta ka ++ (oW qo cL o ++ cW h cn f v w z p0 s0)) H) (hD : va_D (fun q => s.heap.size ≤ q) (mW hm qs qt qm cI cJ cZ th cn nw v w z (hdB s0) za ta ka ++ (oW qo cL o ++ cW h cn f v w z p0 s0))) (hS : va_S (fun q => s.heap.size ≤ q) s.heap H locs) (hl : lv_has ls 7 [(0, .ref b), (1, .ref h), (2, .ref hm), (3, .ref qo), (4, .int (nI (2 * cnt)))]) : W p l e room_1 s m #[Value.ref b] below meth c H locs (7 + 2 * cnt) (49182 + 12 * cnt) (lw_Z below #[Value.ref b] s) (F0 m 375 ls []) := by
  obtain ⟨hx, hb, hr, hml, hown, hts, hX, hbl, hlocks, hgv⟩ := C0
  have hown : s.vm.findClass R_L = some m.cls := hown
  have hg := lw_hg hts
  have hA : ∀ q : Nat, s.heap.size ≤ q → (fun q : Nat => s.heap.size ≤ q) q := fun _ h => h
  have hbA : ¬ (fun q : Nat => s.heap.size ≤ q) b := Nat.not_le.mpr hbl
  have hAN : ∀ q : Nat, (fun q : Nat => s.heap.size ≤ q) q → s.heap.size ≤ q := fun _ h => h
  have hN0 := Nat.le_refl s.heap.size
  have hnb : nw + 5001 < 2 ^ 30 := by omega
  have hcn := hJ.1.2.2.1
  have hBd := hJ.bd
  have hhd : hdB s0 < 2 ^ 31 := by cases s0 with | nil => decide | cons y9 r9 => exact Nat.lt_trans (hBd y9 (by simp)).1 (by decide)
  refine lv_aload_n hx hb d_L_law_375 rfl (lv_at hl 1 rfl) ?_
  replace hP := sw_Pas hP
  replace hD := sw_Das hD
  have hFc := sw_freeR hD hS hA
  have hPo := hP
  have hDo := hD
  refine va_calli (vx_runSW (As := [.ref h]) (rest := []) ⟨hx, hb, hml, hown, hg⟩ (c_L_begin l hl9 D _ s.heap.size _ qo cL o h cn f v w z p0 s0 rfl) (vx_cwSW 1 hg (gw_S gw_296 gw_297 gw_25 gw_298) rfl rfl rfl (by decide +kernel) ⟨Nat.le_of_ble_eq_true rfl, Nat.le_of_ble_eq_true rfl⟩) (pre_wrS (sw_PR hP) hK hN (sw_DR hD) hS hAN hN0 hE) rfl rfl hl.1 rfl (lv_room (Nat.le_of_ble_eq_true rfl)) d_L_law_376 ⟨by show _ ≤ 601024; omega, by show _ ≤ 7293034; omega⟩) hS (fun q _ h => hFc q h) hFc (fun r u t H locs ht hvm hw hB hz1 hk1 hS => ?_)
  obtain ⟨hP1, hK1, hD1⟩ := hB
  rw [ht] at hP1
  obtain ⟨hP, hD⟩ := sw_join hPo hDo hk1 hFc hP1 hD1
  clear hPo hDo hP1 hK1 hD1 hk1 hz1 hFc ht hvm
  rw [List.append_assoc] at hP hD
  rcases hw with ⟨rfl, hs0, rfl⟩ | ⟨rfl, hs0, rfl⟩
  · refine lv_istore (lv' := [(5, .int 1), (0, .ref b), (1, .ref h), (2, .ref hm), (3, .ref qo), (4, .int (nI (2 * cnt)))]) hx hb d_L_law_379 hl (by decide) rfl (fun ls hl => ?_)
    refine lv_aload_n hx hb d_L_law_381 rfl (lv_at hl 3 rfl) ?_
    replace hP := sw_P_perm hP List.perm_append_comm
    replace hD := sw_D_perm2 hD List.perm_append_comm
    have hFc := sw_freeR hD hS hA
    have hPo := hP
    have hDo := hD
    refine va_callv (va_runV (As := []) (rest := []) ⟨hx, hb, hml, hown, hg⟩ (c_M_begin l D _ s.heap.size _ hm qs qt qm cI cJ cZ th cn nw v w z (hdB s0) za ta ka rfl rfl rfl hhd) (cwV 0 hg (gw_V gw_433 gw_434 gw_435 gw_28 gw_436) rfl rfl rfl (by decide +kernel) ⟨Nat.le_of_ble_eq_true rfl, Nat.le_of_ble_eq_true rfl⟩) (pre_wrV (sw_PR hP) hK hN (sw_DR hD) hS hAN hN0 hE (ci := 2) (k := 0) rfl rfl) rfl rfl hl.1 rfl (lv_room (Nat.le_of_ble_eq_true rfl)) d_L_law_382 ⟨by show _ ≤ 601024; omega, by show _ ≤ 7293034; omega⟩) hS (fun q _ h => hFc q h) hFc (fun u t H locs ht hvm hw hB hz1 hk1 hS => ?_)
    obtain ⟨hP1, hK1, hD1⟩ := hB
    rw [ht] at hP1
    obtain ⟨hP, hD⟩ := sw_join hPo hDo hk1 hFc hP1 hD1
    replace hP := sw_P_perm hP List.perm_append_comm
    replace hD := sw_D_perm2 hD List.perm_append_comm
    clear hPo hDo hP1 hK1 hD1 hk1 hz1 hFc ht hvm
    rcases hw with ⟨hm1, rfl⟩ | ⟨hm1, rfl⟩
    · exact absurd (hdB_0 hJ.1 hm1) hs0
    · replace hP : va_P D classes (mW hm qs qt qm cI cJ cZ 1 cn nw v w z (hdB s0) za ta ka ++ (oW qo cL o ++ cW h cn f v w z p0 s0)) H := hP
      replace hD : va_D (fun q => s.heap.size ≤ q) (mW hm qs qt qm cI cJ cZ 1 cn nw v w z (hdB s0) za ta ka ++ (oW qo cL o ++ cW h cn f v w z p0 s0)) := hD
      refine lv_aload_n hx hb d_L_law_385 rfl (lv_at hl 3 rfl) ?_
      refine vp_callSi (va_runV (As := []) (rest := []) ⟨hx, hb, hml, hown, hg⟩ (c_M_thrown l D _ hm qs qt qm cI cJ cZ 1 cn nw v w z (hdB s0) za ta ka rfl rfl rfl) (cwV 0 hg (gw_V gw_385 gw_386 gw_387 gw_28 gw_388) rfl rfl rfl (by decide +kernel) ⟨Nat.le_of_ble_eq_true rfl, Nat.le_of_ble_eq_true rfl⟩) (pre_roV (sw_PL hP) hK hN (ci := 2) (k := 0) rfl rfl) rfl rfl hl.1 rfl (lv_room (Nat.le_of_ble_eq_true rfl)) d_L_law_386 ⟨by show _ ≤ 601024; omega, by show _ ≤ 7293034; omega⟩).run (fun r7 hr7 => ?_)
      subst hr7
      refine lv_iload hx hb d_L_law_389 (lv_at hl 0 rfl) ?_
      refine lv_icmp_eq (tgt := 396) hx hb d_L_law_391 (by decide) (fun c_391 => ?_) (fun c_391 => ?_)
      · refine lv_goto (tgt := 587) hx hb d_L_law_396 (by decide) ?_
        obtain ⟨j1, ej1⟩ : ∃ y : Int32, y = nI (2 * cnt) + 2 := ⟨_, rfl⟩
        refine lv_iinc (v := j1) (lv' := [(4, .int j1), (5, .int 1), (0, .ref b), (1, .ref h), (2, .ref hm), (3, .ref qo)]) hx hb d_L_law_587 hl (k := 5) rfl (by rw [ej1]; rfl) (by decide) rfl (fun ls hl => ?_)
        replace ej1 : j1 = nI (2 * (cnt + 1)) := ej1.trans (nI_add (2 * cnt) 2)
        subst ej1
        refine lv_goto (tgt := 23) hx hb d_L_law_590 (by decide) ?_
        refine W.widen (k := 7 + 2 * (cnt + 1)) (n := 49182 + 12 * (cnt + 1)) (by omega) (by omega) ?_
        exact hk cn f nw v w z p0 s0 za ta ka 1 o _ _ ls hJ h16 (by omega) hP hD hS (lv_sub hl [2, 3, 4, 5, 0] rfl)
      · exact absurd rfl c_391
  · refine lv_istore (lv' := [(5, .int 0), (0, .ref b), (1, .ref h), (2, .ref hm), (3, .ref qo), (4, .int (nI (2 * cnt)))]) hx hb d_L_law_379 hl (by decide) rfl (fun ls hl => ?_)
    refine lv_aload_n hx hb d_L_law_381 rfl (lv_at hl 3 rfl) ?_
    replace hP := sw_P_perm hP List.perm_append_comm
    replace hD := sw_D_perm2 hD List.perm_append_comm
    have hFc := sw_freeR hD hS hA
    have hPo := hP
    have hDo := hD
    refine va_callv (va_runV (As := []) (rest := []) ⟨hx, hb, hml, hown, hg⟩ (c_M_begin l D _ s.heap.size _ hm qs qt qm cI cJ cZ th cn nw v w z (hdB s0) za ta ka rfl rfl rfl hhd) (cwV 0 hg (gw_V gw_433 gw_434 gw_435 gw_28 gw_436) rfl rfl rfl (by decide +kernel) ⟨Nat.le_of_ble_eq_true rfl, Nat.le_of_ble_eq_true rfl⟩) (pre_wrV (sw_PR hP) hK hN (sw_DR hD) hS hAN hN0 hE (ci := 2) (k := 0) rfl rfl) rfl rfl hl.1 rfl (lv_room (Nat.le_of_ble_eq_true rfl)) d_L_law_382 ⟨by show _ ≤ 601024; omega, by show _ ≤ 7293034; omega⟩) hS (fun q _ h => hFc q h) hFc (fun u t H locs ht hvm hw hB hz1 hk1 hS => ?_)
    obtain ⟨hP1, hK1, hD1⟩ := hB
    rw [ht] at hP1
    obtain ⟨hP, hD⟩ := sw_join hPo hDo hk1 hFc hP1 hD1
    replace hP := sw_P_perm hP List.perm_append_comm
    replace hD := sw_D_perm2 hD List.perm_append_comm
    clear hPo hDo hP1 hK1 hD1 hk1 hz1 hFc ht hvm
    rcases hw with ⟨hm1, rfl⟩ | ⟨hm1, rfl⟩
    · obtain ⟨hJ1, hh1⟩ := J_begin hJ (by omega)
      rw [← hh1] at hP hD
      replace hP : va_P D classes (mW hm qs qt qm cI cJ cZ 0 cn nw v w z (hdB (p0 ++ s0)) za ta ka ++ (oW qo cL o ++ cW h cn f v w z [] (p0 ++ s0))) H := hP
      replace hD : va_D (fun q => s.heap.size ≤ q) (mW hm qs qt qm cI cJ cZ 0 cn nw v w z (hdB (p0 ++ s0)) za ta ka ++ (oW qo cL o ++ cW h cn f v w z [] (p0 ++ s0))) := hD
      refine lv_aload_n hx hb d_L_law_385 rfl (lv_at hl 3 rfl) ?_
      refine vp_callSi (va_runV (As := []) (rest := []) ⟨hx, hb, hml, hown, hg⟩ (c_M_thrown l D _ hm qs qt qm cI cJ cZ 0 cn nw v w z (hdB (p0 ++ s0)) za ta ka rfl rfl rfl) (cwV 0 hg (gw_V gw_385 gw_386 gw_387 gw_28 gw_388) rfl rfl rfl (by decide +kernel) ⟨Nat.le_of_ble_eq_true rfl, Nat.le_of_ble_eq_true rfl⟩) (pre_roV (sw_PL hP) hK hN (ci := 2) (k := 0) rfl rfl) rfl rfl hl.1 rfl (lv_room (Nat.le_of_ble_eq_true rfl)) d_L_law_386 ⟨by show _ ≤ 601024; omega, by show _ ≤ 7293034; omega⟩).run (fun r7 hr7 => ?_)
      subst hr7
      refine lv_iload hx hb d_L_law_389 (lv_at hl 0 rfl) ?_
      refine lv_icmp_eq (tgt := 396) hx hb d_L_law_391 (by decide) (fun c_391 => ?_) (fun c_391 => ?_)
      · refine lv_goto (tgt := 587) hx hb d_L_law_396 (by decide) ?_
        obtain ⟨j2, ej2⟩ : ∃ y : Int32, y = nI (2 * cnt) + 2 := ⟨_, rfl⟩
        refine lv_iinc (v := j2) (lv' := [(4, .int j2), (5, .int 0), (0, .ref b), (1, .ref h), (2, .ref hm), (3, .ref qo)]) hx hb d_L_law_587 hl (k := 5) rfl (by rw [ej2]; rfl) (by decide) rfl (fun ls hl => ?_)
        replace ej2 : j2 = nI (2 * (cnt + 1)) := ej2.trans (nI_add (2 * cnt) 2)
        subst ej2
        refine lv_goto (tgt := 23) hx hb d_L_law_590 (by decide) ?_
        refine W.widen (k := 7 + 2 * (cnt + 1)) (n := 49182 + 12 * (cnt + 1)) (by omega) (by omega) ?_
        exact hk cn f nw v w z [] (p0 ++ s0) za ta ka 0 o _ _ ls hJ1 h16 (by omega) hP hD hS (lv_sub hl [2, 3, 4, 5, 0] rfl)
      · exact absurd rfl c_391
    · exact absurd (by rw [hs0]; rfl) hm1
set_option maxHeartbeats 4000000 in
set_option maxRecDepth 100000 in
theorem lo_hand {p : Program} {l : Launch} {e : Env} {s : State} {m : MethodId} {below : List Frame} {meth : Method} {c : Code} {D : va_G} {b L : Nat} {xs : Nat → Int32} {h hm qs qt qm qo : Nat} {cI cJ cZ cL : ClassId} (hl9 : l.stackTraces = false) (C0 : lw_At p s m meth c b L xs) (hK : va_K D classes [(cI, .int), (cJ, .int), (cZ, .boolean), (cL, .long)] s) (hN : NW s) (hE : EV s.heap.size s s.heap) (cnt : Nat) (hc : 2 * cnt + 2 ≤ L) (hL : L ≤ 1024) (hk : LW p l e s m below meth c D b h hm qs qt qm qo cI cJ cZ cL (cnt + 1)) (cn f nw : Nat) (v w z : Int32) (p0 s0 : List AP) (za ta ka : Nat → Int32) (th : Int32) (o : Nat → Int64) (H : Heap) (locs : List Loc) (ls : Array Slot) (hJ : JJ cn f nw p0 s0 za ta ka) (h16 : 16 ≤ cn) (hnw : nw ≤ 5001 * cnt) (hP : va_P D classes (mW hm qs qt qm cI cJ cZ th cn nw v w z (hdB s0) za ta ka ++ (oW qo cL o ++ cW h cn f v w z p0 s0)) H) (hD : va_D (fun q => s.heap.size ≤ q) (mW hm qs qt qm cI cJ cZ th cn nw v w z (hdB s0) za ta ka ++ (oW qo cL o ++ cW h cn f v w z p0 s0))) (hS : va_S (fun q => s.heap.size ≤ q) s.heap H locs) (hl : lv_has ls 7 [(0, .ref b), (1, .ref h), (2, .ref hm), (3, .ref qo), (4, .int (nI (2 * cnt)))]) : W p l e room_1 s m #[Value.ref b] below meth c H locs (7 + 2 * cnt) (49182 + 12 * cnt) (lw_Z below #[Value.ref b] s) (F0 m 455 ls []) := by
  obtain ⟨hx, hb, hr, hml, hown, hts, hX, hbl, hlocks, hgv⟩ := C0
  have hown : s.vm.findClass R_L = some m.cls := hown
  have hg := lw_hg hts
  have hA : ∀ q : Nat, s.heap.size ≤ q → (fun q : Nat => s.heap.size ≤ q) q := fun _ h => h
  have hbA : ¬ (fun q : Nat => s.heap.size ≤ q) b := Nat.not_le.mpr hbl
  have hAN : ∀ q : Nat, (fun q : Nat => s.heap.size ≤ q) q → s.heap.size ≤ q := fun _ h => h
  have hN0 := Nat.le_refl s.heap.size
  have hnb : nw + 5001 < 2 ^ 30 := by omega
  have hcn := hJ.1.2.2.1
  have hBd := hJ.bd
  have hhd : hdB s0 < 2 ^ 31 := by cases s0 with | nil => decide | cons y9 r9 => exact Nat.lt_trans (hBd y9 (by simp)).1 (by decide)
  refine lv_aload_n hx hb d_L_law_455 rfl (lv_at hl 1 rfl) ?_
  refine vp_callSi (va_runV (As := []) (rest := []) ⟨hx, hb, hml, hown, hg⟩ (c_S_hand l D _ h cn f v w z p0 s0) (cwV 0 hg (gw_V gw_103 gw_104 gw_105 gw_26 gw_106) rfl rfl rfl (by decide +kernel) ⟨Nat.le_of_ble_eq_true rfl, Nat.le_of_ble_eq_true rfl⟩) (pre_roV (sw_PR (sw_Pas hP)) hK hN (ci := 0) (k := 0) rfl rfl) rfl rfl hl.1 rfl (lv_room (Nat.le_of_ble_eq_true rfl)) d_L_law_456 ⟨by show _ ≤ 601024; omega, by show _ ≤ 7293034; omega⟩).run (fun r1 hr1 => ?_)
  refine lv_aload_n hx hb d_L_law_459 rfl (lv_at hl 2 rfl) ?_
  replace hP := sw_P_perm hP List.perm_append_comm
  replace hD := sw_D_perm2 hD List.perm_append_comm
  have hFc := sw_freeR hD hS hA
  have hPo := hP
  have hDo := hD
  refine va_calli (va_runV (As := []) (rest := [.int r1]) ⟨hx, hb, hml, hown, hg⟩ (c_M_hand l D _ s.heap.size _ hm qs qt qm cI cJ cZ th cn nw v w z (hdB s0) za ta ka rfl rfl rfl) (cwV 0 hg (gw_V gw_445 gw_446 gw_447 gw_28 gw_448) rfl rfl rfl (by decide +kernel) ⟨Nat.le_of_ble_eq_true rfl, Nat.le_of_ble_eq_true rfl⟩) (pre_wrV (sw_PR hP) hK hN (sw_DR hD) hS hAN hN0 hE (ci := 2) (k := 0) rfl rfl) rfl rfl hl.1 rfl (lv_room (Nat.le_of_ble_eq_true rfl)) d_L_law_460 ⟨by show _ ≤ 601024; omega, by show _ ≤ 7293034; omega⟩) hS (fun q _ h => hFc q h) hFc (fun r6 u t H locs ht hvm hw hB hz1 hk1 hS => ?_)
  obtain ⟨hP1, hK1, hD1⟩ := hB
  rw [ht] at hP1
  obtain ⟨hP, hD⟩ := sw_join hPo hDo hk1 hFc hP1 hD1
  replace hP := sw_P_perm hP List.perm_append_comm
  replace hD := sw_D_perm2 hD List.perm_append_comm
  clear hPo hDo hP1 hK1 hD1 hk1 hz1 hFc ht hvm
  obtain ⟨hr6, rfl⟩ := hw
  replace hP : va_P D classes (mW hm qs qt qm cI cJ cZ 0 cn nw v w z (hdB s0) za ta ka ++ (oW qo cL o ++ cW h cn f v w z p0 s0)) H := hP
  replace hD : va_D (fun q => s.heap.size ≤ q) (mW hm qs qt qm cI cJ cZ 0 cn nw v w z (hdB s0) za ta ka ++ (oW qo cL o ++ cW h cn f v w z p0 s0)) := hD
  refine lv_icmp_eq (tgt := 587) hx hb d_L_law_463 (by decide) (fun c_463 => ?_) (fun c_463 => ?_)
  · obtain ⟨j1, ej1⟩ : ∃ y : Int32, y = nI (2 * cnt) + 2 := ⟨_, rfl⟩
    refine lv_iinc (v := j1) (lv' := [(4, .int j1), (0, .ref b), (1, .ref h), (2, .ref hm), (3, .ref qo)]) hx hb d_L_law_587 hl (k := 4) rfl (by rw [ej1]; rfl) (by decide) rfl (fun ls hl => ?_)
    replace ej1 : j1 = nI (2 * (cnt + 1)) := ej1.trans (nI_add (2 * cnt) 2)
    subst ej1
    refine lv_goto (tgt := 23) hx hb d_L_law_590 (by decide) ?_
    refine W.widen (k := 7 + 2 * (cnt + 1)) (n := 49182 + 12 * (cnt + 1)) (by omega) (by omega) ?_
    exact hk cn f nw v w z p0 s0 za ta ka 0 o _ _ ls hJ h16 (by omega) hP hD hS (lv_sub hl [1, 2, 3, 4, 0] rfl)
  · exact absurd (hr1.trans hr6.symm) c_463
set_option maxHeartbeats 4000000 in
set_option maxRecDepth 100000 in
theorem lo_piece {p : Program} {l : Launch} {e : Env} {s : State} {m : MethodId} {below : List Frame} {meth : Method} {c : Code} {D : va_G} {b L : Nat} {xs : Nat → Int32} {h hm qs qt qm qo : Nat} {cI cJ cZ cL : ClassId} (hl9 : l.stackTraces = false) (C0 : lw_At p s m meth c b L xs) (hK : va_K D classes [(cI, .int), (cJ, .int), (cZ, .boolean), (cL, .long)] s) (hN : NW s) (hE : EV s.heap.size s s.heap) (cnt : Nat) (hc : 2 * cnt + 2 ≤ L) (hL : L ≤ 1024) (hk : LW p l e s m below meth c D b h hm qs qt qm qo cI cJ cZ cL (cnt + 1)) (cn f nw : Nat) (v w z : Int32) (p0 s0 : List AP) (za ta ka : Nat → Int32) (th : Int32) (o : Nat → Int64) (H : Heap) (locs : List Loc) (ls : Array Slot) (hJ : JJ cn f nw p0 s0 za ta ka) (h16 : 16 ≤ cn) (hnw : nw ≤ 5001 * cnt) (hP : va_P D classes (mW hm qs qt qm cI cJ cZ th cn nw v w z (hdB s0) za ta ka ++ (oW qo cL o ++ cW h cn f v w z p0 s0)) H) (hD : va_D (fun q => s.heap.size ≤ q) (mW hm qs qt qm cI cJ cZ th cn nw v w z (hdB s0) za ta ka ++ (oW qo cL o ++ cW h cn f v w z p0 s0))) (hS : va_S (fun q => s.heap.size ≤ q) s.heap H locs) (hl : lv_has ls 7 [(0, .ref b), (1, .ref h), (2, .ref hm), (3, .ref qo), (4, .int (nI (2 * cnt)))]) : W p l e room_1 s m #[Value.ref b] below meth c H locs (7 + 2 * cnt) (49182 + 12 * cnt) (lw_Z below #[Value.ref b] s) (F0 m 468 ls []) := by
  obtain ⟨hx, hb, hr, hml, hown, hts, hX, hbl, hlocks, hgv⟩ := C0
  have hown : s.vm.findClass R_L = some m.cls := hown
  have hg := lw_hg hts
  have hA : ∀ q : Nat, s.heap.size ≤ q → (fun q : Nat => s.heap.size ≤ q) q := fun _ h => h
  have hbA : ¬ (fun q : Nat => s.heap.size ≤ q) b := Nat.not_le.mpr hbl
  have hAN : ∀ q : Nat, (fun q : Nat => s.heap.size ≤ q) q → s.heap.size ≤ q := fun _ h => h
  have hN0 := Nat.le_refl s.heap.size
  have hnb : nw + 5001 < 2 ^ 30 := by omega
  have hcn := hJ.1.2.2.1
  have hBd := hJ.bd
  have hhd : hdB s0 < 2 ^ 31 := by cases s0 with | nil => decide | cons y9 r9 => exact Nat.lt_trans (hBd y9 (by simp)).1 (by decide)
  refine lv_aload_n hx hb d_L_law_468 rfl (lv_at hl 1 rfl) ?_
  refine lv_aload_n hx hb d_L_law_469 rfl (lv_at hl 0 rfl) ?_
  refine lv_iload hx hb d_L_law_470 (lv_at hl 4 rfl) ?_
  refine lv_iconst (v := 1) hx hb d_L_law_472 (by decide) ?_
  refine lv_iadd hx hb d_L_law_473 ?_
  refine lv_topi (fun y1 ey1 => ?_)
  obtain rfl : y1 = nI (2 * cnt + 1) := ey1.trans (nI_add (2 * cnt) 1)
  clear ey1
  refine va_sld hx hb hX hbl hbA hS (vp_in_nI (n := (2 * cnt + 1)) (by omega) (by omega)) d_L_law_474 ?_
  refine lv_topi (fun y2 ey2 => ?_)
  obtain rfl : y2 = xs (2 * cnt + 1) := ey2.trans (congrArg xs (nI_clamp (by omega)))
  clear ey2
  refine vp_callSi (va_runV (As := [.int (xs (2 * cnt + 1))]) (rest := []) ⟨hx, hb, hml, hown, hg⟩ (c_S_piece l D _ h cn (hdO s0 none) f v w z (p0 ++ s0) (xs (2 * cnt + 1))) (cwV 1 hg (gw_V gw_107 gw_108 gw_109 gw_26 gw_110) rfl rfl rfl (by decide +kernel) ⟨Nat.le_of_ble_eq_true rfl, Nat.le_of_ble_eq_true rfl⟩) (pre_roV (sw_PR (sw_Pas hP)) hK hN (ci := 0) (k := 0) rfl rfl) rfl rfl hl.1 rfl (lv_room (Nat.le_of_ble_eq_true rfl)) d_L_law_475 ⟨by show _ ≤ 601024; omega, by show _ ≤ 7293034; omega⟩).run (fun r1 hr1 => ?_)
  refine lv_aload_n hx hb d_L_law_478 rfl (lv_at hl 2 rfl) ?_
  refine lv_aload_n hx hb d_L_law_479 rfl (lv_at hl 0 rfl) ?_
  refine lv_iload hx hb d_L_law_480 (lv_at hl 4 rfl) ?_
  refine lv_iconst (v := 1) hx hb d_L_law_482 (by decide) ?_
  refine lv_iadd hx hb d_L_law_483 ?_
  refine lv_topi (fun y3 ey3 => ?_)
  obtain rfl : y3 = nI (2 * cnt + 1) := ey3.trans (nI_add (2 * cnt) 1)
  clear ey3
  refine va_sld hx hb hX hbl hbA hS (vp_in_nI (n := (2 * cnt + 1)) (by omega) (by omega)) d_L_law_484 ?_
  refine lv_topi (fun y4 ey4 => ?_)
  obtain rfl : y4 = xs (2 * cnt + 1) := ey4.trans (congrArg xs (nI_clamp (by omega)))
  clear ey4
  replace hP := sw_P_perm hP List.perm_append_comm
  replace hD := sw_D_perm2 hD List.perm_append_comm
  have hFc := sw_freeR hD hS hA
  have hPo := hP
  have hDo := hD
  refine va_calli (va_runV (As := [.int (xs (2 * cnt + 1))]) (rest := [.int r1]) ⟨hx, hb, hml, hown, hg⟩ (c_M_piece l D _ s.heap.size _ hm qs qt qm cI cJ cZ th cn nw v w z (hdB s0) za ta ka (xs (2 * cnt + 1)) rfl rfl rfl hcn) (cwV 1 hg (gw_V gw_449 gw_450 gw_451 gw_28 gw_452) rfl rfl rfl (by decide +kernel) ⟨Nat.le_of_ble_eq_true rfl, Nat.le_of_ble_eq_true rfl⟩) (pre_wrV (sw_PR hP) hK hN (sw_DR hD) hS hAN hN0 hE (ci := 2) (k := 0) rfl rfl) rfl rfl hl.1 rfl (lv_room (Nat.le_of_ble_eq_true rfl)) d_L_law_485 ⟨by show _ ≤ 601024; omega, by show _ ≤ 7293034; omega⟩) hS (fun q _ h => hFc q h) hFc (fun r6 u t H locs ht hvm hw hB hz1 hk1 hS => ?_)
  obtain ⟨hP1, hK1, hD1⟩ := hB
  rw [ht] at hP1
  obtain ⟨hP, hD⟩ := sw_join hPo hDo hk1 hFc hP1 hD1
  replace hP := sw_P_perm hP List.perm_append_comm
  replace hD := sw_D_perm2 hD List.perm_append_comm
  clear hPo hDo hP1 hK1 hD1 hk1 hz1 hFc ht hvm
  obtain ⟨hr6, rfl⟩ := hw
  replace hP : va_P D classes (mW hm qs qt qm cI cJ cZ 0 cn nw v w z (hdB s0) za ta ka ++ (oW qo cL o ++ cW h cn f v w z p0 s0)) H := hP
  replace hD : va_D (fun q => s.heap.size ≤ q) (mW hm qs qt qm cI cJ cZ 0 cn nw v w z (hdB s0) za ta ka ++ (oW qo cL o ++ cW h cn f v w z p0 s0)) := hD
  refine lv_icmp_eq (tgt := 587) hx hb d_L_law_488 (by decide) (fun c_488 => ?_) (fun c_488 => ?_)
  · obtain ⟨j5, ej5⟩ : ∃ y : Int32, y = nI (2 * cnt) + 2 := ⟨_, rfl⟩
    refine lv_iinc (v := j5) (lv' := [(4, .int j5), (0, .ref b), (1, .ref h), (2, .ref hm), (3, .ref qo)]) hx hb d_L_law_587 hl (k := 4) rfl (by rw [ej5]; rfl) (by decide) rfl (fun ls hl => ?_)
    replace ej5 : j5 = nI (2 * (cnt + 1)) := ej5.trans (nI_add (2 * cnt) 2)
    subst ej5
    refine lv_goto (tgt := 23) hx hb d_L_law_590 (by decide) ?_
    refine W.widen (k := 7 + 2 * (cnt + 1)) (n := 49182 + 12 * (cnt + 1)) (by omega) (by omega) ?_
    exact hk cn f nw v w z p0 s0 za ta ka 0 o _ _ ls hJ h16 (by omega) hP hD hS (lv_sub hl [1, 2, 3, 4, 0] rfl)
  · exact absurd (hr1.trans (hr6.trans (inv_pc hJ.1 _)).symm) c_488
set_option maxHeartbeats 4000000 in
set_option maxRecDepth 100000 in
theorem lo_marked {p : Program} {l : Launch} {e : Env} {s : State} {m : MethodId} {below : List Frame} {meth : Method} {c : Code} {D : va_G} {b L : Nat} {xs : Nat → Int32} {h hm qs qt qm qo : Nat} {cI cJ cZ cL : ClassId} (hl9 : l.stackTraces = false) (C0 : lw_At p s m meth c b L xs) (hK : va_K D classes [(cI, .int), (cJ, .int), (cZ, .boolean), (cL, .long)] s) (hN : NW s) (hE : EV s.heap.size s s.heap) (cnt : Nat) (hc : 2 * cnt + 2 ≤ L) (hL : L ≤ 1024) (hk : LW p l e s m below meth c D b h hm qs qt qm qo cI cJ cZ cL (cnt + 1)) (cn f nw : Nat) (v w z : Int32) (p0 s0 : List AP) (za ta ka : Nat → Int32) (th : Int32) (o : Nat → Int64) (H : Heap) (locs : List Loc) (ls : Array Slot) (hJ : JJ cn f nw p0 s0 za ta ka) (h16 : 16 ≤ cn) (hnw : nw ≤ 5001 * cnt) (hP : va_P D classes (mW hm qs qt qm cI cJ cZ th cn nw v w z (hdB s0) za ta ka ++ (oW qo cL o ++ cW h cn f v w z p0 s0)) H) (hD : va_D (fun q => s.heap.size ≤ q) (mW hm qs qt qm cI cJ cZ th cn nw v w z (hdB s0) za ta ka ++ (oW qo cL o ++ cW h cn f v w z p0 s0))) (hS : va_S (fun q => s.heap.size ≤ q) s.heap H locs) (hl : lv_has ls 7 [(0, .ref b), (1, .ref h), (2, .ref hm), (3, .ref qo), (4, .int (nI (2 * cnt)))]) : W p l e room_1 s m #[Value.ref b] below meth c H locs (7 + 2 * cnt) (49182 + 12 * cnt) (lw_Z below #[Value.ref b] s) (F0 m 493 ls []) := by
  obtain ⟨hx, hb, hr, hml, hown, hts, hX, hbl, hlocks, hgv⟩ := C0
  have hown : s.vm.findClass R_L = some m.cls := hown
  have hg := lw_hg hts
  have hA : ∀ q : Nat, s.heap.size ≤ q → (fun q : Nat => s.heap.size ≤ q) q := fun _ h => h
  have hbA : ¬ (fun q : Nat => s.heap.size ≤ q) b := Nat.not_le.mpr hbl
  have hAN : ∀ q : Nat, (fun q : Nat => s.heap.size ≤ q) q → s.heap.size ≤ q := fun _ h => h
  have hN0 := Nat.le_refl s.heap.size
  have hnb : nw + 5001 < 2 ^ 30 := by omega
  have hcn := hJ.1.2.2.1
  have hBd := hJ.bd
  have hhd : hdB s0 < 2 ^ 31 := by cases s0 with | nil => decide | cons y9 r9 => exact Nat.lt_trans (hBd y9 (by simp)).1 (by decide)
  refine lv_aload_n hx hb d_L_law_493 rfl (lv_at hl 1 rfl) ?_
  refine lv_aload_n hx hb d_L_law_494 rfl (lv_at hl 0 rfl) ?_
  refine lv_iload hx hb d_L_law_495 (lv_at hl 4 rfl) ?_
  refine lv_iconst (v := 1) hx hb d_L_law_497 (by decide) ?_
  refine lv_iadd hx hb d_L_law_498 ?_
  refine lv_topi (fun y1 ey1 => ?_)
  obtain rfl : y1 = nI (2 * cnt + 1) := ey1.trans (nI_add (2 * cnt) 1)
  clear ey1
  refine va_sld hx hb hX hbl hbA hS (vp_in_nI (n := (2 * cnt + 1)) (by omega) (by omega)) d_L_law_499 ?_
  refine lv_topi (fun y2 ey2 => ?_)
  obtain rfl : y2 = xs (2 * cnt + 1) := ey2.trans (congrArg xs (nI_clamp (by omega)))
  clear ey2
  refine vp_callSi (va_runV (As := [.int (xs (2 * cnt + 1))]) (rest := []) ⟨hx, hb, hml, hown, hg⟩ (c_S_marked l D _ h cn (hdO s0 none) f v w z (p0 ++ s0) (xs (2 * cnt + 1))) (cwV 1 hg (gw_V gw_115 gw_116 gw_117 gw_26 gw_118) rfl rfl rfl (by decide +kernel) ⟨Nat.le_of_ble_eq_true rfl, Nat.le_of_ble_eq_true rfl⟩) (pre_roV (sw_PR (sw_Pas hP)) hK hN (ci := 0) (k := 0) rfl rfl) rfl rfl hl.1 rfl (lv_room (Nat.le_of_ble_eq_true rfl)) d_L_law_500 ⟨by show _ ≤ 601024; omega, by show _ ≤ 7293034; omega⟩).run (fun r1 hr1 => ?_)
  refine lv_aload_n hx hb d_L_law_503 rfl (lv_at hl 2 rfl) ?_
  refine lv_aload_n hx hb d_L_law_504 rfl (lv_at hl 0 rfl) ?_
  refine lv_iload hx hb d_L_law_505 (lv_at hl 4 rfl) ?_
  refine lv_iconst (v := 1) hx hb d_L_law_507 (by decide) ?_
  refine lv_iadd hx hb d_L_law_508 ?_
  refine lv_topi (fun y3 ey3 => ?_)
  obtain rfl : y3 = nI (2 * cnt + 1) := ey3.trans (nI_add (2 * cnt) 1)
  clear ey3
  refine va_sld hx hb hX hbl hbA hS (vp_in_nI (n := (2 * cnt + 1)) (by omega) (by omega)) d_L_law_509 ?_
  refine lv_topi (fun y4 ey4 => ?_)
  obtain rfl : y4 = xs (2 * cnt + 1) := ey4.trans (congrArg xs (nI_clamp (by omega)))
  clear ey4
  replace hP := sw_P_perm hP List.perm_append_comm
  replace hD := sw_D_perm2 hD List.perm_append_comm
  have hFc := sw_freeR hD hS hA
  have hPo := hP
  have hDo := hD
  refine va_calli (va_runV (As := [.int (xs (2 * cnt + 1))]) (rest := [.int r1]) ⟨hx, hb, hml, hown, hg⟩ (c_M_marked l D _ s.heap.size _ hm qs qt qm cI cJ cZ th cn nw v w z (hdB s0) za ta ka (xs (2 * cnt + 1)) rfl rfl rfl hcn) (cwV 1 hg (gw_V gw_453 gw_454 gw_455 gw_28 gw_456) rfl rfl rfl (by decide +kernel) ⟨Nat.le_of_ble_eq_true rfl, Nat.le_of_ble_eq_true rfl⟩) (pre_wrV (sw_PR hP) hK hN (sw_DR hD) hS hAN hN0 hE (ci := 2) (k := 0) rfl rfl) rfl rfl hl.1 rfl (lv_room (Nat.le_of_ble_eq_true rfl)) d_L_law_510 ⟨by show _ ≤ 601024; omega, by show _ ≤ 7293034; omega⟩) hS (fun q _ h => hFc q h) hFc (fun r6 u t H locs ht hvm hw hB hz1 hk1 hS => ?_)
  obtain ⟨hP1, hK1, hD1⟩ := hB
  rw [ht] at hP1
  obtain ⟨hP, hD⟩ := sw_join hPo hDo hk1 hFc hP1 hD1
  replace hP := sw_P_perm hP List.perm_append_comm
  replace hD := sw_D_perm2 hD List.perm_append_comm
  clear hPo hDo hP1 hK1 hD1 hk1 hz1 hFc ht hvm
  obtain ⟨hr6, rfl⟩ := hw
  replace hP : va_P D classes (mW hm qs qt qm cI cJ cZ 0 cn nw v w z (hdB s0) za ta ka ++ (oW qo cL o ++ cW h cn f v w z p0 s0)) H := hP
  replace hD : va_D (fun q => s.heap.size ≤ q) (mW hm qs qt qm cI cJ cZ 0 cn nw v w z (hdB s0) za ta ka ++ (oW qo cL o ++ cW h cn f v w z p0 s0)) := hD
  refine lv_icmp_eq (tgt := 587) hx hb d_L_law_513 (by decide) (fun c_513 => ?_) (fun c_513 => ?_)
  · obtain ⟨j5, ej5⟩ : ∃ y : Int32, y = nI (2 * cnt) + 2 := ⟨_, rfl⟩
    refine lv_iinc (v := j5) (lv' := [(4, .int j5), (0, .ref b), (1, .ref h), (2, .ref hm), (3, .ref qo)]) hx hb d_L_law_587 hl (k := 4) rfl (by rw [ej5]; rfl) (by decide) rfl (fun ls hl => ?_)
    replace ej5 : j5 = nI (2 * (cnt + 1)) := ej5.trans (nI_add (2 * cnt) 2)
    subst ej5
    refine lv_goto (tgt := 23) hx hb d_L_law_590 (by decide) ?_
    refine W.widen (k := 7 + 2 * (cnt + 1)) (n := 49182 + 12 * (cnt + 1)) (by omega) (by omega) ?_
    exact hk cn f nw v w z p0 s0 za ta ka 0 o _ _ ls hJ h16 (by omega) hP hD hS (lv_sub hl [1, 2, 3, 4, 0] rfl)
  · exact absurd (hr1.trans (hr6.trans (inv_mk hJ.1 _)).symm) c_513
set_option maxHeartbeats 4000000 in
set_option maxRecDepth 100000 in
theorem lo_faults {p : Program} {l : Launch} {e : Env} {s : State} {m : MethodId} {below : List Frame} {meth : Method} {c : Code} {D : va_G} {b L : Nat} {xs : Nat → Int32} {h hm qs qt qm qo : Nat} {cI cJ cZ cL : ClassId} (hl9 : l.stackTraces = false) (C0 : lw_At p s m meth c b L xs) (hK : va_K D classes [(cI, .int), (cJ, .int), (cZ, .boolean), (cL, .long)] s) (hN : NW s) (hE : EV s.heap.size s s.heap) (cnt : Nat) (hc : 2 * cnt + 2 ≤ L) (hL : L ≤ 1024) (hk : LW p l e s m below meth c D b h hm qs qt qm qo cI cJ cZ cL (cnt + 1)) (cn f nw : Nat) (v w z : Int32) (p0 s0 : List AP) (za ta ka : Nat → Int32) (th : Int32) (o : Nat → Int64) (H : Heap) (locs : List Loc) (ls : Array Slot) (hJ : JJ cn f nw p0 s0 za ta ka) (h16 : 16 ≤ cn) (hnw : nw ≤ 5001 * cnt) (hP : va_P D classes (mW hm qs qt qm cI cJ cZ th cn nw v w z (hdB s0) za ta ka ++ (oW qo cL o ++ cW h cn f v w z p0 s0)) H) (hD : va_D (fun q => s.heap.size ≤ q) (mW hm qs qt qm cI cJ cZ th cn nw v w z (hdB s0) za ta ka ++ (oW qo cL o ++ cW h cn f v w z p0 s0))) (hS : va_S (fun q => s.heap.size ≤ q) s.heap H locs) (hl : lv_has ls 7 [(0, .ref b), (1, .ref h), (2, .ref hm), (3, .ref qo), (4, .int (nI (2 * cnt)))]) : W p l e room_1 s m #[Value.ref b] below meth c H locs (7 + 2 * cnt) (49182 + 12 * cnt) (lw_Z below #[Value.ref b] s) (F0 m 574 ls []) := by
  obtain ⟨hx, hb, hr, hml, hown, hts, hX, hbl, hlocks, hgv⟩ := C0
  have hown : s.vm.findClass R_L = some m.cls := hown
  have hg := lw_hg hts
  have hA : ∀ q : Nat, s.heap.size ≤ q → (fun q : Nat => s.heap.size ≤ q) q := fun _ h => h
  have hbA : ¬ (fun q : Nat => s.heap.size ≤ q) b := Nat.not_le.mpr hbl
  have hAN : ∀ q : Nat, (fun q : Nat => s.heap.size ≤ q) q → s.heap.size ≤ q := fun _ h => h
  have hN0 := Nat.le_refl s.heap.size
  have hnb : nw + 5001 < 2 ^ 30 := by omega
  have hcn := hJ.1.2.2.1
  have hBd := hJ.bd
  have hhd : hdB s0 < 2 ^ 31 := by cases s0 with | nil => decide | cons y9 r9 => exact Nat.lt_trans (hBd y9 (by simp)).1 (by decide)
  refine lv_aload_n hx hb d_L_law_574 rfl (lv_at hl 1 rfl) ?_
  refine vp_callSi (va_runV (As := []) (rest := []) ⟨hx, hb, hml, hown, hg⟩ (c_S_faults l D _ h cn f v w z (p0 ++ s0) p0 s0 rfl hBd (by have h9 := hJ.2.2.2; omega) (by omega) hJ.1.2.1 hJ.1.2.2.2.2 hJ.tmo hJ.2.2.1 (sw_ndL (sw_DR (sw_Das hD)))) (cwV 0 hg (gw_V gw_119 gw_120 gw_121 gw_26 gw_122) rfl rfl rfl (by decide +kernel) ⟨Nat.le_of_ble_eq_true rfl, Nat.le_of_ble_eq_true rfl⟩) (pre_roV (sw_PR (sw_Pas hP)) hK hN (ci := 0) (k := 0) rfl rfl) rfl rfl hl.1 rfl (lv_room (Nat.le_of_ble_eq_true rfl)) d_L_law_575 ⟨by show _ ≤ 601024; omega, by show _ ≤ 7293034; omega⟩).run (fun r1 hr1 => ?_)
  refine lv_aload_n hx hb d_L_law_578 rfl (lv_at hl 2 rfl) ?_
  replace hP := sw_P_perm hP List.perm_append_comm
  replace hD := sw_D_perm2 hD List.perm_append_comm
  have hFc := sw_freeR hD hS hA
  have hPo := hP
  have hDo := hD
  refine va_calli (va_runV (As := []) (rest := [.int r1]) ⟨hx, hb, hml, hown, hg⟩ (c_M_faults l D _ s.heap.size _ hm qs qt qm cI cJ cZ th cn nw v w z (hdB s0) za ta ka rfl rfl rfl) (cwV 0 hg (gw_V gw_465 gw_466 gw_467 gw_28 gw_468) rfl rfl rfl (by decide +kernel) ⟨Nat.le_of_ble_eq_true rfl, Nat.le_of_ble_eq_true rfl⟩) (pre_wrV (sw_PR hP) hK hN (sw_DR hD) hS hAN hN0 hE (ci := 2) (k := 0) rfl rfl) rfl rfl hl.1 rfl (lv_room (Nat.le_of_ble_eq_true rfl)) d_L_law_579 ⟨by show _ ≤ 601024; omega, by show _ ≤ 7293034; omega⟩) hS (fun q _ h => hFc q h) hFc (fun r6 u t H locs ht hvm hw hB hz1 hk1 hS => ?_)
  obtain ⟨hP1, hK1, hD1⟩ := hB
  rw [ht] at hP1
  obtain ⟨hP, hD⟩ := sw_join hPo hDo hk1 hFc hP1 hD1
  replace hP := sw_P_perm hP List.perm_append_comm
  replace hD := sw_D_perm2 hD List.perm_append_comm
  clear hPo hDo hP1 hK1 hD1 hk1 hz1 hFc ht hvm
  obtain ⟨hr6, rfl⟩ := hw
  replace hP : va_P D classes (mW hm qs qt qm cI cJ cZ 0 cn nw v w z (hdB s0) za ta ka ++ (oW qo cL o ++ cW h cn f v w z p0 s0)) H := hP
  replace hD : va_D (fun q => s.heap.size ≤ q) (mW hm qs qt qm cI cJ cZ 0 cn nw v w z (hdB s0) za ta ka ++ (oW qo cL o ++ cW h cn f v w z p0 s0)) := hD
  refine lv_icmp_eq (tgt := 587) hx hb d_L_law_582 (by decide) (fun c_582 => ?_) (fun c_582 => ?_)
  · obtain ⟨j1, ej1⟩ : ∃ y : Int32, y = nI (2 * cnt) + 2 := ⟨_, rfl⟩
    refine lv_iinc (v := j1) (lv' := [(4, .int j1), (0, .ref b), (1, .ref h), (2, .ref hm), (3, .ref qo)]) hx hb d_L_law_587 hl (k := 4) rfl (by rw [ej1]; rfl) (by decide) rfl (fun ls hl => ?_)
    replace ej1 : j1 = nI (2 * (cnt + 1)) := ej1.trans (nI_add (2 * cnt) 2)
    subst ej1
    refine lv_goto (tgt := 23) hx hb d_L_law_590 (by decide) ?_
    refine W.widen (k := 7 + 2 * (cnt + 1)) (n := 49182 + 12 * (cnt + 1)) (by omega) (by omega) ?_
    exact hk cn f nw v w z p0 s0 za ta ka 0 o _ _ ls hJ h16 (by omega) hP hD hS (lv_sub hl [1, 2, 3, 4, 0] rfl)
  · exact absurd (hr1.trans hr6.symm) c_582
