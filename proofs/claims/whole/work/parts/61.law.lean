set_option maxHeartbeats 4000000 in
set_option maxRecDepth 100000 in
theorem c_L_space (l : Launch) (hl9 : l.stackTraces = false) (D : va_G) (ty : tyL) (N0 sz : Nat) (qo : Nat) (cL : ClassId) (o : Nat → Int64) (h cn f : Nat) (v w z1 : Int32) (p0 s0 : List AP) (n : Int32) (t3 : ty[3]? = some (cL, .long)) : Met l y_L_space (Cond.codeWith y_L_space b_L_space 4 (some .int) [(0, 9, 12, 13)] :: GW) ({ frames := 7, cells := 1, slots := 6, locals := 104 }) (va_Pc [.ref h, .int n, .ref qo] (at1 D ty N0 sz (oW qo cL o ++ (scell h cn (hdO (p0 ++ s0) none) (hdO s0 none) f v w z1 :: chG (p0 ++ s0) none)))) (va_Qi (fun r ws' => (r = 1 ∧ (n < 16 ∨ ¬ n ≤ 16384) ∧ ws' = (oW qo cL o ++ (scell h cn (hdO (p0 ++ s0) none) (hdO s0 none) f v w z1 :: chG (p0 ++ s0) none))) ∨ (r = 0 ∧ ∃ (ans : Int32) (ws1 : va_W), (ans = nI cn ∧ ∃ k q : Nat, 16 ≤ k ∧ k ≤ 16384 ∧ n = nI k ∧ ws1 = [scell h k (some q) none 1 0 0 0, pcell (q, 1, k, false, false, 1) none]) ∧ ws' = oW qo cL (vp_updL o 0 ans.toInt64) ++ ws1)) (at2 D ty (va_A (oW qo cL o ++ (scell h cn (hdO (p0 ++ s0) none) (hdO s0 none) f v w z1 :: chG (p0 ++ s0) none)) sz)) (va_A (oW qo cL o ++ (scell h cn (hdO (p0 ++ s0) none) (hdO s0 none) f v w z1 :: chG (p0 ++ s0) none)) sz)) 1 6 (va_A (oW qo cL o ++ (scell h cn (hdO (p0 ++ s0) none) (hdO s0 none) f v w z1 :: chG (p0 ++ s0) none)) sz) := by
  refine va_MetW (cc := b_L_space) (maxL := 4) (ret := (some .int)) (hh := [(0, 9, 12, 13)]) (by decide) rfl ?_
  intro p e s m args below meth c s₁ B hml hv
  obtain ⟨rfl, hsz, hN0, ⟨hP, hK, hN⟩, hD0, hE⟩ := hv
  subst hsz
  have hD := hD0.self (sz := s.heap.size)
  have hAN := sw_AN hD0 hN0
  generalize hAe : va_A (oW qo cL o ++ (scell h cn (hdO (p0 ++ s0) none) (hdO s0 none) f v w z1 :: chG (p0 ++ s0) none)) s.heap.size = A at hD hAN ⊢
  have hA : ∀ q : Nat, s.heap.size ≤ q → A q := fun q h => by rw [← hAe]; exact Or.inr h
  have hS : va_S A s.heap s.heap [] := va_S.rf
  have hP : va_P D classes (oW qo cL o ++ (scell h cn (hdO (p0 ++ s0) none) (hdO s0 none) f v w z1 :: chG (p0 ++ s0) none)) s.heap := hP
  have hx := B.exec
  have hb := B.bytes
  have hr := B.returns
  have hg : ∀ w ∈ GW, w.before _ s = true := fun w h => atoms_spec (ws := Cond.codeWith y_L_space b_L_space 4 (some .int) [(0, 9, 12, 13)] :: GW) B.pre w (List.mem_cons_of_mem _ h)
  have hown : s.vm.findClass R_L = some m.cls := findClass_of_methodNamed B.named
  have hlocks := B.notSynchronized
  have hl := lv_entry ([.ref h, .int n, .ref qo]) (n := 4) (Nat.le_of_ble_eq_true rfl)
  rw [lg_entry_eq]
  generalize (lg_sl ([.ref h, .int n, .ref qo]) ++ List.replicate (4 - (lg_sl ([.ref h, .int n, .ref qo])).length) Slot.unset).toArray = ls at hl ⊢
  replace hl : lv_has ls 4 [(0, .ref h), (1, .int n), (2, .ref qo)] := hl
  have hTab := vx_table (x := objectInit) B (atoms_spec (ws := Cond.codeWith y_L_space b_L_space 4 (some .int) [(0, 9, 12, 13)] :: GW) B.pre _ List.mem_cons_self)
  refine lv_aload_n hx hb d_L_space_0 rfl (lv_at hl 2 rfl) ?_
  refine lv_iconst (v := 0) hx hb d_L_space_1 (by decide) ?_
  refine lv_aload_n hx hb d_L_space_2 rfl (lv_at hl 0 rfl) ?_
  refine lv_iload_n hx hb d_L_space_3 rfl (lv_at hl 1 rfl) ?_
  have hFc := sw_freeR hD hS hA
  have hPo := hP
  have hDo := hD
  refine vx_calli (vx_runV (As := [.int n]) (rest := [.int 0, .ref qo]) ⟨hx, hb, hml, hown, hg⟩ (c_S_space l hl9 D ty N0 _ h cn f v w z1 p0 s0 n) (cwV 1 hg (gw_V gw_138 gw_139 gw_140 gw_26 gw_141) rfl rfl rfl (by decide +kernel) ⟨Nat.le_of_ble_eq_true rfl, Nat.le_of_ble_eq_true rfl⟩) (pre_wrV (sw_PR hP) hK hN (sw_DR hD) hS hAN hN0 hE (ci := 0) (k := 0) rfl rfl) rfl rfl hl.1 rfl (lv_room (Nat.le_of_ble_eq_true rfl)) d_L_space_4 ⟨Nat.le_of_ble_eq_true rfl, Nat.le_of_ble_eq_true rfl⟩) hS (fun q _ h => hFc q h) hFc (fun q _ h => hFc q h) (fun E ce q9 z t H locs ht hvm hw hB hz1 hk1 hS hce hcv hcl => ?_) (fun r u t H locs ht hvm hw hB hz1 hk1 hS => ?_)
  · obtain ⟨hE9, hP1, hK1, hD1⟩ := hB
    obtain ⟨hw1, hw2⟩ := hw
    rw [ht, hw1] at hP1
    rw [hw1] at hD1
    obtain ⟨hP, hD⟩ := sw_join hPo hDo hk1 hFc hP1 hD1
    obtain rfl : E = "java/lang/IllegalArgumentException" := hE9.trans hw2.1
    refine vx_catch (own := R_L) (name := "java/lang/IllegalArgumentException") (E := "java/lang/IllegalArgumentException") hown [] ⟨0, 9, 12, 13⟩ [] (by rw [hTab]; rfl) (fun z hz => nomatch hz) (by decide) (by decide) (hg _ gw_137) (va_Nw.use rfl (hN.2.2.1 "java/lang/IllegalArgumentException" (by decide))) hce hcv hcl ?_
    refine lv_astore_n (lv' := [(3, .ref q9), (0, .ref h), (1, .int n), (2, .ref qo)]) hx hb d_L_space_12 rfl hl (by decide) rfl (fun ls hl => ?_)
    refine lv_iconst (v := 1) hx hb d_L_space_13 (by decide) ?_
    refine W.widen (k := 1) (n := 6) (Nat.le_of_ble_eq_true rfl) (Nat.le_of_ble_eq_true rfl) ?_
    exact W.iret (v := 1) hx hb hr (fun t ht hW => ⟨⟨_, _, rfl, (Or.inl ⟨rfl, hw2.2, rfl⟩), at2.of hP hK hD ht hW⟩, hS.F ht⟩) hS.2.2 d_L_space_14
  · obtain ⟨hP1, hK1, hD1⟩ := hB
    rw [ht] at hP1
    obtain ⟨hP, hD⟩ := sw_join hPo hDo hk1 hFc hP1 hD1
    refine lv_i2l (v := Int32.toInt64 r) hx hb d_L_space_7 rfl ?_
    refine va_last hx hb hK hP hD hS 0 3 rfl t3 (vp_in_nI (n := 0) (by decide) (by decide)) d_L_space_8 (fun H locs hP hD hS => ?_)
    rw [show (0 : Int32).toNatClampNeg = 0 from by decide] at hP hD
    replace hP : va_P D classes (oW qo cL (vp_updL o 0 (Int32.toInt64 r)) ++ u) _ := hP
    replace hD : va_D A (oW qo cL (vp_updL o 0 (Int32.toInt64 r)) ++ u) := hD
    refine lv_goto (tgt := 15) hx hb d_L_space_9 (by decide) ?_
    refine lv_iconst (v := 0) hx hb d_L_space_15 (by decide) ?_
    refine W.widen (k := 1) (n := 6) (Nat.le_of_ble_eq_true rfl) (Nat.le_of_ble_eq_true rfl) ?_
    exact W.iret (v := 0) hx hb hr (fun t ht hW => ⟨⟨_, _, rfl, (Or.inr ⟨rfl, r, u, hw, rfl⟩), at2.of hP hK hD ht hW⟩, hS.F ht⟩) hS.2.2 d_L_space_16
set_option maxHeartbeats 4000000 in
set_option maxRecDepth 100000 in
theorem c_L_take (l : Launch) (hl9 : l.stackTraces = false) (D : va_G) (ty : tyL) (N0 sz : Nat) (qo : Nat) (cL : ClassId) (o : Nat → Int64) (h cn f : Nat) (v w z1 : Int32) (p0 s0 : List AP) (n : Int32) (t3 : ty[3]? = some (cL, .long)) (hBd : Bd (p0 ++ s0)) : Met l y_L_take (Cond.codeWith y_L_take b_L_take 4 (some .int) [(0, 9, 12, 13)] :: GW) ({ frames := 7, cells := 1, slots := 6, locals := 104 }) (va_Pc [.ref h, .int n, .ref qo] (at1 D ty N0 sz (oW qo cL o ++ (scell h cn (hdO (p0 ++ s0) none) (hdO s0 none) f v w z1 :: chG (p0 ++ s0) none)))) (va_Qi (fun r ws' => (r = 1 ∧ (n < 3 ∨ ¬ n ≤ 2000) ∧ ws' = (oW qo cL o ++ (scell h cn (hdO (p0 ++ s0) none) (hdO s0 none) f v w z1 :: chG (p0 ++ s0) none))) ∨ (r = 0 ∧ ∃ (ans : Int32) (ws1 : va_W), (∃ k : Nat, 3 ≤ k ∧ k ≤ 2000 ∧ n = nI k ∧ ((wtf k (p0 ++ s0) none = none ∧ ans = 0 ∧ ws1 = scell h cn (hdO (p0 ++ s0) none) (hdO s0 none) f (v + 1) w z1 :: chG (p0 ++ s0) none) ∨ ∃ x l1 l2, wtf k (p0 ++ s0) none = some x ∧ p0 ++ s0 = l1 ++ x :: l2 ∧ ans = nI x.2.1 ∧ ((x.2.2.1 ≤ k ∧ ws1 = scell h cn (hdO (p0 ++ s0) none) (hdO s0 none) f v w z1 :: chG (l1 ++ (x.1, x.2.1, x.2.2.1, true, tkM s0 x, x.2.2.2.2.2) :: l2) none) ∨ (k < x.2.2.1 ∧ ∃ q : Nat, ws1 = scell h cn (hdO (p0 ++ s0) none) (hdO s0 none) (f + 1) v w z1 :: chG (l1 ++ (x.1, x.2.1, k, true, tkM s0 x, x.2.2.2.2.2) :: (q, x.2.1 + k, x.2.2.1 - k, false, false, f + 1) :: l2) none)))) ∧ ws' = oW qo cL (vp_updL o 0 ans.toInt64) ++ ws1)) (at2 D ty (va_A (oW qo cL o ++ (scell h cn (hdO (p0 ++ s0) none) (hdO s0 none) f v w z1 :: chG (p0 ++ s0) none)) sz)) (va_A (oW qo cL o ++ (scell h cn (hdO (p0 ++ s0) none) (hdO s0 none) f v w z1 :: chG (p0 ++ s0) none)) sz)) 1 6 (va_A (oW qo cL o ++ (scell h cn (hdO (p0 ++ s0) none) (hdO s0 none) f v w z1 :: chG (p0 ++ s0) none)) sz) := by
  refine va_MetW (cc := b_L_take) (maxL := 4) (ret := (some .int)) (hh := [(0, 9, 12, 13)]) (by decide) rfl ?_
  intro p e s m args below meth c s₁ B hml hv
  obtain ⟨rfl, hsz, hN0, ⟨hP, hK, hN⟩, hD0, hE⟩ := hv
  subst hsz
  have hD := hD0.self (sz := s.heap.size)
  have hAN := sw_AN hD0 hN0
  generalize hAe : va_A (oW qo cL o ++ (scell h cn (hdO (p0 ++ s0) none) (hdO s0 none) f v w z1 :: chG (p0 ++ s0) none)) s.heap.size = A at hD hAN ⊢
  have hA : ∀ q : Nat, s.heap.size ≤ q → A q := fun q h => by rw [← hAe]; exact Or.inr h
  have hS : va_S A s.heap s.heap [] := va_S.rf
  have hP : va_P D classes (oW qo cL o ++ (scell h cn (hdO (p0 ++ s0) none) (hdO s0 none) f v w z1 :: chG (p0 ++ s0) none)) s.heap := hP
  have hx := B.exec
  have hb := B.bytes
  have hr := B.returns
  have hg : ∀ w ∈ GW, w.before _ s = true := fun w h => atoms_spec (ws := Cond.codeWith y_L_take b_L_take 4 (some .int) [(0, 9, 12, 13)] :: GW) B.pre w (List.mem_cons_of_mem _ h)
  have hown : s.vm.findClass R_L = some m.cls := findClass_of_methodNamed B.named
  have hlocks := B.notSynchronized
  have hl := lv_entry ([.ref h, .int n, .ref qo]) (n := 4) (Nat.le_of_ble_eq_true rfl)
  rw [lg_entry_eq]
  generalize (lg_sl ([.ref h, .int n, .ref qo]) ++ List.replicate (4 - (lg_sl ([.ref h, .int n, .ref qo])).length) Slot.unset).toArray = ls at hl ⊢
  replace hl : lv_has ls 4 [(0, .ref h), (1, .int n), (2, .ref qo)] := hl
  have hTab := vx_table (x := objectInit) B (atoms_spec (ws := Cond.codeWith y_L_take b_L_take 4 (some .int) [(0, 9, 12, 13)] :: GW) B.pre _ List.mem_cons_self)
  refine lv_aload_n hx hb d_L_take_0 rfl (lv_at hl 2 rfl) ?_
  refine lv_iconst (v := 0) hx hb d_L_take_1 (by decide) ?_
  refine lv_aload_n hx hb d_L_take_2 rfl (lv_at hl 0 rfl) ?_
  refine lv_iload_n hx hb d_L_take_3 rfl (lv_at hl 1 rfl) ?_
  have hFc := sw_freeR hD hS hA
  have hPo := hP
  have hDo := hD
  refine vx_calli (vx_runV (As := [.int n]) (rest := [.int 0, .ref qo]) ⟨hx, hb, hml, hown, hg⟩ (c_S_take l hl9 D ty N0 _ h cn f v w z1 p0 s0 n hBd) (cwV 1 hg (gw_V gw_213 gw_214 gw_215 gw_26 gw_216) rfl rfl rfl (by decide +kernel) ⟨Nat.le_of_ble_eq_true rfl, Nat.le_of_ble_eq_true rfl⟩) (pre_wrV (sw_PR hP) hK hN (sw_DR hD) hS hAN hN0 hE (ci := 0) (k := 0) rfl rfl) rfl rfl hl.1 rfl (lv_room (Nat.le_of_ble_eq_true rfl)) d_L_take_4 ⟨Nat.le_of_ble_eq_true rfl, Nat.le_of_ble_eq_true rfl⟩) hS (fun q _ h => hFc q h) hFc (fun q _ h => hFc q h) (fun E ce q9 z t H locs ht hvm hw hB hz1 hk1 hS hce hcv hcl => ?_) (fun r u t H locs ht hvm hw hB hz1 hk1 hS => ?_)
  · obtain ⟨hE9, hP1, hK1, hD1⟩ := hB
    obtain ⟨hw1, hw2⟩ := hw
    rw [ht, hw1] at hP1
    rw [hw1] at hD1
    obtain ⟨hP, hD⟩ := sw_join hPo hDo hk1 hFc hP1 hD1
    obtain rfl : E = "java/lang/IllegalArgumentException" := hE9.trans hw2.1
    refine vx_catch (own := R_L) (name := "java/lang/IllegalArgumentException") (E := "java/lang/IllegalArgumentException") hown [] ⟨0, 9, 12, 13⟩ [] (by rw [hTab]; rfl) (fun z hz => nomatch hz) (by decide) (by decide) (hg _ gw_137) (va_Nw.use rfl (hN.2.2.1 "java/lang/IllegalArgumentException" (by decide))) hce hcv hcl ?_
    refine lv_astore_n (lv' := [(3, .ref q9), (0, .ref h), (1, .int n), (2, .ref qo)]) hx hb d_L_take_12 rfl hl (by decide) rfl (fun ls hl => ?_)
    refine lv_iconst (v := 1) hx hb d_L_take_13 (by decide) ?_
    refine W.widen (k := 1) (n := 6) (Nat.le_of_ble_eq_true rfl) (Nat.le_of_ble_eq_true rfl) ?_
    exact W.iret (v := 1) hx hb hr (fun t ht hW => ⟨⟨_, _, rfl, (Or.inl ⟨rfl, hw2.2, rfl⟩), at2.of hP hK hD ht hW⟩, hS.F ht⟩) hS.2.2 d_L_take_14
  · obtain ⟨hP1, hK1, hD1⟩ := hB
    rw [ht] at hP1
    obtain ⟨hP, hD⟩ := sw_join hPo hDo hk1 hFc hP1 hD1
    refine lv_i2l (v := Int32.toInt64 r) hx hb d_L_take_7 rfl ?_
    refine va_last hx hb hK hP hD hS 0 3 rfl t3 (vp_in_nI (n := 0) (by decide) (by decide)) d_L_take_8 (fun H locs hP hD hS => ?_)
    rw [show (0 : Int32).toNatClampNeg = 0 from by decide] at hP hD
    replace hP : va_P D classes (oW qo cL (vp_updL o 0 (Int32.toInt64 r)) ++ u) _ := hP
    replace hD : va_D A (oW qo cL (vp_updL o 0 (Int32.toInt64 r)) ++ u) := hD
    refine lv_goto (tgt := 15) hx hb d_L_take_9 (by decide) ?_
    refine lv_iconst (v := 0) hx hb d_L_take_15 (by decide) ?_
    refine W.widen (k := 1) (n := 6) (Nat.le_of_ble_eq_true rfl) (Nat.le_of_ble_eq_true rfl) ?_
    exact W.iret (v := 0) hx hb hr (fun t ht hW => ⟨⟨_, _, rfl, (Or.inr ⟨rfl, r, u, hw, rfl⟩), at2.of hP hK hD ht hW⟩, hS.F ht⟩) hS.2.2 d_L_take_16
set_option maxHeartbeats 4000000 in
set_option maxRecDepth 100000 in
theorem c_L_give (l : Launch) (hl9 : l.stackTraces = false) (D : va_G) (ty : tyL) (N0 sz : Nat) (qo : Nat) (cL : ClassId) (o : Nat → Int64) (h cn f : Nat) (v w z1 : Int32) (p0 s0 : List AP) (a : Int32) (t3 : ty[3]? = some (cL, .long)) : Met l y_L_give (Cond.codeWith y_L_give b_L_give 4 (some .int) [(0, 9, 12, 21)] :: GW) ({ frames := 8, cells := 1, slots := 6, locals := 126 }) (va_Pc [.ref h, .int a, .ref qo] (at1 D ty N0 sz (oW qo cL o ++ (scell h cn (hdO (p0 ++ s0) none) (hdO s0 none) f v w z1 :: chG (p0 ++ s0) none)))) (va_Qi (fun r ws' => (r = 1 ∧ (uAt a (p0 ++ s0) = none) ∧ ws' = (oW qo cL o ++ (scell h cn (hdO (p0 ++ s0) none) (hdO s0 none) f v w z1 :: chG (p0 ++ s0) none))) ∨ (r = 0 ∧ ∃ (ans : Int32) (ws1 : va_W), (∃ x l1 l2, uAt a (p0 ++ s0) = some x ∧ p0 ++ s0 = l1 ++ x :: l2 ∧ ans = nI x.2.2.1 ∧ ws1 = scell h cn (hdO (p0 ++ s0) none) (hdO s0 none) (f + 1) v w z1 :: chG (l1 ++ (x.1, x.2.1, x.2.2.1, false, false, f + 1) :: l2) none) ∧ ws' = oW qo cL (vp_updL o 0 ans.toInt64) ++ ws1)) (at2 D ty (va_A (oW qo cL o ++ (scell h cn (hdO (p0 ++ s0) none) (hdO s0 none) f v w z1 :: chG (p0 ++ s0) none)) sz)) (va_A (oW qo cL o ++ (scell h cn (hdO (p0 ++ s0) none) (hdO s0 none) f v w z1 :: chG (p0 ++ s0) none)) sz)) 1 6 (va_A (oW qo cL o ++ (scell h cn (hdO (p0 ++ s0) none) (hdO s0 none) f v w z1 :: chG (p0 ++ s0) none)) sz) := by
  refine va_MetW (cc := b_L_give) (maxL := 4) (ret := (some .int)) (hh := [(0, 9, 12, 21)]) (by decide) rfl ?_
  intro p e s m args below meth c s₁ B hml hv
  obtain ⟨rfl, hsz, hN0, ⟨hP, hK, hN⟩, hD0, hE⟩ := hv
  subst hsz
  have hD := hD0.self (sz := s.heap.size)
  have hAN := sw_AN hD0 hN0
  generalize hAe : va_A (oW qo cL o ++ (scell h cn (hdO (p0 ++ s0) none) (hdO s0 none) f v w z1 :: chG (p0 ++ s0) none)) s.heap.size = A at hD hAN ⊢
  have hA : ∀ q : Nat, s.heap.size ≤ q → A q := fun q h => by rw [← hAe]; exact Or.inr h
  have hS : va_S A s.heap s.heap [] := va_S.rf
  have hP : va_P D classes (oW qo cL o ++ (scell h cn (hdO (p0 ++ s0) none) (hdO s0 none) f v w z1 :: chG (p0 ++ s0) none)) s.heap := hP
  have hx := B.exec
  have hb := B.bytes
  have hr := B.returns
  have hg : ∀ w ∈ GW, w.before _ s = true := fun w h => atoms_spec (ws := Cond.codeWith y_L_give b_L_give 4 (some .int) [(0, 9, 12, 21)] :: GW) B.pre w (List.mem_cons_of_mem _ h)
  have hown : s.vm.findClass R_L = some m.cls := findClass_of_methodNamed B.named
  have hlocks := B.notSynchronized
  have hl := lv_entry ([.ref h, .int a, .ref qo]) (n := 4) (Nat.le_of_ble_eq_true rfl)
  rw [lg_entry_eq]
  generalize (lg_sl ([.ref h, .int a, .ref qo]) ++ List.replicate (4 - (lg_sl ([.ref h, .int a, .ref qo])).length) Slot.unset).toArray = ls at hl ⊢
  replace hl : lv_has ls 4 [(0, .ref h), (1, .int a), (2, .ref qo)] := hl
  have hTab := vx_table (x := objectInit) B (atoms_spec (ws := Cond.codeWith y_L_give b_L_give 4 (some .int) [(0, 9, 12, 21)] :: GW) B.pre _ List.mem_cons_self)
  refine lv_aload_n hx hb d_L_give_0 rfl (lv_at hl 2 rfl) ?_
  refine lv_iconst (v := 0) hx hb d_L_give_1 (by decide) ?_
  refine lv_aload_n hx hb d_L_give_2 rfl (lv_at hl 0 rfl) ?_
  refine lv_iload_n hx hb d_L_give_3 rfl (lv_at hl 1 rfl) ?_
  have hFc := sw_freeR hD hS hA
  have hPo := hP
  have hDo := hD
  refine vx_calli (vx_runV (As := [.int a]) (rest := [.int 0, .ref qo]) ⟨hx, hb, hml, hown, hg⟩ (c_S_give l hl9 D ty N0 _ h cn f v w z1 p0 s0 a) (cwV 1 hg (gw_V gw_237 gw_238 gw_239 gw_26 gw_240) rfl rfl rfl (by decide +kernel) ⟨Nat.le_of_ble_eq_true rfl, Nat.le_of_ble_eq_true rfl⟩) (pre_wrV (sw_PR hP) hK hN (sw_DR hD) hS hAN hN0 hE (ci := 0) (k := 0) rfl rfl) rfl rfl hl.1 rfl (lv_room (Nat.le_of_ble_eq_true rfl)) d_L_give_4 ⟨Nat.le_of_ble_eq_true rfl, Nat.le_of_ble_eq_true rfl⟩) hS (fun q _ h => hFc q h) hFc (fun q _ h => hFc q h) (fun E ce q9 z t H locs ht hvm hw hB hz1 hk1 hS hce hcv hcl => ?_) (fun r u t H locs ht hvm hw hB hz1 hk1 hS => ?_)
  · obtain ⟨hE9, hP1, hK1, hD1⟩ := hB
    obtain ⟨hw1, hw2⟩ := hw
    rw [ht, hw1] at hP1
    rw [hw1] at hD1
    obtain ⟨hP, hD⟩ := sw_join hPo hDo hk1 hFc hP1 hD1
    obtain rfl : E = "java/util/NoSuchElementException" := hE9.trans hw2.1
    refine vx_catch (own := R_L) (name := "java/util/NoSuchElementException") (E := "java/util/NoSuchElementException") hown [] ⟨0, 9, 12, 21⟩ [] (by rw [hTab]; rfl) (fun z hz => nomatch hz) (by decide) (by decide) (hg _ gw_236) (va_Nw.use rfl (hN.2.2.1 "java/util/NoSuchElementException" (by decide))) hce hcv hcl ?_
    refine lv_astore_n (lv' := [(3, .ref q9), (0, .ref h), (1, .int a), (2, .ref qo)]) hx hb d_L_give_12 rfl hl (by decide) rfl (fun ls hl => ?_)
    refine lv_iconst (v := 1) hx hb d_L_give_13 (by decide) ?_
    refine W.widen (k := 1) (n := 6) (Nat.le_of_ble_eq_true rfl) (Nat.le_of_ble_eq_true rfl) ?_
    exact W.iret (v := 1) hx hb hr (fun t ht hW => ⟨⟨_, _, rfl, (Or.inl ⟨rfl, hw2.2, rfl⟩), at2.of hP hK hD ht hW⟩, hS.F ht⟩) hS.2.2 d_L_give_14
  · obtain ⟨hP1, hK1, hD1⟩ := hB
    rw [ht] at hP1
    obtain ⟨hP, hD⟩ := sw_join hPo hDo hk1 hFc hP1 hD1
    refine lv_i2l (v := Int32.toInt64 r) hx hb d_L_give_7 rfl ?_
    refine va_last hx hb hK hP hD hS 0 3 rfl t3 (vp_in_nI (n := 0) (by decide) (by decide)) d_L_give_8 (fun H locs hP hD hS => ?_)
    rw [show (0 : Int32).toNatClampNeg = 0 from by decide] at hP hD
    replace hP : va_P D classes (oW qo cL (vp_updL o 0 (Int32.toInt64 r)) ++ u) _ := hP
    replace hD : va_D A (oW qo cL (vp_updL o 0 (Int32.toInt64 r)) ++ u) := hD
    refine lv_goto (tgt := 15) hx hb d_L_give_9 (by decide) ?_
    refine lv_iconst (v := 0) hx hb d_L_give_15 (by decide) ?_
    refine W.widen (k := 1) (n := 6) (Nat.le_of_ble_eq_true rfl) (Nat.le_of_ble_eq_true rfl) ?_
    exact W.iret (v := 0) hx hb hr (fun t ht hW => ⟨⟨_, _, rfl, (Or.inr ⟨rfl, r, u, hw, rfl⟩), at2.of hP hK hD ht hW⟩, hS.F ht⟩) hS.2.2 d_L_give_16
set_option maxHeartbeats 4000000 in
set_option maxRecDepth 100000 in
theorem c_L_mark (l : Launch) (hl9 : l.stackTraces = false) (D : va_G) (ty : tyL) (N0 sz : Nat) (qo : Nat) (cL : ClassId) (o : Nat → Int64) (h cn f : Nat) (v w z1 : Int32) (p0 s0 : List AP) (a : Int32) (t3 : ty[3]? = some (cL, .long)) : Met l y_L_mark (Cond.codeWith y_L_mark b_L_mark 4 (some .int) [(0, 16, 19, 21), (0, 16, 22, 27)] :: GW) ({ frames := 8, cells := 2, slots := 12, locals := 127 }) (va_Pc [.ref h, .int a, .ref qo] (at1 D ty N0 sz (oW qo cL o ++ (scell h cn (hdO (p0 ++ s0) none) (hdO s0 none) f v w z1 :: chG (p0 ++ s0) none)))) (va_Qi (fun r ws' => (r = 1 ∧ (uAt a (p0 ++ s0) = none) ∧ ws' = (oW qo cL o ++ (scell h cn (hdO (p0 ++ s0) none) (hdO s0 none) f v w z1 :: chG (p0 ++ s0) none))) ∨ (r = 2 ∧ (¬ uAt a (p0 ++ s0) = none ∧ ¬ s0 = []) ∧ ws' = (oW qo cL o ++ (scell h cn (hdO (p0 ++ s0) none) (hdO s0 none) f v w z1 :: chG (p0 ++ s0) none))) ∨ (r = 0 ∧ ∃ (ans : Int32) (ws1 : va_W), (s0 = [] ∧ ∃ x l1 l2, uAt a (p0 ++ s0) = some x ∧ p0 ++ s0 = l1 ++ x :: l2 ∧ ans = bI (!x.2.2.2.2.1) ∧ ws1 = scell h cn (hdO (p0 ++ s0) none) (hdO s0 none) f v w z1 :: chG (l1 ++ (x.1, x.2.1, x.2.2.1, x.2.2.2.1, true, x.2.2.2.2.2) :: l2) none) ∧ ws' = oW qo cL (vp_updL o 0 ans.toInt64) ++ ws1)) (at2 D ty (va_A (oW qo cL o ++ (scell h cn (hdO (p0 ++ s0) none) (hdO s0 none) f v w z1 :: chG (p0 ++ s0) none)) sz)) (va_A (oW qo cL o ++ (scell h cn (hdO (p0 ++ s0) none) (hdO s0 none) f v w z1 :: chG (p0 ++ s0) none)) sz)) 2 12 (va_A (oW qo cL o ++ (scell h cn (hdO (p0 ++ s0) none) (hdO s0 none) f v w z1 :: chG (p0 ++ s0) none)) sz) := by
  refine va_MetW (cc := b_L_mark) (maxL := 4) (ret := (some .int)) (hh := [(0, 16, 19, 21), (0, 16, 22, 27)]) (by decide) rfl ?_
  intro p e s m args below meth c s₁ B hml hv
  obtain ⟨rfl, hsz, hN0, ⟨hP, hK, hN⟩, hD0, hE⟩ := hv
  subst hsz
  have hD := hD0.self (sz := s.heap.size)
  have hAN := sw_AN hD0 hN0
  generalize hAe : va_A (oW qo cL o ++ (scell h cn (hdO (p0 ++ s0) none) (hdO s0 none) f v w z1 :: chG (p0 ++ s0) none)) s.heap.size = A at hD hAN ⊢
  have hA : ∀ q : Nat, s.heap.size ≤ q → A q := fun q h => by rw [← hAe]; exact Or.inr h
  have hS : va_S A s.heap s.heap [] := va_S.rf
  have hP : va_P D classes (oW qo cL o ++ (scell h cn (hdO (p0 ++ s0) none) (hdO s0 none) f v w z1 :: chG (p0 ++ s0) none)) s.heap := hP
  have hx := B.exec
  have hb := B.bytes
  have hr := B.returns
  have hg : ∀ w ∈ GW, w.before _ s = true := fun w h => atoms_spec (ws := Cond.codeWith y_L_mark b_L_mark 4 (some .int) [(0, 16, 19, 21), (0, 16, 22, 27)] :: GW) B.pre w (List.mem_cons_of_mem _ h)
  have hown : s.vm.findClass R_L = some m.cls := findClass_of_methodNamed B.named
  have hlocks := B.notSynchronized
  have hl := lv_entry ([.ref h, .int a, .ref qo]) (n := 4) (Nat.le_of_ble_eq_true rfl)
  rw [lg_entry_eq]
  generalize (lg_sl ([.ref h, .int a, .ref qo]) ++ List.replicate (4 - (lg_sl ([.ref h, .int a, .ref qo])).length) Slot.unset).toArray = ls at hl ⊢
  replace hl : lv_has ls 4 [(0, .ref h), (1, .int a), (2, .ref qo)] := hl
  have hTab := vx_table (x := objectInit) B (atoms_spec (ws := Cond.codeWith y_L_mark b_L_mark 4 (some .int) [(0, 16, 19, 21), (0, 16, 22, 27)] :: GW) B.pre _ List.mem_cons_self)
  refine lv_aload_n hx hb d_L_mark_0 rfl (lv_at hl 2 rfl) ?_
  refine lv_iconst (v := 0) hx hb d_L_mark_1 (by decide) ?_
  refine lv_aload_n hx hb d_L_mark_2 rfl (lv_at hl 0 rfl) ?_
  refine lv_iload_n hx hb d_L_mark_3 rfl (lv_at hl 1 rfl) ?_
  have hFc := sw_freeR hD hS hA
  have hPo := hP
  have hDo := hD
  refine vx_calli (vx_runV (As := [.int a]) (rest := [.int 0, .ref qo]) ⟨hx, hb, hml, hown, hg⟩ (c_S_mark l hl9 D ty N0 _ h cn f v w z1 p0 s0 a) (cwV 1 hg (gw_V gw_265 gw_266 gw_267 gw_26 gw_268) rfl rfl rfl (by decide +kernel) ⟨Nat.le_of_ble_eq_true rfl, Nat.le_of_ble_eq_true rfl⟩) (pre_wrV (sw_PR hP) hK hN (sw_DR hD) hS hAN hN0 hE (ci := 0) (k := 0) rfl rfl) rfl rfl hl.1 rfl (lv_room (Nat.le_of_ble_eq_true rfl)) d_L_mark_4 ⟨Nat.le_of_ble_eq_true rfl, Nat.le_of_ble_eq_true rfl⟩) hS (fun q _ h => hFc q h) hFc (fun q _ h => hFc q h) (fun E ce q9 z t H locs ht hvm hw hB hz1 hk1 hS hce hcv hcl => ?_) (fun r u t H locs ht hvm hw hB hz1 hk1 hS => ?_)
  · obtain ⟨hE9, hP1, hK1, hD1⟩ := hB
    obtain ⟨hw1, hw2⟩ := hw
    rw [ht, hw1] at hP1
    rw [hw1] at hD1
    obtain ⟨hP, hD⟩ := sw_join hPo hDo hk1 hFc hP1 hD1
    rcases hw2 with hw2 | hw2
    · obtain rfl : E = "java/util/NoSuchElementException" := hE9.trans hw2.1
      refine vx_catch (own := R_L) (name := "java/util/NoSuchElementException") (E := "java/util/NoSuchElementException") hown [] ⟨0, 16, 19, 21⟩ [⟨0, 16, 22, 27⟩] (by rw [hTab]; rfl) (fun z hz => nomatch hz) (by decide) (by decide) (hg _ gw_236) (va_Nw.use rfl (hN.2.2.1 "java/util/NoSuchElementException" (by decide))) hce hcv hcl ?_
      refine lv_astore_n (lv' := [(3, .ref q9), (0, .ref h), (1, .int a), (2, .ref qo)]) hx hb d_L_mark_19 rfl hl (by decide) rfl (fun ls hl => ?_)
      refine lv_iconst (v := 1) hx hb d_L_mark_20 (by decide) ?_
      refine W.widen (k := 2) (n := 12) (Nat.le_of_ble_eq_true rfl) (Nat.le_of_ble_eq_true rfl) ?_
      exact W.iret (v := 1) hx hb hr (fun t ht hW => ⟨⟨_, _, rfl, (Or.inl ⟨rfl, hw2.2, rfl⟩), at2.of hP hK hD ht hW⟩, hS.F ht⟩) hS.2.2 d_L_mark_21
    · obtain rfl : E = "java/lang/IllegalStateException" := hE9.trans hw2.1
      refine vx_catch (own := R_L) (name := "java/lang/IllegalStateException") (E := "java/lang/IllegalStateException") hown [⟨0, 16, 19, 21⟩] ⟨0, 16, 22, 27⟩ [] (by rw [hTab]; rfl) (fun z hz => by rcases List.mem_cons.mp hz with rfl | hz; exact Or.inr ⟨by decide, "java/util/NoSuchElementException", hg _ gw_236, hN.2.2.2.2⟩; cases hz) (by decide) (by decide) (hg _ gw_264) (va_Nw.use rfl (hN.2.2.1 "java/lang/IllegalStateException" (by decide))) hce hcv hcl ?_
      refine lv_astore_n (lv' := [(3, .ref q9), (0, .ref h), (1, .int a), (2, .ref qo)]) hx hb d_L_mark_22 rfl hl (by decide) rfl (fun ls hl => ?_)
      refine lv_iconst (v := 2) hx hb d_L_mark_23 (by decide) ?_
      refine W.widen (k := 2) (n := 12) (Nat.le_of_ble_eq_true rfl) (Nat.le_of_ble_eq_true rfl) ?_
      exact W.iret (v := 2) hx hb hr (fun t ht hW => ⟨⟨_, _, rfl, (Or.inr (Or.inl ⟨rfl, hw2.2, rfl⟩)), at2.of hP hK hD ht hW⟩, hS.F ht⟩) hS.2.2 d_L_mark_24
  · obtain ⟨hP1, hK1, hD1⟩ := hB
    rw [ht] at hP1
    obtain ⟨hP, hD⟩ := sw_join hPo hDo hk1 hFc hP1 hD1
    refine lv_if_eq (tgt := 14) hx hb d_L_mark_7 (by decide) (fun c_7 => ?_) (fun c_7 => ?_)
    · have hrv : (0 : Int64) = r.toInt64 := by rw [c_7]; rfl
      refine lv_lconst (v := 0) hx hb d_L_mark_14 (by decide) ?_
      refine va_last hx hb hK hP hD hS 0 3 rfl t3 (vp_in_nI (n := 0) (by decide) (by decide)) d_L_mark_15 (fun H locs hP hD hS => ?_)
      rw [show (0 : Int32).toNatClampNeg = 0 from by decide] at hP hD
      replace hP : va_P D classes (oW qo cL (vp_updL o 0 0) ++ u) _ := hP
      replace hD : va_D A (oW qo cL (vp_updL o 0 0) ++ u) := hD
      refine lv_goto (tgt := 25) hx hb d_L_mark_16 (by decide) ?_
      refine lv_iconst (v := 0) hx hb d_L_mark_25 (by decide) ?_
      refine W.widen (k := 2) (n := 12) (Nat.le_of_ble_eq_true rfl) (Nat.le_of_ble_eq_true rfl) ?_
      exact W.iret (v := 0) hx hb hr (fun t ht hW => ⟨⟨_, _, rfl, (Or.inr (Or.inr ⟨rfl, r, u, hw, by rw [← hrv]⟩)), at2.of hP hK hD ht hW⟩, hS.F ht⟩) hS.2.2 d_L_mark_26
    · have hrv : (1 : Int64) = r.toInt64 := by obtain ⟨-, x9, l8, l9, -, -, h9, -⟩ := hw; rw [h9] at c_7 ⊢; cases hb9 : !x9.2.2.2.2.1 with | false => rw [hb9] at c_7; exact absurd rfl c_7 | true => rfl
      refine lv_lconst (v := 1) hx hb d_L_mark_10 (by decide) ?_
      refine lv_goto (tgt := 15) hx hb d_L_mark_11 (by decide) ?_
      refine va_last hx hb hK hP hD hS 0 3 rfl t3 (vp_in_nI (n := 0) (by decide) (by decide)) d_L_mark_15 (fun H locs hP hD hS => ?_)
      rw [show (0 : Int32).toNatClampNeg = 0 from by decide] at hP hD
      replace hP : va_P D classes (oW qo cL (vp_updL o 0 1) ++ u) _ := hP
      replace hD : va_D A (oW qo cL (vp_updL o 0 1) ++ u) := hD
      refine lv_goto (tgt := 25) hx hb d_L_mark_16 (by decide) ?_
      refine lv_iconst (v := 0) hx hb d_L_mark_25 (by decide) ?_
      refine W.widen (k := 2) (n := 12) (Nat.le_of_ble_eq_true rfl) (Nat.le_of_ble_eq_true rfl) ?_
      exact W.iret (v := 0) hx hb hr (fun t ht hW => ⟨⟨_, _, rfl, (Or.inr (Or.inr ⟨rfl, r, u, hw, by rw [← hrv]⟩)), at2.of hP hK hD ht hW⟩, hS.F ht⟩) hS.2.2 d_L_mark_26
set_option maxHeartbeats 4000000 in
set_option maxRecDepth 100000 in
theorem c_L_unmark (l : Launch) (hl9 : l.stackTraces = false) (D : va_G) (ty : tyL) (N0 sz : Nat) (qo : Nat) (cL : ClassId) (o : Nat → Int64) (h cn f : Nat) (v w z1 : Int32) (p0 s0 : List AP) (t3 : ty[3]? = some (cL, .long)) : Met l y_L_unmark (Cond.codeWith y_L_unmark b_L_unmark 3 (some .int) [(0, 8, 11, 27)] :: GW) ({ frames := 8, cells := 1, slots := 6, locals := 124 }) (va_Pc [.ref h, .ref qo] (at1 D ty N0 sz (oW qo cL o ++ (scell h cn (hdO (p0 ++ s0) none) (hdO s0 none) f v w z1 :: chG (p0 ++ s0) none)))) (va_Qi (fun r ws' => (r = 1 ∧ (¬ s0 = []) ∧ ws' = (oW qo cL o ++ (scell h cn (hdO (p0 ++ s0) none) (hdO s0 none) f v w z1 :: chG (p0 ++ s0) none))) ∨ (r = 0 ∧ ∃ (ans : Int32) (ws1 : va_W), (s0 = [] ∧ ans = nI (shrS 8 (p0 ++ s0)) ∧ ws1 = scell h cn (hdO (p0 ++ s0) none) (hdO s0 none) f v w z1 :: chG (unmkL (p0 ++ s0)) none) ∧ ws' = oW qo cL (vp_updL o 0 ans.toInt64) ++ ws1)) (at2 D ty (va_A (oW qo cL o ++ (scell h cn (hdO (p0 ++ s0) none) (hdO s0 none) f v w z1 :: chG (p0 ++ s0) none)) sz)) (va_A (oW qo cL o ++ (scell h cn (hdO (p0 ++ s0) none) (hdO s0 none) f v w z1 :: chG (p0 ++ s0) none)) sz)) 1 6 (va_A (oW qo cL o ++ (scell h cn (hdO (p0 ++ s0) none) (hdO s0 none) f v w z1 :: chG (p0 ++ s0) none)) sz) := by
  refine va_MetW (cc := b_L_unmark) (maxL := 3) (ret := (some .int)) (hh := [(0, 8, 11, 27)]) (by decide) rfl ?_
  intro p e s m args below meth c s₁ B hml hv
  obtain ⟨rfl, hsz, hN0, ⟨hP, hK, hN⟩, hD0, hE⟩ := hv
  subst hsz
  have hD := hD0.self (sz := s.heap.size)
  have hAN := sw_AN hD0 hN0
  generalize hAe : va_A (oW qo cL o ++ (scell h cn (hdO (p0 ++ s0) none) (hdO s0 none) f v w z1 :: chG (p0 ++ s0) none)) s.heap.size = A at hD hAN ⊢
  have hA : ∀ q : Nat, s.heap.size ≤ q → A q := fun q h => by rw [← hAe]; exact Or.inr h
  have hS : va_S A s.heap s.heap [] := va_S.rf
  have hP : va_P D classes (oW qo cL o ++ (scell h cn (hdO (p0 ++ s0) none) (hdO s0 none) f v w z1 :: chG (p0 ++ s0) none)) s.heap := hP
  have hx := B.exec
  have hb := B.bytes
  have hr := B.returns
  have hg : ∀ w ∈ GW, w.before _ s = true := fun w h => atoms_spec (ws := Cond.codeWith y_L_unmark b_L_unmark 3 (some .int) [(0, 8, 11, 27)] :: GW) B.pre w (List.mem_cons_of_mem _ h)
  have hown : s.vm.findClass R_L = some m.cls := findClass_of_methodNamed B.named
  have hlocks := B.notSynchronized
  have hl := lv_entry ([.ref h, .ref qo]) (n := 3) (Nat.le_of_ble_eq_true rfl)
  rw [lg_entry_eq]
  generalize (lg_sl ([.ref h, .ref qo]) ++ List.replicate (3 - (lg_sl ([.ref h, .ref qo])).length) Slot.unset).toArray = ls at hl ⊢
  replace hl : lv_has ls 3 [(0, .ref h), (1, .ref qo)] := hl
  have hTab := vx_table (x := objectInit) B (atoms_spec (ws := Cond.codeWith y_L_unmark b_L_unmark 3 (some .int) [(0, 8, 11, 27)] :: GW) B.pre _ List.mem_cons_self)
  refine lv_aload_n hx hb d_L_unmark_0 rfl (lv_at hl 1 rfl) ?_
  refine lv_iconst (v := 0) hx hb d_L_unmark_1 (by decide) ?_
  refine lv_aload_n hx hb d_L_unmark_2 rfl (lv_at hl 0 rfl) ?_
  have hFc := sw_freeR hD hS hA
  have hPo := hP
  have hDo := hD
  refine vx_calli (vx_runV (As := []) (rest := [.int 0, .ref qo]) ⟨hx, hb, hml, hown, hg⟩ (c_S_unmark l hl9 D ty N0 _ h cn f v w z1 p0 s0) (cwV 0 hg (gw_V gw_292 gw_293 gw_294 gw_26 gw_295) rfl rfl rfl (by decide +kernel) ⟨Nat.le_of_ble_eq_true rfl, Nat.le_of_ble_eq_true rfl⟩) (pre_wrV (sw_PR hP) hK hN (sw_DR hD) hS hAN hN0 hE (ci := 0) (k := 0) rfl rfl) rfl rfl hl.1 rfl (lv_room (Nat.le_of_ble_eq_true rfl)) d_L_unmark_3 ⟨Nat.le_of_ble_eq_true rfl, Nat.le_of_ble_eq_true rfl⟩) hS (fun q _ h => hFc q h) hFc (fun q _ h => hFc q h) (fun E ce q9 z t H locs ht hvm hw hB hz1 hk1 hS hce hcv hcl => ?_) (fun r u t H locs ht hvm hw hB hz1 hk1 hS => ?_)
  · obtain ⟨hE9, hP1, hK1, hD1⟩ := hB
    obtain ⟨hw1, hw2⟩ := hw
    rw [ht, hw1] at hP1
    rw [hw1] at hD1
    obtain ⟨hP, hD⟩ := sw_join hPo hDo hk1 hFc hP1 hD1
    obtain rfl : E = "java/lang/IllegalStateException" := hE9.trans hw2.1
    refine vx_catch (own := R_L) (name := "java/lang/IllegalStateException") (E := "java/lang/IllegalStateException") hown [] ⟨0, 8, 11, 27⟩ [] (by rw [hTab]; rfl) (fun z hz => nomatch hz) (by decide) (by decide) (hg _ gw_264) (va_Nw.use rfl (hN.2.2.1 "java/lang/IllegalStateException" (by decide))) hce hcv hcl ?_
    refine lv_astore_n (lv' := [(2, .ref q9), (0, .ref h), (1, .ref qo)]) hx hb d_L_unmark_11 rfl hl (by decide) rfl (fun ls hl => ?_)
    refine lv_iconst (v := 1) hx hb d_L_unmark_12 (by decide) ?_
    refine W.widen (k := 1) (n := 6) (Nat.le_of_ble_eq_true rfl) (Nat.le_of_ble_eq_true rfl) ?_
    exact W.iret (v := 1) hx hb hr (fun t ht hW => ⟨⟨_, _, rfl, (Or.inl ⟨rfl, hw2.2, rfl⟩), at2.of hP hK hD ht hW⟩, hS.F ht⟩) hS.2.2 d_L_unmark_13
  · obtain ⟨hP1, hK1, hD1⟩ := hB
    rw [ht] at hP1
    obtain ⟨hP, hD⟩ := sw_join hPo hDo hk1 hFc hP1 hD1
    refine lv_i2l (v := Int32.toInt64 r) hx hb d_L_unmark_6 rfl ?_
    refine va_last hx hb hK hP hD hS 0 3 rfl t3 (vp_in_nI (n := 0) (by decide) (by decide)) d_L_unmark_7 (fun H locs hP hD hS => ?_)
    rw [show (0 : Int32).toNatClampNeg = 0 from by decide] at hP hD
    replace hP : va_P D classes (oW qo cL (vp_updL o 0 (Int32.toInt64 r)) ++ u) _ := hP
    replace hD : va_D A (oW qo cL (vp_updL o 0 (Int32.toInt64 r)) ++ u) := hD
    refine lv_goto (tgt := 14) hx hb d_L_unmark_8 (by decide) ?_
    refine lv_iconst (v := 0) hx hb d_L_unmark_14 (by decide) ?_
    refine W.widen (k := 1) (n := 6) (Nat.le_of_ble_eq_true rfl) (Nat.le_of_ble_eq_true rfl) ?_
    exact W.iret (v := 0) hx hb hr (fun t ht hW => ⟨⟨_, _, rfl, (Or.inr ⟨rfl, r, u, hw, rfl⟩), at2.of hP hK hD ht hW⟩, hS.F ht⟩) hS.2.2 d_L_unmark_15
set_option maxHeartbeats 4000000 in
set_option maxRecDepth 100000 in
theorem c_L_begin (l : Launch) (hl9 : l.stackTraces = false) (D : va_G) (ty : tyL) (N0 sz : Nat) (qo : Nat) (cL : ClassId) (o : Nat → Int64) (h cn f : Nat) (v w z1 : Int32) (p0 s0 : List AP) (t3 : ty[3]? = some (cL, .long)) : Met l y_L_begin (Cond.codeWith y_L_begin b_L_begin 2 (some .int) [(0, 4, 7, 27)] :: GW) ({ frames := 8, cells := 1, slots := 6, locals := 122 }) (va_Pc [.ref h] (at1 D ty N0 sz (scell h cn (hdO (p0 ++ s0) none) (hdO s0 none) f v w z1 :: chG (p0 ++ s0) none))) (va_Qi (fun r ws' => (r = 1 ∧ (¬ s0 = []) ∧ ws' = (scell h cn (hdO (p0 ++ s0) none) (hdO s0 none) f v w z1 :: chG (p0 ++ s0) none)) ∨ (r = 0 ∧ (s0 = [] ∧ ws' = scell h cn (hdO (p0 ++ s0) none) (hdO (p0 ++ s0) none) f v w z1 :: chG (p0 ++ s0) none))) (at2 D ty (va_A (scell h cn (hdO (p0 ++ s0) none) (hdO s0 none) f v w z1 :: chG (p0 ++ s0) none) sz)) (va_A (scell h cn (hdO (p0 ++ s0) none) (hdO s0 none) f v w z1 :: chG (p0 ++ s0) none) sz)) 1 6 (va_A (scell h cn (hdO (p0 ++ s0) none) (hdO s0 none) f v w z1 :: chG (p0 ++ s0) none) sz) := by
  refine va_MetW (cc := b_L_begin) (maxL := 2) (ret := (some .int)) (hh := [(0, 4, 7, 27)]) (by decide) rfl ?_
  intro p e s m args below meth c s₁ B hml hv
  obtain ⟨rfl, hsz, hN0, ⟨hP, hK, hN⟩, hD0, hE⟩ := hv
  subst hsz
  have hD := hD0.self (sz := s.heap.size)
  have hAN := sw_AN hD0 hN0
  generalize hAe : va_A (scell h cn (hdO (p0 ++ s0) none) (hdO s0 none) f v w z1 :: chG (p0 ++ s0) none) s.heap.size = A at hD hAN ⊢
  have hA : ∀ q : Nat, s.heap.size ≤ q → A q := fun q h => by rw [← hAe]; exact Or.inr h
  have hS : va_S A s.heap s.heap [] := va_S.rf
  have hP : va_P D classes (scell h cn (hdO (p0 ++ s0) none) (hdO s0 none) f v w z1 :: chG (p0 ++ s0) none) s.heap := hP
  have hx := B.exec
  have hb := B.bytes
  have hr := B.returns
  have hg : ∀ w ∈ GW, w.before _ s = true := fun w h => atoms_spec (ws := Cond.codeWith y_L_begin b_L_begin 2 (some .int) [(0, 4, 7, 27)] :: GW) B.pre w (List.mem_cons_of_mem _ h)
  have hown : s.vm.findClass R_L = some m.cls := findClass_of_methodNamed B.named
  have hlocks := B.notSynchronized
  have hl := lv_entry ([.ref h]) (n := 2) (Nat.le_of_ble_eq_true rfl)
  rw [lg_entry_eq]
  generalize (lg_sl ([.ref h]) ++ List.replicate (2 - (lg_sl ([.ref h])).length) Slot.unset).toArray = ls at hl ⊢
  replace hl : lv_has ls 2 [(0, .ref h)] := hl
  have hTab := vx_table (x := objectInit) B (atoms_spec (ws := Cond.codeWith y_L_begin b_L_begin 2 (some .int) [(0, 4, 7, 27)] :: GW) B.pre _ List.mem_cons_self)
  refine lv_aload_n hx hb d_L_begin_0 rfl (lv_at hl 0 rfl) ?_
  have hFc := sw_free hD hS hA
  have hPo := hP
  have hDo := hD
  refine vx_callv (vx_runV (As := []) (rest := []) ⟨hx, hb, hml, hown, hg⟩ (c_S_begin l hl9 D ty N0 _ h cn f v w z1 p0 s0) (cwV 0 hg (gw_V gw_299 gw_300 gw_301 gw_26 gw_302) rfl rfl rfl (by decide +kernel) ⟨Nat.le_of_ble_eq_true rfl, Nat.le_of_ble_eq_true rfl⟩) (pre_wrV hP hK hN hD hS hAN hN0 hE (ci := 0) (k := 0) rfl rfl) rfl rfl hl.1 rfl (lv_room (Nat.le_of_ble_eq_true rfl)) d_L_begin_1 ⟨Nat.le_of_ble_eq_true rfl, Nat.le_of_ble_eq_true rfl⟩) hS (fun q _ h => hFc q h) hFc (fun q _ h => hFc q h) (fun E ce q9 z t H locs ht hvm hw hB hz1 hk1 hS hce hcv hcl => ?_) (fun u t H locs ht hvm hw hB hz1 hk1 hS => ?_)
  · obtain ⟨hE9, hP1, hK1, hD1⟩ := hB
    obtain ⟨hw1, hw2⟩ := hw
    rw [ht, hw1] at hP1
    rw [hw1] at hD1
    have hP := hP1
    have hD := hD1.weaken (fun _ _ _ h => hFc _ h)
    obtain rfl : E = "java/lang/IllegalStateException" := hE9.trans hw2.1
    refine vx_catch (own := R_L) (name := "java/lang/IllegalStateException") (E := "java/lang/IllegalStateException") hown [] ⟨0, 4, 7, 27⟩ [] (by rw [hTab]; rfl) (fun z hz => nomatch hz) (by decide) (by decide) (hg _ gw_264) (va_Nw.use rfl (hN.2.2.1 "java/lang/IllegalStateException" (by decide))) hce hcv hcl ?_
    refine lv_astore_n (lv' := [(1, .ref q9), (0, .ref h)]) hx hb d_L_begin_7 rfl hl (by decide) rfl (fun ls hl => ?_)
    refine lv_iconst (v := 1) hx hb d_L_begin_8 (by decide) ?_
    refine W.widen (k := 1) (n := 6) (Nat.le_of_ble_eq_true rfl) (Nat.le_of_ble_eq_true rfl) ?_
    exact W.iret (v := 1) hx hb hr (fun t ht hW => ⟨⟨_, _, rfl, (Or.inl ⟨rfl, hw2.2, rfl⟩), at2.of hP hK hD ht hW⟩, hS.F ht⟩) hS.2.2 d_L_begin_9
  · obtain ⟨hP1, hK1, hD1⟩ := hB
    rw [ht] at hP1
    have hP := hP1
    have hD := hD1.weaken (fun _ _ _ h => hFc _ h)
    refine lv_goto (tgt := 10) hx hb d_L_begin_4 (by decide) ?_
    refine lv_iconst (v := 0) hx hb d_L_begin_10 (by decide) ?_
    refine W.widen (k := 1) (n := 6) (Nat.le_of_ble_eq_true rfl) (Nat.le_of_ble_eq_true rfl) ?_
    exact W.iret (v := 0) hx hb hr (fun t ht hW => ⟨⟨_, _, rfl, (Or.inr ⟨rfl, hw⟩), at2.of hP hK hD ht hW⟩, hS.F ht⟩) hS.2.2 d_L_begin_11
set_option maxHeartbeats 4000000 in
set_option maxRecDepth 100000 in
theorem c_L_sweep (l : Launch) (hl9 : l.stackTraces = false) (D : va_G) (ty : tyL) (N0 sz : Nat) (qo : Nat) (cL : ClassId) (o : Nat → Int64) (h cn f : Nat) (v w z1 : Int32) (p0 s0 : List AP) (n : Int32) (t3 : ty[3]? = some (cL, .long)) : Met l y_L_sweep (Cond.codeWith y_L_sweep b_L_sweep 4 (some .int) [(0, 9, 12, 13)] :: GW) ({ frames := 7, cells := 1, slots := 6, locals := 104 }) (va_Pc [.ref h, .int n, .ref qo] (at1 D ty N0 sz (oW qo cL o ++ (scell h cn (hdO (p0 ++ s0) none) (hdO s0 none) f v w z1 :: chG (p0 ++ s0) none)))) (va_Qi (fun r ws' => (r = 1 ∧ (n < 0 ∨ ¬ n ≤ 5000) ∧ ws' = (oW qo cL o ++ (scell h cn (hdO (p0 ++ s0) none) (hdO s0 none) f v w z1 :: chG (p0 ++ s0) none))) ∨ (r = 0 ∧ ∃ (ans : Int32) (ws1 : va_W), (∃ k : Nat, k ≤ 5000 ∧ n = nI k ∧ ans = nI (swR k p0 s0 f w z1).1 ∧ ws1 = wsW h cn v (swR k p0 s0 f w z1).2) ∧ ws' = oW qo cL (vp_updL o 0 ans.toInt64) ++ ws1)) (at2 D ty (va_A (oW qo cL o ++ (scell h cn (hdO (p0 ++ s0) none) (hdO s0 none) f v w z1 :: chG (p0 ++ s0) none)) sz)) (va_A (oW qo cL o ++ (scell h cn (hdO (p0 ++ s0) none) (hdO s0 none) f v w z1 :: chG (p0 ++ s0) none)) sz)) 1 6 (va_A (oW qo cL o ++ (scell h cn (hdO (p0 ++ s0) none) (hdO s0 none) f v w z1 :: chG (p0 ++ s0) none)) sz) := by
  refine va_MetW (cc := b_L_sweep) (maxL := 4) (ret := (some .int)) (hh := [(0, 9, 12, 13)]) (by decide) rfl ?_
  intro p e s m args below meth c s₁ B hml hv
  obtain ⟨rfl, hsz, hN0, ⟨hP, hK, hN⟩, hD0, hE⟩ := hv
  subst hsz
  have hD := hD0.self (sz := s.heap.size)
  have hAN := sw_AN hD0 hN0
  generalize hAe : va_A (oW qo cL o ++ (scell h cn (hdO (p0 ++ s0) none) (hdO s0 none) f v w z1 :: chG (p0 ++ s0) none)) s.heap.size = A at hD hAN ⊢
  have hA : ∀ q : Nat, s.heap.size ≤ q → A q := fun q h => by rw [← hAe]; exact Or.inr h
  have hS : va_S A s.heap s.heap [] := va_S.rf
  have hP : va_P D classes (oW qo cL o ++ (scell h cn (hdO (p0 ++ s0) none) (hdO s0 none) f v w z1 :: chG (p0 ++ s0) none)) s.heap := hP
  have hx := B.exec
  have hb := B.bytes
  have hr := B.returns
  have hg : ∀ w ∈ GW, w.before _ s = true := fun w h => atoms_spec (ws := Cond.codeWith y_L_sweep b_L_sweep 4 (some .int) [(0, 9, 12, 13)] :: GW) B.pre w (List.mem_cons_of_mem _ h)
  have hown : s.vm.findClass R_L = some m.cls := findClass_of_methodNamed B.named
  have hlocks := B.notSynchronized
  have hl := lv_entry ([.ref h, .int n, .ref qo]) (n := 4) (Nat.le_of_ble_eq_true rfl)
  rw [lg_entry_eq]
  generalize (lg_sl ([.ref h, .int n, .ref qo]) ++ List.replicate (4 - (lg_sl ([.ref h, .int n, .ref qo])).length) Slot.unset).toArray = ls at hl ⊢
  replace hl : lv_has ls 4 [(0, .ref h), (1, .int n), (2, .ref qo)] := hl
  have hTab := vx_table (x := objectInit) B (atoms_spec (ws := Cond.codeWith y_L_sweep b_L_sweep 4 (some .int) [(0, 9, 12, 13)] :: GW) B.pre _ List.mem_cons_self)
  refine lv_aload_n hx hb d_L_sweep_0 rfl (lv_at hl 2 rfl) ?_
  refine lv_iconst (v := 0) hx hb d_L_sweep_1 (by decide) ?_
  refine lv_aload_n hx hb d_L_sweep_2 rfl (lv_at hl 0 rfl) ?_
  refine lv_iload_n hx hb d_L_sweep_3 rfl (lv_at hl 1 rfl) ?_
  have hFc := sw_freeR hD hS hA
  have hPo := hP
  have hDo := hD
  refine vx_calli (vx_runV (As := [.int n]) (rest := [.int 0, .ref qo]) ⟨hx, hb, hml, hown, hg⟩ (c_S_sweep l hl9 D ty N0 _ h cn f v w z1 p0 s0 n) (cwV 1 hg (gw_V gw_306 gw_307 gw_308 gw_26 gw_309) rfl rfl rfl (by decide +kernel) ⟨Nat.le_of_ble_eq_true rfl, Nat.le_of_ble_eq_true rfl⟩) (pre_wrV (sw_PR hP) hK hN (sw_DR hD) hS hAN hN0 hE (ci := 0) (k := 0) rfl rfl) rfl rfl hl.1 rfl (lv_room (Nat.le_of_ble_eq_true rfl)) d_L_sweep_4 ⟨Nat.le_of_ble_eq_true rfl, Nat.le_of_ble_eq_true rfl⟩) hS (fun q _ h => hFc q h) hFc (fun q _ h => hFc q h) (fun E ce q9 z t H locs ht hvm hw hB hz1 hk1 hS hce hcv hcl => ?_) (fun r u t H locs ht hvm hw hB hz1 hk1 hS => ?_)
  · obtain ⟨hE9, hP1, hK1, hD1⟩ := hB
    obtain ⟨hw1, hw2⟩ := hw
    rw [ht, hw1] at hP1
    rw [hw1] at hD1
    obtain ⟨hP, hD⟩ := sw_join hPo hDo hk1 hFc hP1 hD1
    obtain rfl : E = "java/lang/IllegalArgumentException" := hE9.trans hw2.1
    refine vx_catch (own := R_L) (name := "java/lang/IllegalArgumentException") (E := "java/lang/IllegalArgumentException") hown [] ⟨0, 9, 12, 13⟩ [] (by rw [hTab]; rfl) (fun z hz => nomatch hz) (by decide) (by decide) (hg _ gw_137) (va_Nw.use rfl (hN.2.2.1 "java/lang/IllegalArgumentException" (by decide))) hce hcv hcl ?_
    refine lv_astore_n (lv' := [(3, .ref q9), (0, .ref h), (1, .int n), (2, .ref qo)]) hx hb d_L_sweep_12 rfl hl (by decide) rfl (fun ls hl => ?_)
    refine lv_iconst (v := 1) hx hb d_L_sweep_13 (by decide) ?_
    refine W.widen (k := 1) (n := 6) (Nat.le_of_ble_eq_true rfl) (Nat.le_of_ble_eq_true rfl) ?_
    exact W.iret (v := 1) hx hb hr (fun t ht hW => ⟨⟨_, _, rfl, (Or.inl ⟨rfl, hw2.2, rfl⟩), at2.of hP hK hD ht hW⟩, hS.F ht⟩) hS.2.2 d_L_sweep_14
  · obtain ⟨hP1, hK1, hD1⟩ := hB
    rw [ht] at hP1
    obtain ⟨hP, hD⟩ := sw_join hPo hDo hk1 hFc hP1 hD1
    refine lv_i2l (v := Int32.toInt64 r) hx hb d_L_sweep_7 rfl ?_
    refine va_last hx hb hK hP hD hS 0 3 rfl t3 (vp_in_nI (n := 0) (by decide) (by decide)) d_L_sweep_8 (fun H locs hP hD hS => ?_)
    rw [show (0 : Int32).toNatClampNeg = 0 from by decide] at hP hD
    replace hP : va_P D classes (oW qo cL (vp_updL o 0 (Int32.toInt64 r)) ++ u) _ := hP
    replace hD : va_D A (oW qo cL (vp_updL o 0 (Int32.toInt64 r)) ++ u) := hD
    refine lv_goto (tgt := 15) hx hb d_L_sweep_9 (by decide) ?_
    refine lv_iconst (v := 0) hx hb d_L_sweep_15 (by decide) ?_
    refine W.widen (k := 1) (n := 6) (Nat.le_of_ble_eq_true rfl) (Nat.le_of_ble_eq_true rfl) ?_
    exact W.iret (v := 0) hx hb hr (fun t ht hW => ⟨⟨_, _, rfl, (Or.inr ⟨rfl, r, u, hw, rfl⟩), at2.of hP hK hD ht hW⟩, hS.F ht⟩) hS.2.2 d_L_sweep_16
set_option maxHeartbeats 4000000 in
set_option maxRecDepth 100000 in
theorem c_L_count (l : Launch) (hl9 : l.stackTraces = false) (D : va_G) (ty : tyL) (N0 sz : Nat) (qo : Nat) (cL : ClassId) (o : Nat → Int64) (h cn f : Nat) (v w z1 : Int32) (p0 s0 : List AP) (n : Int32) (t3 : ty[3]? = some (cL, .long)) (hBd : Bd (p0 ++ s0)) : Met l y_L_count (Cond.codeWith y_L_count b_L_count 4 (some .int) [(0, 9, 12, 13)] :: GW) ({ frames := 7, cells := 1, slots := 6, locals := 103 }) (va_Pc [.ref h, .int n, .ref qo] (at1 D ty N0 sz (oW qo cL o ++ (scell h cn (hdO (p0 ++ s0) none) (hdO s0 none) f v w z1 :: chG (p0 ++ s0) none)))) (va_Qi (fun r ws' => (r = 1 ∧ (n < 0 ∨ ¬ n ≤ 10) ∧ ws' = (oW qo cL o ++ (scell h cn (hdO (p0 ++ s0) none) (hdO s0 none) f v w z1 :: chG (p0 ++ s0) none))) ∨ (r = 0 ∧ ∃ (ans : Int32) (ws1 : va_W), (∃ k : Nat, k ≤ 10 ∧ n = nI k ∧ ans = cntV cn v w z1 (p0 ++ s0) k ∧ ws1 = scell h cn (hdO (p0 ++ s0) none) (hdO s0 none) f v w z1 :: chG (p0 ++ s0) none) ∧ ws' = oW qo cL (vp_updL o 0 ans.toInt64) ++ ws1)) (at2 D ty (va_A (oW qo cL o ++ (scell h cn (hdO (p0 ++ s0) none) (hdO s0 none) f v w z1 :: chG (p0 ++ s0) none)) sz)) (va_A (oW qo cL o ++ (scell h cn (hdO (p0 ++ s0) none) (hdO s0 none) f v w z1 :: chG (p0 ++ s0) none)) sz)) 1 6 (va_A (oW qo cL o ++ (scell h cn (hdO (p0 ++ s0) none) (hdO s0 none) f v w z1 :: chG (p0 ++ s0) none)) sz) := by
  refine va_MetW (cc := b_L_count) (maxL := 4) (ret := (some .int)) (hh := [(0, 9, 12, 13)]) (by decide) rfl ?_
  intro p e s m args below meth c s₁ B hml hv
  obtain ⟨rfl, hsz, hN0, ⟨hP, hK, hN⟩, hD0, hE⟩ := hv
  subst hsz
  have hD := hD0.self (sz := s.heap.size)
  have hAN := sw_AN hD0 hN0
  generalize hAe : va_A (oW qo cL o ++ (scell h cn (hdO (p0 ++ s0) none) (hdO s0 none) f v w z1 :: chG (p0 ++ s0) none)) s.heap.size = A at hD hAN ⊢
  have hA : ∀ q : Nat, s.heap.size ≤ q → A q := fun q h => by rw [← hAe]; exact Or.inr h
  have hS : va_S A s.heap s.heap [] := va_S.rf
  have hP : va_P D classes (oW qo cL o ++ (scell h cn (hdO (p0 ++ s0) none) (hdO s0 none) f v w z1 :: chG (p0 ++ s0) none)) s.heap := hP
  have hx := B.exec
  have hb := B.bytes
  have hr := B.returns
  have hg : ∀ w ∈ GW, w.before _ s = true := fun w h => atoms_spec (ws := Cond.codeWith y_L_count b_L_count 4 (some .int) [(0, 9, 12, 13)] :: GW) B.pre w (List.mem_cons_of_mem _ h)
  have hown : s.vm.findClass R_L = some m.cls := findClass_of_methodNamed B.named
  have hlocks := B.notSynchronized
  have hl := lv_entry ([.ref h, .int n, .ref qo]) (n := 4) (Nat.le_of_ble_eq_true rfl)
  rw [lg_entry_eq]
  generalize (lg_sl ([.ref h, .int n, .ref qo]) ++ List.replicate (4 - (lg_sl ([.ref h, .int n, .ref qo])).length) Slot.unset).toArray = ls at hl ⊢
  replace hl : lv_has ls 4 [(0, .ref h), (1, .int n), (2, .ref qo)] := hl
  have hTab := vx_table (x := objectInit) B (atoms_spec (ws := Cond.codeWith y_L_count b_L_count 4 (some .int) [(0, 9, 12, 13)] :: GW) B.pre _ List.mem_cons_self)
  refine lv_aload_n hx hb d_L_count_0 rfl (lv_at hl 2 rfl) ?_
  refine lv_iconst (v := 0) hx hb d_L_count_1 (by decide) ?_
  refine lv_aload_n hx hb d_L_count_2 rfl (lv_at hl 0 rfl) ?_
  refine lv_iload_n hx hb d_L_count_3 rfl (lv_at hl 1 rfl) ?_
  have hFc := sw_freeR hD hS hA
  have hPo := hP
  have hDo := hD
  refine vx_calli (vx_runV (As := [.int n]) (rest := [.int 0, .ref qo]) ⟨hx, hb, hml, hown, hg⟩ (c_S_count l hl9 D ty N0 _ h cn f v w z1 p0 s0 n hBd) (cwV 1 hg (gw_V gw_326 gw_327 gw_328 gw_26 gw_329) rfl rfl rfl (by decide +kernel) ⟨Nat.le_of_ble_eq_true rfl, Nat.le_of_ble_eq_true rfl⟩) (pre_wrV (sw_PR hP) hK hN (sw_DR hD) hS hAN hN0 hE (ci := 0) (k := 0) rfl rfl) rfl rfl hl.1 rfl (lv_room (Nat.le_of_ble_eq_true rfl)) d_L_count_4 ⟨Nat.le_of_ble_eq_true rfl, Nat.le_of_ble_eq_true rfl⟩) hS (fun q _ h => hFc q h) hFc (fun q _ h => hFc q h) (fun E ce q9 z t H locs ht hvm hw hB hz1 hk1 hS hce hcv hcl => ?_) (fun r u t H locs ht hvm hw hB hz1 hk1 hS => ?_)
  · obtain ⟨hE9, hP1, hK1, hD1⟩ := hB
    obtain ⟨hw1, hw2⟩ := hw
    rw [ht, hw1] at hP1
    rw [hw1] at hD1
    obtain ⟨hP, hD⟩ := sw_join hPo hDo hk1 hFc hP1 hD1
    obtain rfl : E = "java/lang/IllegalArgumentException" := hE9.trans hw2.1
    refine vx_catch (own := R_L) (name := "java/lang/IllegalArgumentException") (E := "java/lang/IllegalArgumentException") hown [] ⟨0, 9, 12, 13⟩ [] (by rw [hTab]; rfl) (fun z hz => nomatch hz) (by decide) (by decide) (hg _ gw_137) (va_Nw.use rfl (hN.2.2.1 "java/lang/IllegalArgumentException" (by decide))) hce hcv hcl ?_
    refine lv_astore_n (lv' := [(3, .ref q9), (0, .ref h), (1, .int n), (2, .ref qo)]) hx hb d_L_count_12 rfl hl (by decide) rfl (fun ls hl => ?_)
    refine lv_iconst (v := 1) hx hb d_L_count_13 (by decide) ?_
    refine W.widen (k := 1) (n := 6) (Nat.le_of_ble_eq_true rfl) (Nat.le_of_ble_eq_true rfl) ?_
    exact W.iret (v := 1) hx hb hr (fun t ht hW => ⟨⟨_, _, rfl, (Or.inl ⟨rfl, hw2.2, rfl⟩), at2.of hP hK hD ht hW⟩, hS.F ht⟩) hS.2.2 d_L_count_14
  · obtain ⟨hP1, hK1, hD1⟩ := hB
    rw [ht] at hP1
    obtain ⟨hP, hD⟩ := sw_join hPo hDo hk1 hFc hP1 hD1
    refine lv_i2l (v := Int32.toInt64 r) hx hb d_L_count_7 rfl ?_
    refine va_last hx hb hK hP hD hS 0 3 rfl t3 (vp_in_nI (n := 0) (by decide) (by decide)) d_L_count_8 (fun H locs hP hD hS => ?_)
    rw [show (0 : Int32).toNatClampNeg = 0 from by decide] at hP hD
    replace hP : va_P D classes (oW qo cL (vp_updL o 0 (Int32.toInt64 r)) ++ u) _ := hP
    replace hD : va_D A (oW qo cL (vp_updL o 0 (Int32.toInt64 r)) ++ u) := hD
    refine lv_goto (tgt := 15) hx hb d_L_count_9 (by decide) ?_
    refine lv_iconst (v := 0) hx hb d_L_count_15 (by decide) ?_
    refine W.widen (k := 1) (n := 6) (Nat.le_of_ble_eq_true rfl) (Nat.le_of_ble_eq_true rfl) ?_
    exact W.iret (v := 0) hx hb hr (fun t ht hW => ⟨⟨_, _, rfl, (Or.inr ⟨rfl, r, u, hw, rfl⟩), at2.of hP hK hD ht hW⟩, hS.F ht⟩) hS.2.2 d_L_count_16
