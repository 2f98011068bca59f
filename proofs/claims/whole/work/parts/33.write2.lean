set_option maxHeartbeats 4000000 in
set_option maxRecDepth 100000 in
theorem c_S_cutTo (l : Launch) (D : va_G) (ty : tyL) (N0 sz : Nat) (h cn : Nat) (fi ha : Option Nat) (f : Nat) (v w z : Int32) (A1 B1 : va_W) (x : AP) (nx : Option Nat) (n : Nat) (hn : n < 2 ^ 31) (hb2 : x.2.2.1 < 2 ^ 31) : Met l y_S_cutTo (Cond.code y_S_cutTo b_S_cutTo 4 none :: GW) ({ frames := 2, cells := 1, slots := 6, locals := 35 }) (va_Pc [.ref h, .ref x.1, .int (nI n)] (at1 D ty N0 sz (scell h cn fi ha f v w z :: (A1 ++ pcell x nx :: B1)))) (va_Qv (fun ws' => (x.2.2.1 ≤ n ∧ ws' = scell h cn fi ha f v w z :: (A1 ++ pcell x nx :: B1)) ∨ (n < x.2.2.1 ∧ ∃ q : Nat, ws' = scell h cn fi ha (f + 1) v w z :: (A1 ++ pcell (x.1, x.2.1, n, x.2.2.2) (some q) :: pcell (q, x.2.1 + n, x.2.2.1 - n, false, false, f + 1) nx :: B1))) (at2 D ty (va_A (scell h cn fi ha f v w z :: (A1 ++ pcell x nx :: B1)) sz)) (va_A (scell h cn fi ha f v w z :: (A1 ++ pcell x nx :: B1)) sz)) 1 6 (va_A (scell h cn fi ha f v w z :: (A1 ++ pcell x nx :: B1)) sz) := by
  refine Met.ofW (cc := b_S_cutTo) (maxL := 4) (ret := none) (by decide) rfl ?_
  intro p e s m args below meth c s₁ B hml hv
  obtain ⟨rfl, hsz, hN0, ⟨hP, hK, hN⟩, hD0, hE⟩ := hv
  subst hsz
  have hD := hD0.self (sz := s.heap.size)
  have hAN := sw_AN hD0 hN0
  generalize hAe : va_A (scell h cn fi ha f v w z :: (A1 ++ pcell x nx :: B1)) s.heap.size = A at hD hAN ⊢
  have hA : ∀ q : Nat, s.heap.size ≤ q → A q := fun q h => by rw [← hAe]; exact Or.inr h
  have hS : va_S A s.heap s.heap [] := va_S.rf
  have hP : va_P D classes (scell h cn fi ha f v w z :: (A1 ++ pcell x nx :: B1)) s.heap := hP
  have hx := B.exec
  have hb := B.bytes
  have hr := B.returns
  have hg : ∀ w ∈ GW, w.before _ s = true := fun w h => atoms_spec (ws := Cond.code y_S_cutTo b_S_cutTo 4 none :: GW) B.pre w (List.mem_cons_of_mem _ h)
  have hown : s.vm.findClass R_S = some m.cls := findClass_of_methodNamed B.named
  have hlocks := B.notSynchronized
  have hl := lv_entry ([.ref h, .ref x.1, .int (nI n)]) (n := 4) (Nat.le_of_ble_eq_true rfl)
  rw [lg_entry_eq]
  generalize (lg_sl ([.ref h, .ref x.1, .int (nI n)]) ++ List.replicate (4 - (lg_sl ([.ref h, .ref x.1, .int (nI n)])).length) Slot.unset).toArray = ls at hl ⊢
  replace hl : lv_has ls 4 [(0, .ref h), (1, .ref x.1), (2, .int (nI n))] := hl
  replace hP : va_P D classes ((h, .inr (0, [.int (nI cn), va_rf fi, va_rf ha, .long (lN f), .int v, .int w, .int z])) :: (A1 ++ ((x.1, .inr (1, [.int (nI x.2.1), .int (nI x.2.2.1), .int (bI x.2.2.2.1), .int (bI x.2.2.2.2.1), .long (lN x.2.2.2.2.2), va_rf nx])) :: B1))) _ := hP
  replace hD : va_D A ((h, .inr (0, [.int (nI cn), va_rf fi, va_rf ha, .long (lN f), .int v, .int w, .int z])) :: (A1 ++ ((x.1, .inr (1, [.int (nI x.2.1), .int (nI x.2.2.1), .int (bI x.2.2.2.1), .int (bI x.2.2.2.2.1), .long (lN x.2.2.2.2.2), va_rf nx])) :: B1))) := hD
  refine lv_aload_n hx hb d_S_cutTo_0 rfl (lv_at hl 1 rfl) ?_
  refine va_getN (D := D) (ci := 1) (v := .int (nI x.2.2.1)) (C := R_P) (T := F_P) (N := 6) hx hb hg gi_P hown hK hP (A1.length + 1) (sw_get1 _ _ _ _) rfl 1 (by decide) (va_Nw.use rfl (hN.1 (60, "size", "I") (by decide))) (fun _ h9 => h9) rfl d_S_cutTo_1 ?_
  refine lv_iload_n hx hb d_S_cutTo_4 rfl (lv_at hl 2 rfl) ?_
  refine lv_icmp_gt (tgt := 9) hx hb d_S_cutTo_5 (by decide) (fun c_5 => ?_) (fun c_5 => ?_)
  · have hlt := (nI_ltI hn hb2).mp c_5
    refine va_new (ci := 1) (fs := [.int 0, .int 0, .int 0, .int 0, .long 0, .null]) (C := R_P) (T := F_P) (N := 6) hx hb hg gi_P t_P t_P_ok hown (hg _ gw_47) (hg _ gw_48) (hg _ gw_27) hK hP hD hS hA rfl (fun j hj => by rcases (show j = 0 ∨ j = 1 ∨ j = 2 ∨ j = 3 ∨ j = 4 ∨ j = 5 by omega) with rfl | rfl | rfl | rfl | rfl | rfl <;> rfl) (Nat.le_of_ble_eq_true rfl) (Nat.le_of_ble_eq_true rfl) d_S_cutTo_9 (fun q H hP hD hS => ?_)
    refine W.widen (k := 1) (n := 6) (Nat.le_of_ble_eq_true rfl) (Nat.le_of_ble_eq_true rfl) ?_
    refine lv_dup hx hb d_S_cutTo_12 rfl ?_
    refine lv_aload_n hx hb d_S_cutTo_13 rfl (lv_at hl 1 rfl) ?_
    refine va_getN (D := D) (ci := 1) (v := .int (nI x.2.1)) (C := R_P) (T := F_P) (N := 6) hx hb hg gi_P hown hK hP (A1.length + 1) (by rw [List.getElem?_append_left (by simp)]; exact sw_get1 _ _ _ _) rfl 0 (by decide) (va_Nw.use rfl (hN.1 (47, "begin", "I") (by decide))) (fun _ h9 => h9) rfl d_S_cutTo_14 ?_
    refine lv_iload_n hx hb d_S_cutTo_17 rfl (lv_at hl 2 rfl) ?_
    refine lv_iadd hx hb d_S_cutTo_18 ?_
    refine lv_topi (fun y1 ey1 => ?_)
    obtain rfl : y1 = nI (x.2.1 + n) := ey1.trans (nI_add _ _)
    clear ey1
    refine lv_aload_n hx hb d_S_cutTo_19 rfl (lv_at hl 1 rfl) ?_
    refine va_getN (D := D) (ci := 1) (v := .int (nI x.2.2.1)) (C := R_P) (T := F_P) (N := 6) hx hb hg gi_P hown hK hP (A1.length + 1) (by rw [List.getElem?_append_left (by simp)]; exact sw_get1 _ _ _ _) rfl 1 (by decide) (va_Nw.use rfl (hN.1 (60, "size", "I") (by decide))) (fun _ h9 => h9) rfl d_S_cutTo_20 ?_
    refine lv_iload_n hx hb d_S_cutTo_23 rfl (lv_at hl 2 rfl) ?_
    refine lv_isub hx hb d_S_cutTo_24 ?_
    refine lv_topi (fun y2 ey2 => ?_)
    obtain rfl : y2 = nI (x.2.2.1 - n) := ey2.trans (pk_sub (Nat.le_of_lt hlt))
    clear ey2
    refine lv_aload_n hx hb d_S_cutTo_25 rfl (lv_at hl 1 rfl) ?_
    refine va_getN (D := D) (ci := 1) (v := va_rf nx) (C := R_P) (T := F_P) (N := 6) hx hb hg gi_P hown hK hP (A1.length + 1) (by rw [List.getElem?_append_left (by simp)]; exact sw_get1 _ _ _ _) rfl 5 (by decide) (va_Nw.use rfl (hN.1 (69, "next", "LSweepHand$Piece;") (by decide))) (fun _ h9 => h9) rfl d_S_cutTo_26 ?_
    have hFc := sw_free hD hS hA
    refine va_callv (va_runIN (As := [.int (nI (x.2.1 + n)), .int (nI (x.2.2.1 - n)), va_rf nx]) (rest := [.ref q]) ⟨hx, hb, hml, hown, hg⟩ (c_P_init l D ty N0 _ ((h, .inr (0, [.int (nI cn), va_rf fi, va_rf ha, .long (lN f), .int v, .int w, .int z])) :: (A1 ++ ((x.1, .inr (1, [.int (nI x.2.1), .int (nI x.2.2.1), .int (bI x.2.2.2.1), .int (bI x.2.2.2.2.1), .long (lN x.2.2.2.2.2), va_rf nx])) :: B1))) q (x.2.1 + n) (x.2.2.1 - n) nx) ⟨va_cnB 3 hg (gw_c gw_51) rfl rfl rfl (hN.2.1 (107, y_P_init) (by decide +kernel)) (hg _ gw_27) (by decide +kernel) ⟨Nat.le_of_ble_eq_true rfl, Nat.le_of_ble_eq_true rfl⟩, rfl, hg _ gw_50⟩ (pre_wrS hP hK hN hD hS hAN hN0 hE) rfl rfl hl.1 rfl (lv_room (Nat.le_of_ble_eq_true rfl)) d_S_cutTo_29 ⟨Nat.le_of_ble_eq_true rfl, Nat.le_of_ble_eq_true rfl⟩) hS (fun q _ h => hFc q h) hFc (fun u t H locs ht hvm hw hB hz1 hk1 hS => ?_)
    obtain ⟨hP, hK1, hD1⟩ := hB
    rw [ht] at hP
    have hD := hD1.weaken (fun _ _ _ h => hFc _ h)
    clear hK1 hD1 hFc hk1 hz1
    subst hw
    replace hP := sw_P_perm hP (sw_new _ _ _ _ _)
    replace hD := sw_D_perm2 hD (sw_new _ _ _ _ _)
    replace hP : va_P D classes ((h, .inr (0, [.int (nI cn), va_rf fi, va_rf ha, .long (lN f), .int v, .int w, .int z])) :: (A1 ++ ((x.1, .inr (1, [.int (nI x.2.1), .int (nI x.2.2.1), .int (bI x.2.2.2.1), .int (bI x.2.2.2.2.1), .long (lN x.2.2.2.2.2), va_rf nx])) :: ((q, .inr (1, [.int (nI (x.2.1 + n)), .int (nI (x.2.2.1 - n)), .int (bI false), .int (bI false), .long (lN 0), va_rf nx])) :: B1)))) _ := hP
    replace hD : va_D A ((h, .inr (0, [.int (nI cn), va_rf fi, va_rf ha, .long (lN f), .int v, .int w, .int z])) :: (A1 ++ ((x.1, .inr (1, [.int (nI x.2.1), .int (nI x.2.2.1), .int (bI x.2.2.2.1), .int (bI x.2.2.2.2.1), .long (lN x.2.2.2.2.2), va_rf nx])) :: ((q, .inr (1, [.int (nI (x.2.1 + n)), .int (nI (x.2.2.1 - n)), .int (bI false), .int (bI false), .long (lN 0), va_rf nx])) :: B1)))) := hD
    refine W.widen (k := 1) (n := 6) (Nat.le_of_ble_eq_true rfl) (Nat.le_of_ble_eq_true rfl) ?_
    refine lv_astore_n (lv' := [(3, .ref q), (0, .ref h), (1, .ref x.1), (2, .int (nI n))]) hx hb d_S_cutTo_32 rfl hl (by decide) rfl (fun ls hl => ?_)
    refine lv_aload_n hx hb d_S_cutTo_33 rfl (lv_at hl 2 rfl) ?_
    refine lv_iload_n hx hb d_S_cutTo_34 rfl (lv_at hl 3 rfl) ?_
    refine va_putN (D := D) (ci := 1) (v := .int (nI n)) (ty := .int) (C := R_P) (T := F_P) (N := 6) hx hb hg gi_P t_P t_P_ok n_P hown hK hP hD hS (A1.length + 1) (sw_get1 _ _ _ _) rfl 1 (by decide) (va_Nw.use rfl (hN.1 (60, "size", "I") (by decide))) (fun _ h9 => h9) rfl (by decide +kernel) rfl rfl (Nat.le_of_ble_eq_true rfl) d_S_cutTo_35 (fun H locs hP hD hS => ?_)
    rw [sw_set1] at hP hD
    replace hP : va_P D classes ((h, .inr (0, [.int (nI cn), va_rf fi, va_rf ha, .long (lN f), .int v, .int w, .int z])) :: (A1 ++ ((x.1, .inr (1, [.int (nI x.2.1), .int (nI n), .int (bI x.2.2.2.1), .int (bI x.2.2.2.2.1), .long (lN x.2.2.2.2.2), va_rf nx])) :: ((q, .inr (1, [.int (nI (x.2.1 + n)), .int (nI (x.2.2.1 - n)), .int (bI false), .int (bI false), .long (lN 0), va_rf nx])) :: B1)))) _ := hP
    replace hD : va_D A ((h, .inr (0, [.int (nI cn), va_rf fi, va_rf ha, .long (lN f), .int v, .int w, .int z])) :: (A1 ++ ((x.1, .inr (1, [.int (nI x.2.1), .int (nI n), .int (bI x.2.2.2.1), .int (bI x.2.2.2.2.1), .long (lN x.2.2.2.2.2), va_rf nx])) :: ((q, .inr (1, [.int (nI (x.2.1 + n)), .int (nI (x.2.2.1 - n)), .int (bI false), .int (bI false), .long (lN 0), va_rf nx])) :: B1)))) := hD
    refine lv_aload_n hx hb d_S_cutTo_38 rfl (lv_at hl 2 rfl) ?_
    refine lv_aload_n hx hb d_S_cutTo_39 rfl (lv_at hl 0 rfl) ?_
    refine va_putN (D := D) (ci := 1) (v := .ref q) (ty := .object "SweepHand$Piece") (C := R_P) (T := F_P) (N := 6) hx hb hg gi_P t_P t_P_ok n_P hown hK hP hD hS (A1.length + 1) (sw_get1 _ _ _ _) rfl 5 (by decide) (va_Nw.use rfl (hN.1 (69, "next", "LSweepHand$Piece;") (by decide))) (fun _ h9 => h9) rfl (by decide +kernel) rfl rfl (Nat.le_of_ble_eq_true rfl) d_S_cutTo_40 (fun H locs hP hD hS => ?_)
    rw [sw_set1] at hP hD
    replace hP : va_P D classes ((h, .inr (0, [.int (nI cn), va_rf fi, va_rf ha, .long (lN f), .int v, .int w, .int z])) :: (A1 ++ ((x.1, .inr (1, [.int (nI x.2.1), .int (nI n), .int (bI x.2.2.2.1), .int (bI x.2.2.2.2.1), .long (lN x.2.2.2.2.2), .ref q])) :: ((q, .inr (1, [.int (nI (x.2.1 + n)), .int (nI (x.2.2.1 - n)), .int (bI false), .int (bI false), .long (lN 0), va_rf nx])) :: B1)))) _ := hP
    replace hD : va_D A ((h, .inr (0, [.int (nI cn), va_rf fi, va_rf ha, .long (lN f), .int v, .int w, .int z])) :: (A1 ++ ((x.1, .inr (1, [.int (nI x.2.1), .int (nI n), .int (bI x.2.2.2.1), .int (bI x.2.2.2.2.1), .long (lN x.2.2.2.2.2), .ref q])) :: ((q, .inr (1, [.int (nI (x.2.1 + n)), .int (nI (x.2.2.1 - n)), .int (bI false), .int (bI false), .long (lN 0), va_rf nx])) :: B1)))) := hD
    refine lv_aload_n hx hb d_S_cutTo_43 rfl (lv_at hl 1 rfl) ?_
    refine lv_aload_n hx hb d_S_cutTo_44 rfl (lv_at hl 0 rfl) ?_
    replace hP : va_P D classes ((h, .inr (0, [.int (nI cn), va_rf fi, va_rf ha, .long (lN f), .int v, .int w, .int z])) :: ((A1 ++ [(x.1, .inr (1, [.int (nI x.2.1), .int (nI n), .int (bI x.2.2.2.1), .int (bI x.2.2.2.2.1), .long (lN x.2.2.2.2.2), .ref q]))]) ++ (q, .inr (1, [.int (nI (x.2.1 + n)), .int (nI (x.2.2.1 - n)), .int (bI false), .int (bI false), .long (lN 0), va_rf nx])) :: B1)) H := by rw [List.append_assoc]; exact hP
    replace hD : va_D A ((h, .inr (0, [.int (nI cn), va_rf fi, va_rf ha, .long (lN f), .int v, .int w, .int z])) :: ((A1 ++ [(x.1, .inr (1, [.int (nI x.2.1), .int (nI n), .int (bI x.2.2.2.1), .int (bI x.2.2.2.2.1), .long (lN x.2.2.2.2.2), .ref q]))]) ++ (q, .inr (1, [.int (nI (x.2.1 + n)), .int (nI (x.2.2.1 - n)), .int (bI false), .int (bI false), .long (lN 0), va_rf nx])) :: B1)) := by rw [List.append_assoc]; exact hD
    have hFc := sw_free hD hS hA
    refine va_callv (va_runV (As := [.ref q]) (rest := []) ⟨hx, hb, hml, hown, hg⟩ (c_S_comeToBeFree l D ty N0 _ h cn fi ha f v w z (A1 ++ ([(x.1, .inr (1, [.int (nI x.2.1), .int (nI n), .int (bI x.2.2.2.1), .int (bI x.2.2.2.2.1), .long (lN x.2.2.2.2.2), .ref q]))] : va_W)) B1 (q, x.2.1 + n, x.2.2.1 - n, false, false, 0) nx) (cwV 1 hg (gw_V gw_77 gw_79 gw_1 gw_26 gw_80) rfl rfl rfl (by decide +kernel) ⟨Nat.le_of_ble_eq_true rfl, Nat.le_of_ble_eq_true rfl⟩) (pre_wrV hP hK hN hD hS hAN hN0 hE (ci := 0) (k := 0) rfl rfl) rfl rfl hl.1 rfl (lv_room (Nat.le_of_ble_eq_true rfl)) d_S_cutTo_45 ⟨Nat.le_of_ble_eq_true rfl, Nat.le_of_ble_eq_true rfl⟩) hS (fun q _ h => hFc q h) hFc (fun u t H locs ht hvm hw hB hz1 hk1 hS => ?_)
    obtain ⟨hP, hK1, hD1⟩ := hB
    rw [ht] at hP
    have hD := hD1.weaken (fun _ _ _ h => hFc _ h)
    clear hK1 hD1 hFc hk1 hz1
    subst hw
    rw [List.append_assoc] at hP hD
    refine W.widen (k := 1) (n := 6) (Nat.le_of_ble_eq_true rfl) (Nat.le_of_ble_eq_true rfl) ?_
    exact W.vret hx hb hr (fun t ht hW => ⟨⟨_, rfl, (Or.inr ⟨hlt, q, rfl⟩), at2.of hP hK hD ht hW⟩, hS.F ht⟩) hS.2.2 d_S_cutTo_48
  · refine W.widen (k := 1) (n := 6) (Nat.le_of_ble_eq_true rfl) (Nat.le_of_ble_eq_true rfl) ?_
    exact W.vret hx hb hr (fun t ht hW => ⟨⟨_, rfl, (Or.inl ⟨Nat.not_lt.mp (fun h9 => c_5 ((nI_ltI hn hb2).mpr h9)), rfl⟩), at2.of hP hK hD ht hW⟩, hS.F ht⟩) hS.2.2 d_S_cutTo_8
set_option maxHeartbeats 4000000 in
set_option maxRecDepth 100000 in
theorem c_S_gatherFrom (l : Launch) (D : va_G) (ty : tyL) (N0 sz : Nat) (h cn : Nat) (fi ha : Option Nat) (f : Nat) (v w z : Int32) (pre suf : List AP) (x : AP) : Met l y_S_gatherFrom (Cond.code y_S_gatherFrom b_S_gatherFrom 5 none :: GW) ({ frames := 1, cells := 0, slots := 0, locals := 21 }) (va_Pc [.ref h, .ref x.1] (at1 D ty N0 sz (scell h cn fi ha f v w z :: chG (pre ++ x :: suf) none))) (va_Qv (fun ws' => ws' = scell h cn fi ha (gaF f x suf) v (w + nI (gaW x suf)) z :: chG (pre ++ gaX f x suf :: gaR suf) none) (at2 D ty (va_A (scell h cn fi ha f v w z :: chG (pre ++ x :: suf) none) sz)) (va_A (scell h cn fi ha f v w z :: chG (pre ++ x :: suf) none) sz)) 0 0 (va_A (scell h cn fi ha f v w z :: chG (pre ++ x :: suf) none) sz) := by
  refine Met.ofW (cc := b_S_gatherFrom) (maxL := 5) (ret := none) (by decide) rfl ?_
  intro p e s m args below meth c s₁ B hml hv
  obtain ⟨rfl, hsz, hN0, ⟨hP, hK, hN⟩, hD0, hE⟩ := hv
  subst hsz
  have hD := hD0.self (sz := s.heap.size)
  have hAN := sw_AN hD0 hN0
  generalize hAe : va_A (scell h cn fi ha f v w z :: chG (pre ++ x :: suf) none) s.heap.size = A at hD hAN ⊢
  have hA : ∀ q : Nat, s.heap.size ≤ q → A q := fun q h => by rw [← hAe]; exact Or.inr h
  have hS : va_S A s.heap s.heap [] := va_S.rf
  have hP : va_P D classes (scell h cn fi ha f v w z :: chG (pre ++ x :: suf) none) s.heap := hP
  have hx := B.exec
  have hb := B.bytes
  have hr := B.returns
  have hg : ∀ w ∈ GW, w.before _ s = true := fun w h => atoms_spec (ws := Cond.code y_S_gatherFrom b_S_gatherFrom 5 none :: GW) B.pre w (List.mem_cons_of_mem _ h)
  have hown : s.vm.findClass R_S = some m.cls := findClass_of_methodNamed B.named
  have hlocks := B.notSynchronized
  have hl := lv_entry ([.ref h, .ref x.1]) (n := 5) (Nat.le_of_ble_eq_true rfl)
  rw [lg_entry_eq]
  generalize (lg_sl ([.ref h, .ref x.1]) ++ List.replicate (5 - (lg_sl ([.ref h, .ref x.1])).length) Slot.unset).toArray = ls at hl ⊢
  replace hl : lv_has ls 5 [(0, .ref h), (1, .ref x.1)] := hl
  have hx9 := chG_at (scell h cn fi ha f v w z) pre x suf none
  refine lv_aload_n hx hb d_S_gatherFrom_0 rfl (lv_at hl 1 rfl) ?_
  refine va_getN (D := D) (ci := 1) (v := .int (bI x.2.2.2.1)) (C := R_P) (T := F_P) (N := 6) hx hb hg gi_P hown hK hP (pre.length + 1) hx9 rfl 2 (by decide) (va_Nw.use rfl (hN.1 (37, "used", "Z") (by decide))) (fun _ h9 => h9) rfl d_S_gatherFrom_1 ?_
  refine lv_if_eq (tgt := 11) hx hb d_S_gatherFrom_4 (by decide) (fun c_4 => ?_) (fun c_4 => ?_)
  · refine lv_iconst (v := 0) hx hb d_S_gatherFrom_11 (by decide) ?_
    have hu : x.2.2.2.1 = false := bI_0.mp c_4
    refine lv_istore_n (lv' := [(2, .int 0), (0, .ref h), (1, .ref x.1)]) hx hb d_S_gatherFrom_12 rfl hl (by decide) rfl (fun ls hl => ?_)
    refine lv_aload_n hx hb d_S_gatherFrom_13 rfl (lv_at hl 2 rfl) ?_
    refine va_getN (D := D) (ci := 1) (v := .int (nI x.2.2.1)) (C := R_P) (T := F_P) (N := 6) hx hb hg gi_P hown hK hP (pre.length + 1) hx9 rfl 1 (by decide) (va_Nw.use rfl (hN.1 (60, "size", "I") (by decide))) (fun _ h9 => h9) rfl d_S_gatherFrom_14 ?_
    refine lv_istore_n (lv' := [(3, .int (nI x.2.2.1)), (2, .int 0), (0, .ref h), (1, .ref x.1)]) hx hb d_S_gatherFrom_17 rfl hl (by decide) rfl (fun ls hl => ?_)
    refine lv_aload_n hx hb d_S_gatherFrom_18 rfl (lv_at hl 3 rfl) ?_
    refine va_getN (D := D) (ci := 1) (v := va_rf (hdO suf none)) (C := R_P) (T := F_P) (N := 6) hx hb hg gi_P hown hK hP (pre.length + 1) hx9 rfl 5 (by decide) (va_Nw.use rfl (hN.1 (69, "next", "LSweepHand$Piece;") (by decide))) (fun _ h9 => h9) rfl d_S_gatherFrom_19 ?_
    refine sv_astore (lv' := [(4, va_rf (hdO suf none)), (3, .int (nI x.2.2.1)), (2, .int 0), (0, .ref h), (1, .ref x.1)]) hx hb d_S_gatherFrom_22 hl (by decide) rfl (fun ls hl => ?_)
    obtain ⟨g, hgg⟩ : ∃ q : Nat, q = x.2.2.1 := ⟨_, rfl⟩
    obtain ⟨k2, hk2⟩ : ∃ q : Nat, q = 0 := ⟨_, rfl⟩
    obtain ⟨rs, hs⟩ : ∃ q, q = suf := ⟨_, rfl⟩
    replace hl := lv_sub hl [0, 1, 2, 3, 4] rfl
    replace hl : lv_has ls 5 [(4, va_rf (hdO suf none)), (3, .int (nI x.2.2.1)), (2, .int 0), (0, .ref h), (1, .ref x.1)] := hl
    replace hl : lv_has ls 5 [(4, va_rf (hdO rs none)), (3, .int (nI g)), (2, .int (nI k2)), (0, .ref h), (1, .ref x.1)] := by rw [hs, hgg, hk2]; exact hl
    have hmid : ∃ mid, suf = mid ++ rs := ⟨[], hs.symm⟩
    have hr1 : gaR suf = gaR rs := by rw [hs]
    have hr2 : x.2.2.1 + szS (gaM suf) = g + szS (gaM rs) := by rw [hs, hgg]
    have hr3 : (if x.2.2.2.1 then 1 else 0) + usS (gaM suf) = k2 + usS (gaM rs) := by rw [hs, hk2, hu]; rfl
    clear hs hgg hk2
    revert hr3
    revert hr2
    revert hr1
    revert hmid
    revert hl
    revert k2
    revert g
    revert ls
    induction rs with
    | nil =>
      intro ls g k2 hl hmid hr1 hr2 hr3
      replace hl : lv_has ls 5 [(4, .null), (3, .int (nI g)), (2, .int (nI k2)), (0, .ref h), (1, .ref x.1)] := hl
      refine lv_aloadN hx hb d_S_gatherFrom_24 (lv_at hl 0 rfl) ?_
      refine lv_ifnullN (tgt := 71) hx hb d_S_gatherFrom_26 (by decide) ?_
      have hgr : gaR suf = [] := hr1
      have hg2 : g = x.2.2.1 + szS (gaM suf) := by rw [hr2]; rfl
      have hk9 : k2 = (if x.2.2.2.1 then 1 else 0) + usS (gaM suf) := by rw [hr3]; rfl
      replace hl : lv_has ls 5 [(4, va_rf (hdO (gaR suf) none)), (3, .int (nI (x.2.2.1 + szS (gaM suf)))), (2, .int (nI k2)), (0, .ref h), (1, .ref x.1)] := by rw [hgr, ← hg2]; exact hl
      refine lv_aload_n hx hb d_S_gatherFrom_71 rfl (lv_at hl 4 rfl) ?_
      refine va_getN (D := D) (ci := 1) (v := .int (bI x.2.2.2.1)) (C := R_P) (T := F_P) (N := 6) hx hb hg gi_P hown hK hP (pre.length + 1) hx9 rfl 2 (by decide) (va_Nw.use rfl (hN.1 (37, "used", "Z") (by decide))) (fun _ h9 => h9) rfl d_S_gatherFrom_72 ?_
      refine lv_if_ne (tgt := 88) hx hb d_S_gatherFrom_75 (by decide) (fun c_75 => ?_) (fun c_75 => ?_)
      · exact absurd (by rw [hu]; rfl) c_75
      · refine sv_aload hx hb d_S_gatherFrom_78 (lv_at hl 0 rfl) ?_
        refine lv_aload_n hx hb d_S_gatherFrom_80 rfl (lv_at hl 4 rfl) ?_
        refine va_getN (D := D) (ci := 1) (v := va_rf (hdO suf none)) (C := R_P) (T := F_P) (N := 6) hx hb hg gi_P hown hK hP (pre.length + 1) hx9 rfl 5 (by decide) (va_Nw.use rfl (hN.1 (69, "next", "LSweepHand$Piece;") (by decide))) (fun _ h9 => h9) rfl d_S_gatherFrom_81 ?_
        refine lv_acmp_ne (rx := (hdO (gaR suf) none)) (ry := (hdO suf none)) (tgt := 88) hx hb d_S_gatherFrom_84 (by decide) (fun c_84 => ?_) (fun c_84 => ?_)
        · have hE9 : gaE x suf = false := by unfold gaE; rw [hu]; cases hm9 : gaM suf with | nil => exact absurd ((ga_same (sw_nd hD)).mpr hm9) c_84 | cons y9 m9 => rfl
          obtain ⟨e1, e2, e3⟩ := gaX_f (f := f) hE9
          rw [chG_mid] at hP hD
          replace hP : va_P D classes ((h, .inr (0, [.int (nI cn), va_rf fi, va_rf ha, .long (lN f), .int v, .int w, .int z])) :: ((chG pre (some x.1)) ++ ((x.1, .inr (1, [.int (nI x.2.1), .int (nI x.2.2.1), .int (bI x.2.2.2.1), .int (bI x.2.2.2.2.1), .long (lN x.2.2.2.2.2), va_rf (hdO suf none)])) :: chG suf none))) _ := hP
          replace hD : va_D A ((h, .inr (0, [.int (nI cn), va_rf fi, va_rf ha, .long (lN f), .int v, .int w, .int z])) :: ((chG pre (some x.1)) ++ ((x.1, .inr (1, [.int (nI x.2.1), .int (nI x.2.2.1), .int (bI x.2.2.2.1), .int (bI x.2.2.2.2.1), .long (lN x.2.2.2.2.2), va_rf (hdO suf none)])) :: chG suf none))) := hD
          refine lv_aload_n hx hb d_S_gatherFrom_88 rfl (lv_at hl 4 rfl) ?_
          refine lv_iload_n hx hb d_S_gatherFrom_89 rfl (lv_at hl 1 rfl) ?_
          refine va_putN (D := D) (ci := 1) (v := .int (nI (x.2.2.1 + szS (gaM suf)))) (ty := .int) (C := R_P) (T := F_P) (N := 6) hx hb hg gi_P t_P t_P_ok n_P hown hK hP hD hS ((chG pre (some x.1)).length + 1) (sw_get1 _ _ _ _) rfl 1 (by decide) (va_Nw.use rfl (hN.1 (60, "size", "I") (by decide))) (fun _ h9 => h9) rfl (by decide +kernel) rfl rfl (Nat.le_of_ble_eq_true rfl) d_S_gatherFrom_90 (fun H locs hP hD hS => ?_)
          rw [sw_set1] at hP hD
          replace hP : va_P D classes ((h, .inr (0, [.int (nI cn), va_rf fi, va_rf ha, .long (lN f), .int v, .int w, .int z])) :: ((chG pre (some x.1)) ++ ((x.1, .inr (1, [.int (nI x.2.1), .int (nI (x.2.2.1 + szS (gaM suf))), .int (bI x.2.2.2.1), .int (bI x.2.2.2.2.1), .long (lN x.2.2.2.2.2), va_rf (hdO suf none)])) :: chG suf none))) _ := hP
          replace hD : va_D A ((h, .inr (0, [.int (nI cn), va_rf fi, va_rf ha, .long (lN f), .int v, .int w, .int z])) :: ((chG pre (some x.1)) ++ ((x.1, .inr (1, [.int (nI x.2.1), .int (nI (x.2.2.1 + szS (gaM suf))), .int (bI x.2.2.2.1), .int (bI x.2.2.2.2.1), .long (lN x.2.2.2.2.2), va_rf (hdO suf none)])) :: chG suf none))) := hD
          refine lv_aload_n hx hb d_S_gatherFrom_93 rfl (lv_at hl 4 rfl) ?_
          refine sv_aload hx hb d_S_gatherFrom_94 (lv_at hl 0 rfl) ?_
          refine va_putN (D := D) (ci := 1) (v := va_rf (hdO (gaR suf) none)) (ty := .object "SweepHand$Piece") (C := R_P) (T := F_P) (N := 6) hx hb hg gi_P t_P t_P_ok n_P hown hK hP hD hS ((chG pre (some x.1)).length + 1) (sw_get1 _ _ _ _) rfl 5 (by decide) (va_Nw.use rfl (hN.1 (69, "next", "LSweepHand$Piece;") (by decide))) (fun _ h9 => h9) rfl (by decide +kernel) (sv_nar _ _) (sv_fit _ _) (Nat.le_of_ble_eq_true rfl) d_S_gatherFrom_96 (fun H locs hP hD hS => ?_)
          rw [sw_set1] at hP hD
          replace hP : va_P D classes ((h, .inr (0, [.int (nI cn), va_rf fi, va_rf ha, .long (lN f), .int v, .int w, .int z])) :: ((chG pre (some x.1)) ++ ((x.1, .inr (1, [.int (nI x.2.1), .int (nI (x.2.2.1 + szS (gaM suf))), .int (bI x.2.2.2.1), .int (bI x.2.2.2.2.1), .long (lN x.2.2.2.2.2), va_rf (hdO (gaR suf) none)])) :: chG suf none))) _ := hP
          replace hD : va_D A ((h, .inr (0, [.int (nI cn), va_rf fi, va_rf ha, .long (lN f), .int v, .int w, .int z])) :: ((chG pre (some x.1)) ++ ((x.1, .inr (1, [.int (nI x.2.1), .int (nI (x.2.2.1 + szS (gaM suf))), .int (bI x.2.2.2.1), .int (bI x.2.2.2.2.1), .long (lN x.2.2.2.2.2), va_rf (hdO (gaR suf) none)])) :: chG suf none))) := hD
          refine lv_aload_n hx hb d_S_gatherFrom_99 rfl (lv_at hl 3 rfl) ?_
          refine lv_aload_n hx hb d_S_gatherFrom_100 rfl (lv_at hl 4 rfl) ?_
          have hFc := sw_free hD hS hA
          refine va_callv (va_runV (As := [.ref x.1]) (rest := []) ⟨hx, hb, hml, hown, hg⟩ (c_S_comeToBeFree l D ty N0 _ h cn fi ha f v w z (chG pre (some x.1)) (chG suf none) (x.1, x.2.1, x.2.2.1 + szS (gaM suf), x.2.2.2) (hdO (gaR suf) none)) (cwV 1 hg (gw_V gw_77 gw_79 gw_1 gw_26 gw_80) rfl rfl rfl (by decide +kernel) ⟨Nat.le_of_ble_eq_true rfl, Nat.le_of_ble_eq_true rfl⟩) (pre_wrV hP hK hN hD hS hAN hN0 hE (ci := 0) (k := 0) rfl rfl) rfl rfl hl.1 rfl (lv_room (Nat.le_of_ble_eq_true rfl)) d_S_gatherFrom_101 ⟨Nat.le_of_ble_eq_true rfl, Nat.le_of_ble_eq_true rfl⟩) hS (fun q _ h => hFc q h) hFc (fun u t H locs ht hvm hw hB hz1 hk1 hS => ?_)
          obtain ⟨hP, hK1, hD1⟩ := hB
          rw [ht] at hP
          have hD := hD1.weaken (fun _ _ _ h => hFc _ h)
          clear hK1 hD1 hFc hk1 hz1
          subst hw
          replace hP : va_P D classes ((h, .inr (0, [.int (nI cn), va_rf fi, va_rf ha, .long (lN (f + 1)), .int v, .int w, .int z])) :: ((chG pre (some x.1)) ++ ((x.1, .inr (1, [.int (nI x.2.1), .int (nI (x.2.2.1 + szS (gaM suf))), .int (bI false), .int (bI false), .long (lN (f + 1)), va_rf (hdO (gaR suf) none)])) :: chG suf none))) _ := hP
          replace hD : va_D A ((h, .inr (0, [.int (nI cn), va_rf fi, va_rf ha, .long (lN (f + 1)), .int v, .int w, .int z])) :: ((chG pre (some x.1)) ++ ((x.1, .inr (1, [.int (nI x.2.1), .int (nI (x.2.2.1 + szS (gaM suf))), .int (bI false), .int (bI false), .long (lN (f + 1)), va_rf (hdO (gaR suf) none)])) :: chG suf none))) := hD
          refine lv_aload_n hx hb d_S_gatherFrom_104 rfl (lv_at hl 3 rfl) ?_
          refine lv_dup hx hb d_S_gatherFrom_105 rfl ?_
          refine va_get (D := D) (ci := 0) (v := .int w) (C := R_S) (T := F_S) (N := 7) hx hb hg gi_S hown hK hP 0 rfl rfl 5 (by decide) (hg _ gw_86) (fun _ h9 => h9) rfl d_S_gatherFrom_106 ?_
          refine lv_iload_n hx hb d_S_gatherFrom_109 rfl (lv_at hl 2 rfl) ?_
          refine lv_iadd hx hb d_S_gatherFrom_110 ?_
          refine va_put (D := D) (ci := 0) (v := .int (w + (nI k2))) (ty := .int) (C := R_S) (T := F_S) (N := 7) hx hb hg gi_S t_S t_S_ok n_S hown hK hP hD hS 0 rfl rfl 5 (by decide) (hg _ gw_86) (fun _ h9 => h9) rfl (by decide +kernel) rfl rfl (Nat.le_of_ble_eq_true rfl) d_S_gatherFrom_111 (fun H locs hP hD hS => ?_)
          replace hP : va_P D classes ((h, .inr (0, [.int (nI cn), va_rf fi, va_rf ha, .long (lN (f + 1)), .int v, .int (w + (nI k2)), .int z])) :: ((chG pre (some x.1)) ++ ((x.1, .inr (1, [.int (nI x.2.1), .int (nI (x.2.2.1 + szS (gaM suf))), .int (bI false), .int (bI false), .long (lN (f + 1)), va_rf (hdO (gaR suf) none)])) :: chG suf none))) _ := hP
          replace hD : va_D A ((h, .inr (0, [.int (nI cn), va_rf fi, va_rf ha, .long (lN (f + 1)), .int v, .int (w + (nI k2)), .int z])) :: ((chG pre (some x.1)) ++ ((x.1, .inr (1, [.int (nI x.2.1), .int (nI (x.2.2.1 + szS (gaM suf))), .int (bI false), .int (bI false), .long (lN (f + 1)), va_rf (hdO (gaR suf) none)])) :: chG suf none))) := hD
          replace hP := sw_P_sub hP (List.Sublist.cons_cons _ (List.Sublist.append_left (List.Sublist.cons_cons _ (gaR_sub suf)) _))
          replace hD := sw_D_sub2 hD (List.Sublist.cons_cons _ (List.Sublist.append_left (List.Sublist.cons_cons _ (gaR_sub suf)) _))
          refine W.widen (k := 0) (n := 0) (Nat.le_of_ble_eq_true rfl) (Nat.le_of_ble_eq_true rfl) ?_
          exact W.vret hx hb hr (fun t ht hW => ⟨⟨_, rfl, (by rw [e1, e2, e3, ← hk9, chG_mid]; rfl), at2.of hP hK hD ht hW⟩, hS.F ht⟩) hS.2.2 d_S_gatherFrom_114
        · have hE9 : gaE x suf = true := by unfold gaE; rw [hu, (ga_same (sw_nd hD)).mp c_84]; rfl
          obtain ⟨e1, e2, e3, e4⟩ := gaX_t (f := f) hE9
          refine W.widen (k := 0) (n := 0) (Nat.le_of_ble_eq_true rfl) (Nat.le_of_ble_eq_true rfl) ?_
          exact W.vret hx hb hr (fun t ht hW => ⟨⟨_, rfl, (by rw [e1, e2, e3, e4, nI_0, Int32.add_zero]), at2.of hP hK hD ht hW⟩, hS.F ht⟩) hS.2.2 d_S_gatherFrom_87
    | cons y rs ih =>
      intro ls g k2 hl hmid hr1 hr2 hr3
      replace hl : lv_has ls 5 [(4, .ref y.1), (3, .int (nI g)), (2, .int (nI k2)), (0, .ref h), (1, .ref x.1)] := hl
      obtain ⟨mid, hmid⟩ := hmid
      have he := chG_at (scell h cn fi ha f v w z) (pre ++ x :: mid) y rs none
      rw [List.append_assoc, List.cons_append, ← hmid] at he
      refine lv_aload hx hb d_S_gatherFrom_24 (lv_at hl 0 rfl) ?_
      refine lv_ifnull hx hb d_S_gatherFrom_26 ?_
      refine lv_aload hx hb d_S_gatherFrom_29 (lv_at hl 0 rfl) ?_
      refine vp_callSi (va_runVN (As := []) (rest := []) ⟨hx, hb, hml, hown, hg⟩ (c_P_isKeptBySweep l D ty _ ((pre ++ x :: mid).length + 1) y (hdO rs none) he) ⟨va_cnB 0 hg (gw_c gw_318) rfl rfl rfl (hN.2.1 (135, y_P_isKeptBySweep) (by decide +kernel)) (hg _ gw_27) (by decide +kernel) ⟨Nat.le_of_ble_eq_true rfl, Nat.le_of_ble_eq_true rfl⟩, hg _ gw_317, hg _ gw_12⟩ (pre_roV hP hK hN (ci := 1) rfl he) rfl rfl hl.1 rfl (lv_room (Nat.le_of_ble_eq_true rfl)) d_S_gatherFrom_31 ⟨Nat.le_of_ble_eq_true rfl, Nat.le_of_ble_eq_true rfl⟩).run (fun rk hrk => ?_)
      refine lv_if_ne (tgt := 71) hx hb d_S_gatherFrom_34 (by decide) (fun c_34 => ?_) (fun c_34 => ?_)
      · have hky : isKp y = true := bI_n0.mp (by rw [← hrk]; exact c_34)
        have hgr : gaR suf = y :: rs := by rw [hr1, gaR, if_pos hky]
        have hg2 : g = x.2.2.1 + szS (gaM suf) := by rw [hr2, gaM, if_pos hky]; rfl
        have hk9 : k2 = (if x.2.2.2.1 then 1 else 0) + usS (gaM suf) := by rw [hr3, gaM, if_pos hky]; rfl
        replace hl : lv_has ls 5 [(4, va_rf (hdO (gaR suf) none)), (3, .int (nI (x.2.2.1 + szS (gaM suf)))), (2, .int (nI k2)), (0, .ref h), (1, .ref x.1)] := by rw [hgr, ← hg2]; exact hl
        refine lv_aload_n hx hb d_S_gatherFrom_71 rfl (lv_at hl 4 rfl) ?_
        refine va_getN (D := D) (ci := 1) (v := .int (bI x.2.2.2.1)) (C := R_P) (T := F_P) (N := 6) hx hb hg gi_P hown hK hP (pre.length + 1) hx9 rfl 2 (by decide) (va_Nw.use rfl (hN.1 (37, "used", "Z") (by decide))) (fun _ h9 => h9) rfl d_S_gatherFrom_72 ?_
        refine lv_if_ne (tgt := 88) hx hb d_S_gatherFrom_75 (by decide) (fun c_75 => ?_) (fun c_75 => ?_)
        · exact absurd (by rw [hu]; rfl) c_75
        · refine sv_aload hx hb d_S_gatherFrom_78 (lv_at hl 0 rfl) ?_
          refine lv_aload_n hx hb d_S_gatherFrom_80 rfl (lv_at hl 4 rfl) ?_
          refine va_getN (D := D) (ci := 1) (v := va_rf (hdO suf none)) (C := R_P) (T := F_P) (N := 6) hx hb hg gi_P hown hK hP (pre.length + 1) hx9 rfl 5 (by decide) (va_Nw.use rfl (hN.1 (69, "next", "LSweepHand$Piece;") (by decide))) (fun _ h9 => h9) rfl d_S_gatherFrom_81 ?_
          refine lv_acmp_ne (rx := (hdO (gaR suf) none)) (ry := (hdO suf none)) (tgt := 88) hx hb d_S_gatherFrom_84 (by decide) (fun c_84 => ?_) (fun c_84 => ?_)
          · have hE9 : gaE x suf = false := by unfold gaE; rw [hu]; cases hm9 : gaM suf with | nil => exact absurd ((ga_same (sw_nd hD)).mpr hm9) c_84 | cons y9 m9 => rfl
            obtain ⟨e1, e2, e3⟩ := gaX_f (f := f) hE9
            rw [chG_mid] at hP hD
            replace hP : va_P D classes ((h, .inr (0, [.int (nI cn), va_rf fi, va_rf ha, .long (lN f), .int v, .int w, .int z])) :: ((chG pre (some x.1)) ++ ((x.1, .inr (1, [.int (nI x.2.1), .int (nI x.2.2.1), .int (bI x.2.2.2.1), .int (bI x.2.2.2.2.1), .long (lN x.2.2.2.2.2), va_rf (hdO suf none)])) :: chG suf none))) _ := hP
            replace hD : va_D A ((h, .inr (0, [.int (nI cn), va_rf fi, va_rf ha, .long (lN f), .int v, .int w, .int z])) :: ((chG pre (some x.1)) ++ ((x.1, .inr (1, [.int (nI x.2.1), .int (nI x.2.2.1), .int (bI x.2.2.2.1), .int (bI x.2.2.2.2.1), .long (lN x.2.2.2.2.2), va_rf (hdO suf none)])) :: chG suf none))) := hD
            refine lv_aload_n hx hb d_S_gatherFrom_88 rfl (lv_at hl 4 rfl) ?_
            refine lv_iload_n hx hb d_S_gatherFrom_89 rfl (lv_at hl 1 rfl) ?_
            refine va_putN (D := D) (ci := 1) (v := .int (nI (x.2.2.1 + szS (gaM suf)))) (ty := .int) (C := R_P) (T := F_P) (N := 6) hx hb hg gi_P t_P t_P_ok n_P hown hK hP hD hS ((chG pre (some x.1)).length + 1) (sw_get1 _ _ _ _) rfl 1 (by decide) (va_Nw.use rfl (hN.1 (60, "size", "I") (by decide))) (fun _ h9 => h9) rfl (by decide +kernel) rfl rfl (Nat.le_of_ble_eq_true rfl) d_S_gatherFrom_90 (fun H locs hP hD hS => ?_)
            rw [sw_set1] at hP hD
            replace hP : va_P D classes ((h, .inr (0, [.int (nI cn), va_rf fi, va_rf ha, .long (lN f), .int v, .int w, .int z])) :: ((chG pre (some x.1)) ++ ((x.1, .inr (1, [.int (nI x.2.1), .int (nI (x.2.2.1 + szS (gaM suf))), .int (bI x.2.2.2.1), .int (bI x.2.2.2.2.1), .long (lN x.2.2.2.2.2), va_rf (hdO suf none)])) :: chG suf none))) _ := hP
            replace hD : va_D A ((h, .inr (0, [.int (nI cn), va_rf fi, va_rf ha, .long (lN f), .int v, .int w, .int z])) :: ((chG pre (some x.1)) ++ ((x.1, .inr (1, [.int (nI x.2.1), .int (nI (x.2.2.1 + szS (gaM suf))), .int (bI x.2.2.2.1), .int (bI x.2.2.2.2.1), .long (lN x.2.2.2.2.2), va_rf (hdO suf none)])) :: chG suf none))) := hD
            refine lv_aload_n hx hb d_S_gatherFrom_93 rfl (lv_at hl 4 rfl) ?_
            refine sv_aload hx hb d_S_gatherFrom_94 (lv_at hl 0 rfl) ?_
            refine va_putN (D := D) (ci := 1) (v := va_rf (hdO (gaR suf) none)) (ty := .object "SweepHand$Piece") (C := R_P) (T := F_P) (N := 6) hx hb hg gi_P t_P t_P_ok n_P hown hK hP hD hS ((chG pre (some x.1)).length + 1) (sw_get1 _ _ _ _) rfl 5 (by decide) (va_Nw.use rfl (hN.1 (69, "next", "LSweepHand$Piece;") (by decide))) (fun _ h9 => h9) rfl (by decide +kernel) (sv_nar _ _) (sv_fit _ _) (Nat.le_of_ble_eq_true rfl) d_S_gatherFrom_96 (fun H locs hP hD hS => ?_)
            rw [sw_set1] at hP hD
            replace hP : va_P D classes ((h, .inr (0, [.int (nI cn), va_rf fi, va_rf ha, .long (lN f), .int v, .int w, .int z])) :: ((chG pre (some x.1)) ++ ((x.1, .inr (1, [.int (nI x.2.1), .int (nI (x.2.2.1 + szS (gaM suf))), .int (bI x.2.2.2.1), .int (bI x.2.2.2.2.1), .long (lN x.2.2.2.2.2), va_rf (hdO (gaR suf) none)])) :: chG suf none))) _ := hP
            replace hD : va_D A ((h, .inr (0, [.int (nI cn), va_rf fi, va_rf ha, .long (lN f), .int v, .int w, .int z])) :: ((chG pre (some x.1)) ++ ((x.1, .inr (1, [.int (nI x.2.1), .int (nI (x.2.2.1 + szS (gaM suf))), .int (bI x.2.2.2.1), .int (bI x.2.2.2.2.1), .long (lN x.2.2.2.2.2), va_rf (hdO (gaR suf) none)])) :: chG suf none))) := hD
            refine lv_aload_n hx hb d_S_gatherFrom_99 rfl (lv_at hl 3 rfl) ?_
            refine lv_aload_n hx hb d_S_gatherFrom_100 rfl (lv_at hl 4 rfl) ?_
            have hFc := sw_free hD hS hA
            refine va_callv (va_runV (As := [.ref x.1]) (rest := []) ⟨hx, hb, hml, hown, hg⟩ (c_S_comeToBeFree l D ty N0 _ h cn fi ha f v w z (chG pre (some x.1)) (chG suf none) (x.1, x.2.1, x.2.2.1 + szS (gaM suf), x.2.2.2) (hdO (gaR suf) none)) (cwV 1 hg (gw_V gw_77 gw_79 gw_1 gw_26 gw_80) rfl rfl rfl (by decide +kernel) ⟨Nat.le_of_ble_eq_true rfl, Nat.le_of_ble_eq_true rfl⟩) (pre_wrV hP hK hN hD hS hAN hN0 hE (ci := 0) (k := 0) rfl rfl) rfl rfl hl.1 rfl (lv_room (Nat.le_of_ble_eq_true rfl)) d_S_gatherFrom_101 ⟨Nat.le_of_ble_eq_true rfl, Nat.le_of_ble_eq_true rfl⟩) hS (fun q _ h => hFc q h) hFc (fun u t H locs ht hvm hw hB hz1 hk1 hS => ?_)
            obtain ⟨hP, hK1, hD1⟩ := hB
            rw [ht] at hP
            have hD := hD1.weaken (fun _ _ _ h => hFc _ h)
            clear hK1 hD1 hFc hk1 hz1
            subst hw
            replace hP : va_P D classes ((h, .inr (0, [.int (nI cn), va_rf fi, va_rf ha, .long (lN (f + 1)), .int v, .int w, .int z])) :: ((chG pre (some x.1)) ++ ((x.1, .inr (1, [.int (nI x.2.1), .int (nI (x.2.2.1 + szS (gaM suf))), .int (bI false), .int (bI false), .long (lN (f + 1)), va_rf (hdO (gaR suf) none)])) :: chG suf none))) _ := hP
            replace hD : va_D A ((h, .inr (0, [.int (nI cn), va_rf fi, va_rf ha, .long (lN (f + 1)), .int v, .int w, .int z])) :: ((chG pre (some x.1)) ++ ((x.1, .inr (1, [.int (nI x.2.1), .int (nI (x.2.2.1 + szS (gaM suf))), .int (bI false), .int (bI false), .long (lN (f + 1)), va_rf (hdO (gaR suf) none)])) :: chG suf none))) := hD
            refine lv_aload_n hx hb d_S_gatherFrom_104 rfl (lv_at hl 3 rfl) ?_
            refine lv_dup hx hb d_S_gatherFrom_105 rfl ?_
            refine va_get (D := D) (ci := 0) (v := .int w) (C := R_S) (T := F_S) (N := 7) hx hb hg gi_S hown hK hP 0 rfl rfl 5 (by decide) (hg _ gw_86) (fun _ h9 => h9) rfl d_S_gatherFrom_106 ?_
            refine lv_iload_n hx hb d_S_gatherFrom_109 rfl (lv_at hl 2 rfl) ?_
            refine lv_iadd hx hb d_S_gatherFrom_110 ?_
            refine va_put (D := D) (ci := 0) (v := .int (w + (nI k2))) (ty := .int) (C := R_S) (T := F_S) (N := 7) hx hb hg gi_S t_S t_S_ok n_S hown hK hP hD hS 0 rfl rfl 5 (by decide) (hg _ gw_86) (fun _ h9 => h9) rfl (by decide +kernel) rfl rfl (Nat.le_of_ble_eq_true rfl) d_S_gatherFrom_111 (fun H locs hP hD hS => ?_)
            replace hP : va_P D classes ((h, .inr (0, [.int (nI cn), va_rf fi, va_rf ha, .long (lN (f + 1)), .int v, .int (w + (nI k2)), .int z])) :: ((chG pre (some x.1)) ++ ((x.1, .inr (1, [.int (nI x.2.1), .int (nI (x.2.2.1 + szS (gaM suf))), .int (bI false), .int (bI false), .long (lN (f + 1)), va_rf (hdO (gaR suf) none)])) :: chG suf none))) _ := hP
            replace hD : va_D A ((h, .inr (0, [.int (nI cn), va_rf fi, va_rf ha, .long (lN (f + 1)), .int v, .int (w + (nI k2)), .int z])) :: ((chG pre (some x.1)) ++ ((x.1, .inr (1, [.int (nI x.2.1), .int (nI (x.2.2.1 + szS (gaM suf))), .int (bI false), .int (bI false), .long (lN (f + 1)), va_rf (hdO (gaR suf) none)])) :: chG suf none))) := hD
            replace hP := sw_P_sub hP (List.Sublist.cons_cons _ (List.Sublist.append_left (List.Sublist.cons_cons _ (gaR_sub suf)) _))
            replace hD := sw_D_sub2 hD (List.Sublist.cons_cons _ (List.Sublist.append_left (List.Sublist.cons_cons _ (gaR_sub suf)) _))
            refine W.widen (k := 0) (n := 0) (Nat.le_of_ble_eq_true rfl) (Nat.le_of_ble_eq_true rfl) ?_
            exact W.vret hx hb hr (fun t ht hW => ⟨⟨_, rfl, (by rw [e1, e2, e3, ← hk9, chG_mid]; rfl), at2.of hP hK hD ht hW⟩, hS.F ht⟩) hS.2.2 d_S_gatherFrom_114
          · have hE9 : gaE x suf = true := by unfold gaE; rw [hu, (ga_same (sw_nd hD)).mp c_84]; rfl
            obtain ⟨e1, e2, e3, e4⟩ := gaX_t (f := f) hE9
            refine W.widen (k := 0) (n := 0) (Nat.le_of_ble_eq_true rfl) (Nat.le_of_ble_eq_true rfl) ?_
            exact W.vret hx hb hr (fun t ht hW => ⟨⟨_, rfl, (by rw [e1, e2, e3, e4, nI_0, Int32.add_zero]), at2.of hP hK hD ht hW⟩, hS.F ht⟩) hS.2.2 d_S_gatherFrom_87
      · have hky : ¬ isKp y = true := by rw [show isKp y = false from bI_0.mp (by rw [← hrk]; exact c_34)]; decide
        refine lv_iload_n hx hb d_S_gatherFrom_37 rfl (lv_at hl 2 rfl) ?_
        refine lv_aload hx hb d_S_gatherFrom_38 (lv_at hl 0 rfl) ?_
        refine va_getN (D := D) (ci := 1) (v := .int (bI y.2.2.2.1)) (C := R_P) (T := F_P) (N := 6) hx hb hg gi_P hown hK hP ((pre ++ x :: mid).length + 1) he rfl 2 (by decide) (va_Nw.use rfl (hN.1 (37, "used", "Z") (by decide))) (fun _ h9 => h9) rfl d_S_gatherFrom_40 ?_
        refine lv_if_eq (tgt := 50) hx hb d_S_gatherFrom_43 (by decide) (fun c_43 => ?_) (fun c_43 => ?_)
        · refine lv_iconst (v := 0) hx hb d_S_gatherFrom_50 (by decide) ?_
          have huy : y.2.2.2.1 = false := bI_0.mp c_43
          refine lv_iadd hx hb d_S_gatherFrom_51 ?_
          refine lv_topi (fun y1 ey1 => ?_)
          obtain rfl : y1 = nI (k2 + 0) := ey1.trans (nI_add k2 0)
          clear ey1
          refine lv_istore_n (lv' := [(2, .int (nI (k2 + 0))), (4, .ref y.1), (3, .int (nI g)), (0, .ref h), (1, .ref x.1)]) hx hb d_S_gatherFrom_52 rfl hl (by decide) rfl (fun ls hl => ?_)
          refine lv_iload_n hx hb d_S_gatherFrom_53 rfl (lv_at hl 2 rfl) ?_
          refine lv_aload hx hb d_S_gatherFrom_54 (lv_at hl 1 rfl) ?_
          refine va_getN (D := D) (ci := 1) (v := .int (nI y.2.2.1)) (C := R_P) (T := F_P) (N := 6) hx hb hg gi_P hown hK hP ((pre ++ x :: mid).length + 1) he rfl 1 (by decide) (va_Nw.use rfl (hN.1 (60, "size", "I") (by decide))) (fun _ h9 => h9) rfl d_S_gatherFrom_56 ?_
          refine lv_iadd hx hb d_S_gatherFrom_59 ?_
          refine lv_topi (fun y2 ey2 => ?_)
          obtain rfl : y2 = nI (g + y.2.2.1) := ey2.trans (nI_add _ _)
          clear ey2
          refine lv_istore_n (lv' := [(3, .int (nI (g + y.2.2.1))), (2, .int (nI (k2 + 0))), (4, .ref y.1), (0, .ref h), (1, .ref x.1)]) hx hb d_S_gatherFrom_60 rfl hl (by decide) rfl (fun ls hl => ?_)
          refine lv_aload hx hb d_S_gatherFrom_61 (lv_at hl 2 rfl) ?_
          refine va_getN (D := D) (ci := 1) (v := va_rf (hdO rs none)) (C := R_P) (T := F_P) (N := 6) hx hb hg gi_P hown hK hP ((pre ++ x :: mid).length + 1) he rfl 5 (by decide) (va_Nw.use rfl (hN.1 (69, "next", "LSweepHand$Piece;") (by decide))) (fun _ h9 => h9) rfl d_S_gatherFrom_63 ?_
          refine sv_astore (lv' := [(4, va_rf (hdO rs none)), (3, .int (nI (g + y.2.2.1))), (2, .int (nI (k2 + 0))), (0, .ref h), (1, .ref x.1)]) hx hb d_S_gatherFrom_66 hl (by decide) rfl (fun ls hl => ?_)
          refine lv_goto (tgt := 24) hx hb d_S_gatherFrom_68 (by decide) ?_
          exact ih ls (g + y.2.2.1) (k2 + 0) (lv_sub hl [0, 1, 2, 3, 4] rfl) ⟨mid ++ [y], by rw [hmid, List.append_assoc]; rfl⟩ (by rw [hr1, gaR, if_neg hky]) (by rw [hr2, gaM, if_neg hky, szS]; omega) (by rw [hr3, gaM, if_neg hky, usS, huy]; simp)
        · refine lv_iconst (v := 1) hx hb d_S_gatherFrom_46 (by decide) ?_
          refine lv_goto (tgt := 51) hx hb d_S_gatherFrom_47 (by decide) ?_
          have huy : y.2.2.2.1 = true := bI_n0.mp c_43
          refine lv_iadd hx hb d_S_gatherFrom_51 ?_
          refine lv_topi (fun y3 ey3 => ?_)
          obtain rfl : y3 = nI (k2 + 1) := ey3.trans (nI_add k2 1)
          clear ey3
          refine lv_istore_n (lv' := [(2, .int (nI (k2 + 1))), (4, .ref y.1), (3, .int (nI g)), (0, .ref h), (1, .ref x.1)]) hx hb d_S_gatherFrom_52 rfl hl (by decide) rfl (fun ls hl => ?_)
          refine lv_iload_n hx hb d_S_gatherFrom_53 rfl (lv_at hl 2 rfl) ?_
          refine lv_aload hx hb d_S_gatherFrom_54 (lv_at hl 1 rfl) ?_
          refine va_getN (D := D) (ci := 1) (v := .int (nI y.2.2.1)) (C := R_P) (T := F_P) (N := 6) hx hb hg gi_P hown hK hP ((pre ++ x :: mid).length + 1) he rfl 1 (by decide) (va_Nw.use rfl (hN.1 (60, "size", "I") (by decide))) (fun _ h9 => h9) rfl d_S_gatherFrom_56 ?_
          refine lv_iadd hx hb d_S_gatherFrom_59 ?_
          refine lv_topi (fun y4 ey4 => ?_)
          obtain rfl : y4 = nI (g + y.2.2.1) := ey4.trans (nI_add _ _)
          clear ey4
          refine lv_istore_n (lv' := [(3, .int (nI (g + y.2.2.1))), (2, .int (nI (k2 + 1))), (4, .ref y.1), (0, .ref h), (1, .ref x.1)]) hx hb d_S_gatherFrom_60 rfl hl (by decide) rfl (fun ls hl => ?_)
          refine lv_aload hx hb d_S_gatherFrom_61 (lv_at hl 2 rfl) ?_
          refine va_getN (D := D) (ci := 1) (v := va_rf (hdO rs none)) (C := R_P) (T := F_P) (N := 6) hx hb hg gi_P hown hK hP ((pre ++ x :: mid).length + 1) he rfl 5 (by decide) (va_Nw.use rfl (hN.1 (69, "next", "LSweepHand$Piece;") (by decide))) (fun _ h9 => h9) rfl d_S_gatherFrom_63 ?_
          refine sv_astore (lv' := [(4, va_rf (hdO rs none)), (3, .int (nI (g + y.2.2.1))), (2, .int (nI (k2 + 1))), (0, .ref h), (1, .ref x.1)]) hx hb d_S_gatherFrom_66 hl (by decide) rfl (fun ls hl => ?_)
          refine lv_goto (tgt := 24) hx hb d_S_gatherFrom_68 (by decide) ?_
          exact ih ls (g + y.2.2.1) (k2 + 1) (lv_sub hl [0, 1, 2, 3, 4] rfl) ⟨mid ++ [y], by rw [hmid, List.append_assoc]; rfl⟩ (by rw [hr1, gaR, if_neg hky]) (by rw [hr2, gaM, if_neg hky, szS]; omega) (by rw [hr3, gaM, if_neg hky, usS, huy]; simp; omega)
  · refine lv_iconst (v := 1) hx hb d_S_gatherFrom_7 (by decide) ?_
    refine lv_goto (tgt := 12) hx hb d_S_gatherFrom_8 (by decide) ?_
    have hu : x.2.2.2.1 = true := bI_n0.mp c_4
    refine lv_istore_n (lv' := [(2, .int 1), (0, .ref h), (1, .ref x.1)]) hx hb d_S_gatherFrom_12 rfl hl (by decide) rfl (fun ls hl => ?_)
    refine lv_aload_n hx hb d_S_gatherFrom_13 rfl (lv_at hl 2 rfl) ?_
    refine va_getN (D := D) (ci := 1) (v := .int (nI x.2.2.1)) (C := R_P) (T := F_P) (N := 6) hx hb hg gi_P hown hK hP (pre.length + 1) hx9 rfl 1 (by decide) (va_Nw.use rfl (hN.1 (60, "size", "I") (by decide))) (fun _ h9 => h9) rfl d_S_gatherFrom_14 ?_
    refine lv_istore_n (lv' := [(3, .int (nI x.2.2.1)), (2, .int 1), (0, .ref h), (1, .ref x.1)]) hx hb d_S_gatherFrom_17 rfl hl (by decide) rfl (fun ls hl => ?_)
    refine lv_aload_n hx hb d_S_gatherFrom_18 rfl (lv_at hl 3 rfl) ?_
    refine va_getN (D := D) (ci := 1) (v := va_rf (hdO suf none)) (C := R_P) (T := F_P) (N := 6) hx hb hg gi_P hown hK hP (pre.length + 1) hx9 rfl 5 (by decide) (va_Nw.use rfl (hN.1 (69, "next", "LSweepHand$Piece;") (by decide))) (fun _ h9 => h9) rfl d_S_gatherFrom_19 ?_
    refine sv_astore (lv' := [(4, va_rf (hdO suf none)), (3, .int (nI x.2.2.1)), (2, .int 1), (0, .ref h), (1, .ref x.1)]) hx hb d_S_gatherFrom_22 hl (by decide) rfl (fun ls hl => ?_)
    obtain ⟨g, hgg⟩ : ∃ q : Nat, q = x.2.2.1 := ⟨_, rfl⟩
    obtain ⟨k2, hk2⟩ : ∃ q : Nat, q = 1 := ⟨_, rfl⟩
    obtain ⟨rs, hs⟩ : ∃ q, q = suf := ⟨_, rfl⟩
    replace hl := lv_sub hl [0, 1, 2, 3, 4] rfl
    replace hl : lv_has ls 5 [(4, va_rf (hdO suf none)), (3, .int (nI x.2.2.1)), (2, .int 1), (0, .ref h), (1, .ref x.1)] := hl
    replace hl : lv_has ls 5 [(4, va_rf (hdO rs none)), (3, .int (nI g)), (2, .int (nI k2)), (0, .ref h), (1, .ref x.1)] := by rw [hs, hgg, hk2]; exact hl
    have hmid : ∃ mid, suf = mid ++ rs := ⟨[], hs.symm⟩
    have hr1 : gaR suf = gaR rs := by rw [hs]
    have hr2 : x.2.2.1 + szS (gaM suf) = g + szS (gaM rs) := by rw [hs, hgg]
    have hr3 : (if x.2.2.2.1 then 1 else 0) + usS (gaM suf) = k2 + usS (gaM rs) := by rw [hs, hk2, hu]; rfl
    clear hs hgg hk2
    revert hr3
    revert hr2
    revert hr1
    revert hmid
    revert hl
    revert k2
    revert g
    revert ls
    induction rs with
    | nil =>
      intro ls g k2 hl hmid hr1 hr2 hr3
      replace hl : lv_has ls 5 [(4, .null), (3, .int (nI g)), (2, .int (nI k2)), (0, .ref h), (1, .ref x.1)] := hl
      refine lv_aloadN hx hb d_S_gatherFrom_24 (lv_at hl 0 rfl) ?_
      refine lv_ifnullN (tgt := 71) hx hb d_S_gatherFrom_26 (by decide) ?_
      have hgr : gaR suf = [] := hr1
      have hg2 : g = x.2.2.1 + szS (gaM suf) := by rw [hr2]; rfl
      have hk9 : k2 = (if x.2.2.2.1 then 1 else 0) + usS (gaM suf) := by rw [hr3]; rfl
      replace hl : lv_has ls 5 [(4, va_rf (hdO (gaR suf) none)), (3, .int (nI (x.2.2.1 + szS (gaM suf)))), (2, .int (nI k2)), (0, .ref h), (1, .ref x.1)] := by rw [hgr, ← hg2]; exact hl
      refine lv_aload_n hx hb d_S_gatherFrom_71 rfl (lv_at hl 4 rfl) ?_
      refine va_getN (D := D) (ci := 1) (v := .int (bI x.2.2.2.1)) (C := R_P) (T := F_P) (N := 6) hx hb hg gi_P hown hK hP (pre.length + 1) hx9 rfl 2 (by decide) (va_Nw.use rfl (hN.1 (37, "used", "Z") (by decide))) (fun _ h9 => h9) rfl d_S_gatherFrom_72 ?_
      refine lv_if_ne (tgt := 88) hx hb d_S_gatherFrom_75 (by decide) (fun c_75 => ?_) (fun c_75 => ?_)
      · have hE9 : gaE x suf = false := by unfold gaE; rw [hu]; rfl
        obtain ⟨e1, e2, e3⟩ := gaX_f (f := f) hE9
        rw [chG_mid] at hP hD
        replace hP : va_P D classes ((h, .inr (0, [.int (nI cn), va_rf fi, va_rf ha, .long (lN f), .int v, .int w, .int z])) :: ((chG pre (some x.1)) ++ ((x.1, .inr (1, [.int (nI x.2.1), .int (nI x.2.2.1), .int (bI x.2.2.2.1), .int (bI x.2.2.2.2.1), .long (lN x.2.2.2.2.2), va_rf (hdO suf none)])) :: chG suf none))) _ := hP
        replace hD : va_D A ((h, .inr (0, [.int (nI cn), va_rf fi, va_rf ha, .long (lN f), .int v, .int w, .int z])) :: ((chG pre (some x.1)) ++ ((x.1, .inr (1, [.int (nI x.2.1), .int (nI x.2.2.1), .int (bI x.2.2.2.1), .int (bI x.2.2.2.2.1), .long (lN x.2.2.2.2.2), va_rf (hdO suf none)])) :: chG suf none))) := hD
        refine lv_aload_n hx hb d_S_gatherFrom_88 rfl (lv_at hl 4 rfl) ?_
        refine lv_iload_n hx hb d_S_gatherFrom_89 rfl (lv_at hl 1 rfl) ?_
        refine va_putN (D := D) (ci := 1) (v := .int (nI (x.2.2.1 + szS (gaM suf)))) (ty := .int) (C := R_P) (T := F_P) (N := 6) hx hb hg gi_P t_P t_P_ok n_P hown hK hP hD hS ((chG pre (some x.1)).length + 1) (sw_get1 _ _ _ _) rfl 1 (by decide) (va_Nw.use rfl (hN.1 (60, "size", "I") (by decide))) (fun _ h9 => h9) rfl (by decide +kernel) rfl rfl (Nat.le_of_ble_eq_true rfl) d_S_gatherFrom_90 (fun H locs hP hD hS => ?_)
        rw [sw_set1] at hP hD
        replace hP : va_P D classes ((h, .inr (0, [.int (nI cn), va_rf fi, va_rf ha, .long (lN f), .int v, .int w, .int z])) :: ((chG pre (some x.1)) ++ ((x.1, .inr (1, [.int (nI x.2.1), .int (nI (x.2.2.1 + szS (gaM suf))), .int (bI x.2.2.2.1), .int (bI x.2.2.2.2.1), .long (lN x.2.2.2.2.2), va_rf (hdO suf none)])) :: chG suf none))) _ := hP
        replace hD : va_D A ((h, .inr (0, [.int (nI cn), va_rf fi, va_rf ha, .long (lN f), .int v, .int w, .int z])) :: ((chG pre (some x.1)) ++ ((x.1, .inr (1, [.int (nI x.2.1), .int (nI (x.2.2.1 + szS (gaM suf))), .int (bI x.2.2.2.1), .int (bI x.2.2.2.2.1), .long (lN x.2.2.2.2.2), va_rf (hdO suf none)])) :: chG suf none))) := hD
        refine lv_aload_n hx hb d_S_gatherFrom_93 rfl (lv_at hl 4 rfl) ?_
        refine sv_aload hx hb d_S_gatherFrom_94 (lv_at hl 0 rfl) ?_
        refine va_putN (D := D) (ci := 1) (v := va_rf (hdO (gaR suf) none)) (ty := .object "SweepHand$Piece") (C := R_P) (T := F_P) (N := 6) hx hb hg gi_P t_P t_P_ok n_P hown hK hP hD hS ((chG pre (some x.1)).length + 1) (sw_get1 _ _ _ _) rfl 5 (by decide) (va_Nw.use rfl (hN.1 (69, "next", "LSweepHand$Piece;") (by decide))) (fun _ h9 => h9) rfl (by decide +kernel) (sv_nar _ _) (sv_fit _ _) (Nat.le_of_ble_eq_true rfl) d_S_gatherFrom_96 (fun H locs hP hD hS => ?_)
        rw [sw_set1] at hP hD
        replace hP : va_P D classes ((h, .inr (0, [.int (nI cn), va_rf fi, va_rf ha, .long (lN f), .int v, .int w, .int z])) :: ((chG pre (some x.1)) ++ ((x.1, .inr (1, [.int (nI x.2.1), .int (nI (x.2.2.1 + szS (gaM suf))), .int (bI x.2.2.2.1), .int (bI x.2.2.2.2.1), .long (lN x.2.2.2.2.2), va_rf (hdO (gaR suf) none)])) :: chG suf none))) _ := hP
        replace hD : va_D A ((h, .inr (0, [.int (nI cn), va_rf fi, va_rf ha, .long (lN f), .int v, .int w, .int z])) :: ((chG pre (some x.1)) ++ ((x.1, .inr (1, [.int (nI x.2.1), .int (nI (x.2.2.1 + szS (gaM suf))), .int (bI x.2.2.2.1), .int (bI x.2.2.2.2.1), .long (lN x.2.2.2.2.2), va_rf (hdO (gaR suf) none)])) :: chG suf none))) := hD
        refine lv_aload_n hx hb d_S_gatherFrom_99 rfl (lv_at hl 3 rfl) ?_
        refine lv_aload_n hx hb d_S_gatherFrom_100 rfl (lv_at hl 4 rfl) ?_
        have hFc := sw_free hD hS hA
        refine va_callv (va_runV (As := [.ref x.1]) (rest := []) ⟨hx, hb, hml, hown, hg⟩ (c_S_comeToBeFree l D ty N0 _ h cn fi ha f v w z (chG pre (some x.1)) (chG suf none) (x.1, x.2.1, x.2.2.1 + szS (gaM suf), x.2.2.2) (hdO (gaR suf) none)) (cwV 1 hg (gw_V gw_77 gw_79 gw_1 gw_26 gw_80) rfl rfl rfl (by decide +kernel) ⟨Nat.le_of_ble_eq_true rfl, Nat.le_of_ble_eq_true rfl⟩) (pre_wrV hP hK hN hD hS hAN hN0 hE (ci := 0) (k := 0) rfl rfl) rfl rfl hl.1 rfl (lv_room (Nat.le_of_ble_eq_true rfl)) d_S_gatherFrom_101 ⟨Nat.le_of_ble_eq_true rfl, Nat.le_of_ble_eq_true rfl⟩) hS (fun q _ h => hFc q h) hFc (fun u t H locs ht hvm hw hB hz1 hk1 hS => ?_)
        obtain ⟨hP, hK1, hD1⟩ := hB
        rw [ht] at hP
        have hD := hD1.weaken (fun _ _ _ h => hFc _ h)
        clear hK1 hD1 hFc hk1 hz1
        subst hw
        replace hP : va_P D classes ((h, .inr (0, [.int (nI cn), va_rf fi, va_rf ha, .long (lN (f + 1)), .int v, .int w, .int z])) :: ((chG pre (some x.1)) ++ ((x.1, .inr (1, [.int (nI x.2.1), .int (nI (x.2.2.1 + szS (gaM suf))), .int (bI false), .int (bI false), .long (lN (f + 1)), va_rf (hdO (gaR suf) none)])) :: chG suf none))) _ := hP
        replace hD : va_D A ((h, .inr (0, [.int (nI cn), va_rf fi, va_rf ha, .long (lN (f + 1)), .int v, .int w, .int z])) :: ((chG pre (some x.1)) ++ ((x.1, .inr (1, [.int (nI x.2.1), .int (nI (x.2.2.1 + szS (gaM suf))), .int (bI false), .int (bI false), .long (lN (f + 1)), va_rf (hdO (gaR suf) none)])) :: chG suf none))) := hD
        refine lv_aload_n hx hb d_S_gatherFrom_104 rfl (lv_at hl 3 rfl) ?_
        refine lv_dup hx hb d_S_gatherFrom_105 rfl ?_
        refine va_get (D := D) (ci := 0) (v := .int w) (C := R_S) (T := F_S) (N := 7) hx hb hg gi_S hown hK hP 0 rfl rfl 5 (by decide) (hg _ gw_86) (fun _ h9 => h9) rfl d_S_gatherFrom_106 ?_
        refine lv_iload_n hx hb d_S_gatherFrom_109 rfl (lv_at hl 2 rfl) ?_
        refine lv_iadd hx hb d_S_gatherFrom_110 ?_
        refine va_put (D := D) (ci := 0) (v := .int (w + (nI k2))) (ty := .int) (C := R_S) (T := F_S) (N := 7) hx hb hg gi_S t_S t_S_ok n_S hown hK hP hD hS 0 rfl rfl 5 (by decide) (hg _ gw_86) (fun _ h9 => h9) rfl (by decide +kernel) rfl rfl (Nat.le_of_ble_eq_true rfl) d_S_gatherFrom_111 (fun H locs hP hD hS => ?_)
        replace hP : va_P D classes ((h, .inr (0, [.int (nI cn), va_rf fi, va_rf ha, .long (lN (f + 1)), .int v, .int (w + (nI k2)), .int z])) :: ((chG pre (some x.1)) ++ ((x.1, .inr (1, [.int (nI x.2.1), .int (nI (x.2.2.1 + szS (gaM suf))), .int (bI false), .int (bI false), .long (lN (f + 1)), va_rf (hdO (gaR suf) none)])) :: chG suf none))) _ := hP
        replace hD : va_D A ((h, .inr (0, [.int (nI cn), va_rf fi, va_rf ha, .long (lN (f + 1)), .int v, .int (w + (nI k2)), .int z])) :: ((chG pre (some x.1)) ++ ((x.1, .inr (1, [.int (nI x.2.1), .int (nI (x.2.2.1 + szS (gaM suf))), .int (bI false), .int (bI false), .long (lN (f + 1)), va_rf (hdO (gaR suf) none)])) :: chG suf none))) := hD
        replace hP := sw_P_sub hP (List.Sublist.cons_cons _ (List.Sublist.append_left (List.Sublist.cons_cons _ (gaR_sub suf)) _))
        replace hD := sw_D_sub2 hD (List.Sublist.cons_cons _ (List.Sublist.append_left (List.Sublist.cons_cons _ (gaR_sub suf)) _))
        refine W.widen (k := 0) (n := 0) (Nat.le_of_ble_eq_true rfl) (Nat.le_of_ble_eq_true rfl) ?_
        exact W.vret hx hb hr (fun t ht hW => ⟨⟨_, rfl, (by rw [e1, e2, e3, ← hk9, chG_mid]; rfl), at2.of hP hK hD ht hW⟩, hS.F ht⟩) hS.2.2 d_S_gatherFrom_114
      · exact absurd c_75 (by rw [hu]; decide)
    | cons y rs ih =>
      intro ls g k2 hl hmid hr1 hr2 hr3
      replace hl : lv_has ls 5 [(4, .ref y.1), (3, .int (nI g)), (2, .int (nI k2)), (0, .ref h), (1, .ref x.1)] := hl
      obtain ⟨mid, hmid⟩ := hmid
      have he := chG_at (scell h cn fi ha f v w z) (pre ++ x :: mid) y rs none
      rw [List.append_assoc, List.cons_append, ← hmid] at he
      refine lv_aload hx hb d_S_gatherFrom_24 (lv_at hl 0 rfl) ?_
      refine lv_ifnull hx hb d_S_gatherFrom_26 ?_
      refine lv_aload hx hb d_S_gatherFrom_29 (lv_at hl 0 rfl) ?_
      refine vp_callSi (va_runVN (As := []) (rest := []) ⟨hx, hb, hml, hown, hg⟩ (c_P_isKeptBySweep l D ty _ ((pre ++ x :: mid).length + 1) y (hdO rs none) he) ⟨va_cnB 0 hg (gw_c gw_318) rfl rfl rfl (hN.2.1 (135, y_P_isKeptBySweep) (by decide +kernel)) (hg _ gw_27) (by decide +kernel) ⟨Nat.le_of_ble_eq_true rfl, Nat.le_of_ble_eq_true rfl⟩, hg _ gw_317, hg _ gw_12⟩ (pre_roV hP hK hN (ci := 1) rfl he) rfl rfl hl.1 rfl (lv_room (Nat.le_of_ble_eq_true rfl)) d_S_gatherFrom_31 ⟨Nat.le_of_ble_eq_true rfl, Nat.le_of_ble_eq_true rfl⟩).run (fun rk hrk => ?_)
      refine lv_if_ne (tgt := 71) hx hb d_S_gatherFrom_34 (by decide) (fun c_34 => ?_) (fun c_34 => ?_)
      · have hky : isKp y = true := bI_n0.mp (by rw [← hrk]; exact c_34)
        have hgr : gaR suf = y :: rs := by rw [hr1, gaR, if_pos hky]
        have hg2 : g = x.2.2.1 + szS (gaM suf) := by rw [hr2, gaM, if_pos hky]; rfl
        have hk9 : k2 = (if x.2.2.2.1 then 1 else 0) + usS (gaM suf) := by rw [hr3, gaM, if_pos hky]; rfl
        replace hl : lv_has ls 5 [(4, va_rf (hdO (gaR suf) none)), (3, .int (nI (x.2.2.1 + szS (gaM suf)))), (2, .int (nI k2)), (0, .ref h), (1, .ref x.1)] := by rw [hgr, ← hg2]; exact hl
        refine lv_aload_n hx hb d_S_gatherFrom_71 rfl (lv_at hl 4 rfl) ?_
        refine va_getN (D := D) (ci := 1) (v := .int (bI x.2.2.2.1)) (C := R_P) (T := F_P) (N := 6) hx hb hg gi_P hown hK hP (pre.length + 1) hx9 rfl 2 (by decide) (va_Nw.use rfl (hN.1 (37, "used", "Z") (by decide))) (fun _ h9 => h9) rfl d_S_gatherFrom_72 ?_
        refine lv_if_ne (tgt := 88) hx hb d_S_gatherFrom_75 (by decide) (fun c_75 => ?_) (fun c_75 => ?_)
        · have hE9 : gaE x suf = false := by unfold gaE; rw [hu]; rfl
          obtain ⟨e1, e2, e3⟩ := gaX_f (f := f) hE9
          rw [chG_mid] at hP hD
          replace hP : va_P D classes ((h, .inr (0, [.int (nI cn), va_rf fi, va_rf ha, .long (lN f), .int v, .int w, .int z])) :: ((chG pre (some x.1)) ++ ((x.1, .inr (1, [.int (nI x.2.1), .int (nI x.2.2.1), .int (bI x.2.2.2.1), .int (bI x.2.2.2.2.1), .long (lN x.2.2.2.2.2), va_rf (hdO suf none)])) :: chG suf none))) _ := hP
          replace hD : va_D A ((h, .inr (0, [.int (nI cn), va_rf fi, va_rf ha, .long (lN f), .int v, .int w, .int z])) :: ((chG pre (some x.1)) ++ ((x.1, .inr (1, [.int (nI x.2.1), .int (nI x.2.2.1), .int (bI x.2.2.2.1), .int (bI x.2.2.2.2.1), .long (lN x.2.2.2.2.2), va_rf (hdO suf none)])) :: chG suf none))) := hD
          refine lv_aload_n hx hb d_S_gatherFrom_88 rfl (lv_at hl 4 rfl) ?_
          refine lv_iload_n hx hb d_S_gatherFrom_89 rfl (lv_at hl 1 rfl) ?_
          refine va_putN (D := D) (ci := 1) (v := .int (nI (x.2.2.1 + szS (gaM suf)))) (ty := .int) (C := R_P) (T := F_P) (N := 6) hx hb hg gi_P t_P t_P_ok n_P hown hK hP hD hS ((chG pre (some x.1)).length + 1) (sw_get1 _ _ _ _) rfl 1 (by decide) (va_Nw.use rfl (hN.1 (60, "size", "I") (by decide))) (fun _ h9 => h9) rfl (by decide +kernel) rfl rfl (Nat.le_of_ble_eq_true rfl) d_S_gatherFrom_90 (fun H locs hP hD hS => ?_)
          rw [sw_set1] at hP hD
          replace hP : va_P D classes ((h, .inr (0, [.int (nI cn), va_rf fi, va_rf ha, .long (lN f), .int v, .int w, .int z])) :: ((chG pre (some x.1)) ++ ((x.1, .inr (1, [.int (nI x.2.1), .int (nI (x.2.2.1 + szS (gaM suf))), .int (bI x.2.2.2.1), .int (bI x.2.2.2.2.1), .long (lN x.2.2.2.2.2), va_rf (hdO suf none)])) :: chG suf none))) _ := hP
          replace hD : va_D A ((h, .inr (0, [.int (nI cn), va_rf fi, va_rf ha, .long (lN f), .int v, .int w, .int z])) :: ((chG pre (some x.1)) ++ ((x.1, .inr (1, [.int (nI x.2.1), .int (nI (x.2.2.1 + szS (gaM suf))), .int (bI x.2.2.2.1), .int (bI x.2.2.2.2.1), .long (lN x.2.2.2.2.2), va_rf (hdO suf none)])) :: chG suf none))) := hD
          refine lv_aload_n hx hb d_S_gatherFrom_93 rfl (lv_at hl 4 rfl) ?_
          refine sv_aload hx hb d_S_gatherFrom_94 (lv_at hl 0 rfl) ?_
          refine va_putN (D := D) (ci := 1) (v := va_rf (hdO (gaR suf) none)) (ty := .object "SweepHand$Piece") (C := R_P) (T := F_P) (N := 6) hx hb hg gi_P t_P t_P_ok n_P hown hK hP hD hS ((chG pre (some x.1)).length + 1) (sw_get1 _ _ _ _) rfl 5 (by decide) (va_Nw.use rfl (hN.1 (69, "next", "LSweepHand$Piece;") (by decide))) (fun _ h9 => h9) rfl (by decide +kernel) (sv_nar _ _) (sv_fit _ _) (Nat.le_of_ble_eq_true rfl) d_S_gatherFrom_96 (fun H locs hP hD hS => ?_)
          rw [sw_set1] at hP hD
          replace hP : va_P D classes ((h, .inr (0, [.int (nI cn), va_rf fi, va_rf ha, .long (lN f), .int v, .int w, .int z])) :: ((chG pre (some x.1)) ++ ((x.1, .inr (1, [.int (nI x.2.1), .int (nI (x.2.2.1 + szS (gaM suf))), .int (bI x.2.2.2.1), .int (bI x.2.2.2.2.1), .long (lN x.2.2.2.2.2), va_rf (hdO (gaR suf) none)])) :: chG suf none))) _ := hP
          replace hD : va_D A ((h, .inr (0, [.int (nI cn), va_rf fi, va_rf ha, .long (lN f), .int v, .int w, .int z])) :: ((chG pre (some x.1)) ++ ((x.1, .inr (1, [.int (nI x.2.1), .int (nI (x.2.2.1 + szS (gaM suf))), .int (bI x.2.2.2.1), .int (bI x.2.2.2.2.1), .long (lN x.2.2.2.2.2), va_rf (hdO (gaR suf) none)])) :: chG suf none))) := hD
          refine lv_aload_n hx hb d_S_gatherFrom_99 rfl (lv_at hl 3 rfl) ?_
          refine lv_aload_n hx hb d_S_gatherFrom_100 rfl (lv_at hl 4 rfl) ?_
          have hFc := sw_free hD hS hA
          refine va_callv (va_runV (As := [.ref x.1]) (rest := []) ⟨hx, hb, hml, hown, hg⟩ (c_S_comeToBeFree l D ty N0 _ h cn fi ha f v w z (chG pre (some x.1)) (chG suf none) (x.1, x.2.1, x.2.2.1 + szS (gaM suf), x.2.2.2) (hdO (gaR suf) none)) (cwV 1 hg (gw_V gw_77 gw_79 gw_1 gw_26 gw_80) rfl rfl rfl (by decide +kernel) ⟨Nat.le_of_ble_eq_true rfl, Nat.le_of_ble_eq_true rfl⟩) (pre_wrV hP hK hN hD hS hAN hN0 hE (ci := 0) (k := 0) rfl rfl) rfl rfl hl.1 rfl (lv_room (Nat.le_of_ble_eq_true rfl)) d_S_gatherFrom_101 ⟨Nat.le_of_ble_eq_true rfl, Nat.le_of_ble_eq_true rfl⟩) hS (fun q _ h => hFc q h) hFc (fun u t H locs ht hvm hw hB hz1 hk1 hS => ?_)
          obtain ⟨hP, hK1, hD1⟩ := hB
          rw [ht] at hP
          have hD := hD1.weaken (fun _ _ _ h => hFc _ h)
          clear hK1 hD1 hFc hk1 hz1
          subst hw
          replace hP : va_P D classes ((h, .inr (0, [.int (nI cn), va_rf fi, va_rf ha, .long (lN (f + 1)), .int v, .int w, .int z])) :: ((chG pre (some x.1)) ++ ((x.1, .inr (1, [.int (nI x.2.1), .int (nI (x.2.2.1 + szS (gaM suf))), .int (bI false), .int (bI false), .long (lN (f + 1)), va_rf (hdO (gaR suf) none)])) :: chG suf none))) _ := hP
          replace hD : va_D A ((h, .inr (0, [.int (nI cn), va_rf fi, va_rf ha, .long (lN (f + 1)), .int v, .int w, .int z])) :: ((chG pre (some x.1)) ++ ((x.1, .inr (1, [.int (nI x.2.1), .int (nI (x.2.2.1 + szS (gaM suf))), .int (bI false), .int (bI false), .long (lN (f + 1)), va_rf (hdO (gaR suf) none)])) :: chG suf none))) := hD
          refine lv_aload_n hx hb d_S_gatherFrom_104 rfl (lv_at hl 3 rfl) ?_
          refine lv_dup hx hb d_S_gatherFrom_105 rfl ?_
          refine va_get (D := D) (ci := 0) (v := .int w) (C := R_S) (T := F_S) (N := 7) hx hb hg gi_S hown hK hP 0 rfl rfl 5 (by decide) (hg _ gw_86) (fun _ h9 => h9) rfl d_S_gatherFrom_106 ?_
          refine lv_iload_n hx hb d_S_gatherFrom_109 rfl (lv_at hl 2 rfl) ?_
          refine lv_iadd hx hb d_S_gatherFrom_110 ?_
          refine va_put (D := D) (ci := 0) (v := .int (w + (nI k2))) (ty := .int) (C := R_S) (T := F_S) (N := 7) hx hb hg gi_S t_S t_S_ok n_S hown hK hP hD hS 0 rfl rfl 5 (by decide) (hg _ gw_86) (fun _ h9 => h9) rfl (by decide +kernel) rfl rfl (Nat.le_of_ble_eq_true rfl) d_S_gatherFrom_111 (fun H locs hP hD hS => ?_)
          replace hP : va_P D classes ((h, .inr (0, [.int (nI cn), va_rf fi, va_rf ha, .long (lN (f + 1)), .int v, .int (w + (nI k2)), .int z])) :: ((chG pre (some x.1)) ++ ((x.1, .inr (1, [.int (nI x.2.1), .int (nI (x.2.2.1 + szS (gaM suf))), .int (bI false), .int (bI false), .long (lN (f + 1)), va_rf (hdO (gaR suf) none)])) :: chG suf none))) _ := hP
          replace hD : va_D A ((h, .inr (0, [.int (nI cn), va_rf fi, va_rf ha, .long (lN (f + 1)), .int v, .int (w + (nI k2)), .int z])) :: ((chG pre (some x.1)) ++ ((x.1, .inr (1, [.int (nI x.2.1), .int (nI (x.2.2.1 + szS (gaM suf))), .int (bI false), .int (bI false), .long (lN (f + 1)), va_rf (hdO (gaR suf) none)])) :: chG suf none))) := hD
          replace hP := sw_P_sub hP (List.Sublist.cons_cons _ (List.Sublist.append_left (List.Sublist.cons_cons _ (gaR_sub suf)) _))
          replace hD := sw_D_sub2 hD (List.Sublist.cons_cons _ (List.Sublist.append_left (List.Sublist.cons_cons _ (gaR_sub suf)) _))
          refine W.widen (k := 0) (n := 0) (Nat.le_of_ble_eq_true rfl) (Nat.le_of_ble_eq_true rfl) ?_
          exact W.vret hx hb hr (fun t ht hW => ⟨⟨_, rfl, (by rw [e1, e2, e3, ← hk9, chG_mid]; rfl), at2.of hP hK hD ht hW⟩, hS.F ht⟩) hS.2.2 d_S_gatherFrom_114
        · exact absurd c_75 (by rw [hu]; decide)
      · have hky : ¬ isKp y = true := by rw [show isKp y = false from bI_0.mp (by rw [← hrk]; exact c_34)]; decide
        refine lv_iload_n hx hb d_S_gatherFrom_37 rfl (lv_at hl 2 rfl) ?_
        refine lv_aload hx hb d_S_gatherFrom_38 (lv_at hl 0 rfl) ?_
        refine va_getN (D := D) (ci := 1) (v := .int (bI y.2.2.2.1)) (C := R_P) (T := F_P) (N := 6) hx hb hg gi_P hown hK hP ((pre ++ x :: mid).length + 1) he rfl 2 (by decide) (va_Nw.use rfl (hN.1 (37, "used", "Z") (by decide))) (fun _ h9 => h9) rfl d_S_gatherFrom_40 ?_
        refine lv_if_eq (tgt := 50) hx hb d_S_gatherFrom_43 (by decide) (fun c_43 => ?_) (fun c_43 => ?_)
        · refine lv_iconst (v := 0) hx hb d_S_gatherFrom_50 (by decide) ?_
          have huy : y.2.2.2.1 = false := bI_0.mp c_43
          refine lv_iadd hx hb d_S_gatherFrom_51 ?_
          refine lv_topi (fun y5 ey5 => ?_)
          obtain rfl : y5 = nI (k2 + 0) := ey5.trans (nI_add k2 0)
          clear ey5
          refine lv_istore_n (lv' := [(2, .int (nI (k2 + 0))), (4, .ref y.1), (3, .int (nI g)), (0, .ref h), (1, .ref x.1)]) hx hb d_S_gatherFrom_52 rfl hl (by decide) rfl (fun ls hl => ?_)
          refine lv_iload_n hx hb d_S_gatherFrom_53 rfl (lv_at hl 2 rfl) ?_
          refine lv_aload hx hb d_S_gatherFrom_54 (lv_at hl 1 rfl) ?_
          refine va_getN (D := D) (ci := 1) (v := .int (nI y.2.2.1)) (C := R_P) (T := F_P) (N := 6) hx hb hg gi_P hown hK hP ((pre ++ x :: mid).length + 1) he rfl 1 (by decide) (va_Nw.use rfl (hN.1 (60, "size", "I") (by decide))) (fun _ h9 => h9) rfl d_S_gatherFrom_56 ?_
          refine lv_iadd hx hb d_S_gatherFrom_59 ?_
          refine lv_topi (fun y6 ey6 => ?_)
          obtain rfl : y6 = nI (g + y.2.2.1) := ey6.trans (nI_add _ _)
          clear ey6
          refine lv_istore_n (lv' := [(3, .int (nI (g + y.2.2.1))), (2, .int (nI (k2 + 0))), (4, .ref y.1), (0, .ref h), (1, .ref x.1)]) hx hb d_S_gatherFrom_60 rfl hl (by decide) rfl (fun ls hl => ?_)
          refine lv_aload hx hb d_S_gatherFrom_61 (lv_at hl 2 rfl) ?_
          refine va_getN (D := D) (ci := 1) (v := va_rf (hdO rs none)) (C := R_P) (T := F_P) (N := 6) hx hb hg gi_P hown hK hP ((pre ++ x :: mid).length + 1) he rfl 5 (by decide) (va_Nw.use rfl (hN.1 (69, "next", "LSweepHand$Piece;") (by decide))) (fun _ h9 => h9) rfl d_S_gatherFrom_63 ?_
          refine sv_astore (lv' := [(4, va_rf (hdO rs none)), (3, .int (nI (g + y.2.2.1))), (2, .int (nI (k2 + 0))), (0, .ref h), (1, .ref x.1)]) hx hb d_S_gatherFrom_66 hl (by decide) rfl (fun ls hl => ?_)
          refine lv_goto (tgt := 24) hx hb d_S_gatherFrom_68 (by decide) ?_
          exact ih ls (g + y.2.2.1) (k2 + 0) (lv_sub hl [0, 1, 2, 3, 4] rfl) ⟨mid ++ [y], by rw [hmid, List.append_assoc]; rfl⟩ (by rw [hr1, gaR, if_neg hky]) (by rw [hr2, gaM, if_neg hky, szS]; omega) (by rw [hr3, gaM, if_neg hky, usS, huy]; simp)
        · refine lv_iconst (v := 1) hx hb d_S_gatherFrom_46 (by decide) ?_
          refine lv_goto (tgt := 51) hx hb d_S_gatherFrom_47 (by decide) ?_
          have huy : y.2.2.2.1 = true := bI_n0.mp c_43
          refine lv_iadd hx hb d_S_gatherFrom_51 ?_
          refine lv_topi (fun y7 ey7 => ?_)
          obtain rfl : y7 = nI (k2 + 1) := ey7.trans (nI_add k2 1)
          clear ey7
          refine lv_istore_n (lv' := [(2, .int (nI (k2 + 1))), (4, .ref y.1), (3, .int (nI g)), (0, .ref h), (1, .ref x.1)]) hx hb d_S_gatherFrom_52 rfl hl (by decide) rfl (fun ls hl => ?_)
          refine lv_iload_n hx hb d_S_gatherFrom_53 rfl (lv_at hl 2 rfl) ?_
          refine lv_aload hx hb d_S_gatherFrom_54 (lv_at hl 1 rfl) ?_
          refine va_getN (D := D) (ci := 1) (v := .int (nI y.2.2.1)) (C := R_P) (T := F_P) (N := 6) hx hb hg gi_P hown hK hP ((pre ++ x :: mid).length + 1) he rfl 1 (by decide) (va_Nw.use rfl (hN.1 (60, "size", "I") (by decide))) (fun _ h9 => h9) rfl d_S_gatherFrom_56 ?_
          refine lv_iadd hx hb d_S_gatherFrom_59 ?_
          refine lv_topi (fun y8 ey8 => ?_)
          obtain rfl : y8 = nI (g + y.2.2.1) := ey8.trans (nI_add _ _)
          clear ey8
          refine lv_istore_n (lv' := [(3, .int (nI (g + y.2.2.1))), (2, .int (nI (k2 + 1))), (4, .ref y.1), (0, .ref h), (1, .ref x.1)]) hx hb d_S_gatherFrom_60 rfl hl (by decide) rfl (fun ls hl => ?_)
          refine lv_aload hx hb d_S_gatherFrom_61 (lv_at hl 2 rfl) ?_
          refine va_getN (D := D) (ci := 1) (v := va_rf (hdO rs none)) (C := R_P) (T := F_P) (N := 6) hx hb hg gi_P hown hK hP ((pre ++ x :: mid).length + 1) he rfl 5 (by decide) (va_Nw.use rfl (hN.1 (69, "next", "LSweepHand$Piece;") (by decide))) (fun _ h9 => h9) rfl d_S_gatherFrom_63 ?_
          refine sv_astore (lv' := [(4, va_rf (hdO rs none)), (3, .int (nI (g + y.2.2.1))), (2, .int (nI (k2 + 1))), (0, .ref h), (1, .ref x.1)]) hx hb d_S_gatherFrom_66 hl (by decide) rfl (fun ls hl => ?_)
          refine lv_goto (tgt := 24) hx hb d_S_gatherFrom_68 (by decide) ?_
          exact ih ls (g + y.2.2.1) (k2 + 1) (lv_sub hl [0, 1, 2, 3, 4] rfl) ⟨mid ++ [y], by rw [hmid, List.append_assoc]; rfl⟩ (by rw [hr1, gaR, if_neg hky]) (by rw [hr2, gaM, if_neg hky, szS]; omega) (by rw [hr3, gaM, if_neg hky, usS, huy]; simp; omega)
set_option maxHeartbeats 4000000 in
set_option maxRecDepth 100000 in
theorem c_S_stepFrom (l : Launch) (D : va_G) (ty : tyL) (N0 sz : Nat) (h cn f : Nat) (v w z : Int32) (pre suf : List AP) (x : AP) : Met l y_S_stepFrom (Cond.code y_S_stepFrom b_S_stepFrom 2 none :: GW) ({ frames := 2, cells := 0, slots := 0, locals := 45 }) (va_Pc [.ref h, .ref x.1] (at1 D ty N0 sz (scell h cn (hdO (pre ++ x :: suf) none) (some x.1) f v w z :: chG (pre ++ x :: suf) none))) (va_Qv (fun ws' => ws' = scell h cn (hdO (pre ++ stX f x suf :: stS x suf) none) (hdO (stS x suf) none) (stF f x suf) v (w + nI (stW x suf)) (if stS x suf = [] then z + 1 else z) :: chG (pre ++ stX f x suf :: stS x suf) none) (at2 D ty (va_A (scell h cn (hdO (pre ++ x :: suf) none) (some x.1) f v w z :: chG (pre ++ x :: suf) none) sz)) (va_A (scell h cn (hdO (pre ++ x :: suf) none) (some x.1) f v w z :: chG (pre ++ x :: suf) none) sz)) 0 0 (va_A (scell h cn (hdO (pre ++ x :: suf) none) (some x.1) f v w z :: chG (pre ++ x :: suf) none) sz) := by
  refine Met.ofW (cc := b_S_stepFrom) (maxL := 2) (ret := none) (by decide) rfl ?_
  intro p e s m args below meth c s₁ B hml hv
  obtain ⟨rfl, hsz, hN0, ⟨hP, hK, hN⟩, hD0, hE⟩ := hv
  subst hsz
  have hD := hD0.self (sz := s.heap.size)
  have hAN := sw_AN hD0 hN0
  generalize hAe : va_A (scell h cn (hdO (pre ++ x :: suf) none) (some x.1) f v w z :: chG (pre ++ x :: suf) none) s.heap.size = A at hD hAN ⊢
  have hA : ∀ q : Nat, s.heap.size ≤ q → A q := fun q h => by rw [← hAe]; exact Or.inr h
  have hS : va_S A s.heap s.heap [] := va_S.rf
  have hP : va_P D classes (scell h cn (hdO (pre ++ x :: suf) none) (some x.1) f v w z :: chG (pre ++ x :: suf) none) s.heap := hP
  have hx := B.exec
  have hb := B.bytes
  have hr := B.returns
  have hg : ∀ w ∈ GW, w.before _ s = true := fun w h => atoms_spec (ws := Cond.code y_S_stepFrom b_S_stepFrom 2 none :: GW) B.pre w (List.mem_cons_of_mem _ h)
  have hown : s.vm.findClass R_S = some m.cls := findClass_of_methodNamed B.named
  have hlocks := B.notSynchronized
  have hl := lv_entry ([.ref h, .ref x.1]) (n := 2) (Nat.le_of_ble_eq_true rfl)
  rw [lg_entry_eq]
  generalize (lg_sl ([.ref h, .ref x.1]) ++ List.replicate (2 - (lg_sl ([.ref h, .ref x.1])).length) Slot.unset).toArray = ls at hl ⊢
  replace hl : lv_has ls 2 [(0, .ref h), (1, .ref x.1)] := hl
  have hx9 := chG_at (scell h cn (hdO (pre ++ x :: suf) none) (some x.1) f v w z) pre x suf none
  refine lv_aload_n hx hb d_S_stepFrom_0 rfl (lv_at hl 1 rfl) ?_
  refine vp_callSi (va_runVN (As := []) (rest := []) ⟨hx, hb, hml, hown, hg⟩ (c_P_isKeptBySweep l D ty _ (pre.length + 1) x (hdO suf none) hx9) ⟨va_cnB 0 hg (gw_c gw_318) rfl rfl rfl (hN.2.1 (135, y_P_isKeptBySweep) (by decide +kernel)) (hg _ gw_27) (by decide +kernel) ⟨Nat.le_of_ble_eq_true rfl, Nat.le_of_ble_eq_true rfl⟩, hg _ gw_317, hg _ gw_12⟩ (pre_roV hP hK hN (ci := 1) rfl hx9) rfl rfl hl.1 rfl (lv_room (Nat.le_of_ble_eq_true rfl)) d_S_stepFrom_1 ⟨Nat.le_of_ble_eq_true rfl, Nat.le_of_ble_eq_true rfl⟩).run (fun rk hrk => ?_)
  refine lv_if_eq (tgt := 15) hx hb d_S_stepFrom_4 (by decide) (fun c_4 => ?_) (fun c_4 => ?_)
  · have hkx : isKp x = false := bI_0.mp (by rw [← hrk]; exact c_4)
    refine lv_aload_n hx hb d_S_stepFrom_15 rfl (lv_at hl 0 rfl) ?_
    refine lv_aload_n hx hb d_S_stepFrom_16 rfl (lv_at hl 1 rfl) ?_
    have hFc := sw_free hD hS hA
    refine va_callv (va_runV (As := [.ref x.1]) (rest := []) ⟨hx, hb, hml, hown, hg⟩ (c_S_gatherFrom l D ty N0 _ h cn (hdO (pre ++ x :: suf) none) (some x.1) f v w z pre suf x) (cwV 1 hg (gw_V gw_319 gw_321 gw_13 gw_26 gw_322) rfl rfl rfl (by decide +kernel) ⟨Nat.le_of_ble_eq_true rfl, Nat.le_of_ble_eq_true rfl⟩) (pre_wrV hP hK hN hD hS hAN hN0 hE (ci := 0) (k := 0) rfl rfl) rfl rfl hl.1 rfl (lv_room (Nat.le_of_ble_eq_true rfl)) d_S_stepFrom_17 ⟨Nat.le_of_ble_eq_true rfl, Nat.le_of_ble_eq_true rfl⟩) hS (fun q _ h => hFc q h) hFc (fun u t H locs ht hvm hw hB hz1 hk1 hS => ?_)
    obtain ⟨hP, hK1, hD1⟩ := hB
    rw [ht] at hP
    have hD := hD1.weaken (fun _ _ _ h => hFc _ h)
    clear hK1 hD1 hFc hk1 hz1
    subst hw
    have hgx : (x.1, (gaX f x suf).2) = gaX f x suf := by rw [← gaX_a f x suf]
    obtain ⟨xd, hxd⟩ : ∃ q, q = (gaX f x suf).2 := ⟨_, rfl⟩
    rw [← hxd] at hgx
    rw [← hgx, chG_mid] at hP hD
    replace hP : va_P D classes ((h, .inr (0, [.int (nI cn), va_rf (hdO (pre ++ x :: suf) none), va_rf (some x.1), .long (lN (gaF f x suf)), .int v, .int (w + nI (gaW x suf)), .int z])) :: ((chG pre (some x.1)) ++ ((x.1, .inr (1, [.int (nI xd.1), .int (nI xd.2.1), .int (bI xd.2.2.1), .int (bI xd.2.2.2.1), .long (lN xd.2.2.2.2), va_rf (hdO (gaR suf) none)])) :: chG (gaR suf) none))) _ := hP
    replace hD : va_D A ((h, .inr (0, [.int (nI cn), va_rf (hdO (pre ++ x :: suf) none), va_rf (some x.1), .long (lN (gaF f x suf)), .int v, .int (w + nI (gaW x suf)), .int z])) :: ((chG pre (some x.1)) ++ ((x.1, .inr (1, [.int (nI xd.1), .int (nI xd.2.1), .int (bI xd.2.2.1), .int (bI xd.2.2.2.1), .long (lN xd.2.2.2.2), va_rf (hdO (gaR suf) none)])) :: chG (gaR suf) none))) := hD
    refine lv_aload_n hx hb d_S_stepFrom_20 rfl (lv_at hl 0 rfl) ?_
    refine lv_aload_n hx hb d_S_stepFrom_21 rfl (lv_at hl 1 rfl) ?_
    refine va_getN (D := D) (ci := 1) (v := va_rf (hdO (gaR suf) none)) (C := R_P) (T := F_P) (N := 6) hx hb hg gi_P hown hK hP ((chG pre (some x.1)).length + 1) (sw_get1 _ _ _ _) rfl 5 (by decide) (va_Nw.use rfl (hN.1 (69, "next", "LSweepHand$Piece;") (by decide))) (fun _ h9 => h9) rfl d_S_stepFrom_22 ?_
    refine va_put (D := D) (ci := 0) (v := va_rf (hdO (gaR suf) none)) (ty := .object "SweepHand$Piece") (C := R_S) (T := F_S) (N := 7) hx hb hg gi_S t_S t_S_ok n_S hown hK hP hD hS 0 rfl rfl 2 (by decide) (hg _ gw_83) (fun _ h9 => h9) rfl (by decide +kernel) (sv_nar _ _) (sv_fit _ _) (Nat.le_of_ble_eq_true rfl) d_S_stepFrom_25 (fun H locs hP hD hS => ?_)
    replace hP : va_P D classes ((h, .inr (0, [.int (nI cn), va_rf (hdO (pre ++ x :: suf) none), va_rf (hdO (gaR suf) none), .long (lN (gaF f x suf)), .int v, .int (w + nI (gaW x suf)), .int z])) :: ((chG pre (some x.1)) ++ ((x.1, .inr (1, [.int (nI xd.1), .int (nI xd.2.1), .int (bI xd.2.2.1), .int (bI xd.2.2.2.1), .long (lN xd.2.2.2.2), va_rf (hdO (gaR suf) none)])) :: chG (gaR suf) none))) _ := hP
    replace hD : va_D A ((h, .inr (0, [.int (nI cn), va_rf (hdO (pre ++ x :: suf) none), va_rf (hdO (gaR suf) none), .long (lN (gaF f x suf)), .int v, .int (w + nI (gaW x suf)), .int z])) :: ((chG pre (some x.1)) ++ ((x.1, .inr (1, [.int (nI xd.1), .int (nI xd.2.1), .int (bI xd.2.2.1), .int (bI xd.2.2.2.1), .long (lN xd.2.2.2.2), va_rf (hdO (gaR suf) none)])) :: chG (gaR suf) none))) := hD
    refine lv_aload_n hx hb d_S_stepFrom_28 rfl (lv_at hl 0 rfl) ?_
    refine va_get (D := D) (ci := 0) (v := va_rf (hdO (gaR suf) none)) (C := R_S) (T := F_S) (N := 7) hx hb hg gi_S hown hK hP 0 rfl rfl 2 (by decide) (hg _ gw_83) (fun _ h9 => h9) rfl d_S_stepFrom_29 ?_
    refine sv_ifnonnull (tgt := 45) hx hb d_S_stepFrom_32 (by decide) (fun y0 c_32 => ?_) (fun c_32 => ?_)
    · have hne : ¬ gaR suf = [] := fun h9 => by rw [h9] at c_32; cases c_32
      refine W.widen (k := 0) (n := 0) (Nat.le_of_ble_eq_true rfl) (Nat.le_of_ble_eq_true rfl) ?_
      exact W.vret hx hb hr (fun t ht hW => ⟨⟨_, rfl, (by unfold stX stS stF stW; rw [hkx]; show _ = scell h cn (hdO (pre ++ gaX f x suf :: gaR suf) none) (hdO (gaR suf) none) (gaF f x suf) v (w + nI (gaW x suf)) (if gaR suf = [] then z + 1 else z) :: chG (pre ++ gaX f x suf :: gaR suf) none; rw [if_neg hne, ← hgx, chG_mid, hdO_mid pre x (x.1, xd) suf (gaR suf) none none rfl]; rfl), at2.of hP hK hD ht hW⟩, hS.F ht⟩) hS.2.2 d_S_stepFrom_45
    · have hne : gaR suf = [] := hdO_none.mp c_32
      refine lv_aload_n hx hb d_S_stepFrom_35 rfl (lv_at hl 0 rfl) ?_
      refine lv_dup hx hb d_S_stepFrom_36 rfl ?_
      refine va_get (D := D) (ci := 0) (v := .int z) (C := R_S) (T := F_S) (N := 7) hx hb hg gi_S hown hK hP 0 rfl rfl 6 (by decide) (hg _ gw_87) (fun _ h9 => h9) rfl d_S_stepFrom_37 ?_
      refine lv_iconst (v := 1) hx hb d_S_stepFrom_40 (by decide) ?_
      refine lv_iadd hx hb d_S_stepFrom_41 ?_
      refine va_put (D := D) (ci := 0) (v := .int (z + 1)) (ty := .int) (C := R_S) (T := F_S) (N := 7) hx hb hg gi_S t_S t_S_ok n_S hown hK hP hD hS 0 rfl rfl 6 (by decide) (hg _ gw_87) (fun _ h9 => h9) rfl (by decide +kernel) rfl rfl (Nat.le_of_ble_eq_true rfl) d_S_stepFrom_42 (fun H locs hP hD hS => ?_)
      replace hP : va_P D classes ((h, .inr (0, [.int (nI cn), va_rf (hdO (pre ++ x :: suf) none), va_rf (hdO (gaR suf) none), .long (lN (gaF f x suf)), .int v, .int (w + nI (gaW x suf)), .int (z + 1)])) :: ((chG pre (some x.1)) ++ ((x.1, .inr (1, [.int (nI xd.1), .int (nI xd.2.1), .int (bI xd.2.2.1), .int (bI xd.2.2.2.1), .long (lN xd.2.2.2.2), va_rf (hdO (gaR suf) none)])) :: chG (gaR suf) none))) _ := hP
      replace hD : va_D A ((h, .inr (0, [.int (nI cn), va_rf (hdO (pre ++ x :: suf) none), va_rf (hdO (gaR suf) none), .long (lN (gaF f x suf)), .int v, .int (w + nI (gaW x suf)), .int (z + 1)])) :: ((chG pre (some x.1)) ++ ((x.1, .inr (1, [.int (nI xd.1), .int (nI xd.2.1), .int (bI xd.2.2.1), .int (bI xd.2.2.2.1), .long (lN xd.2.2.2.2), va_rf (hdO (gaR suf) none)])) :: chG (gaR suf) none))) := hD
      refine W.widen (k := 0) (n := 0) (Nat.le_of_ble_eq_true rfl) (Nat.le_of_ble_eq_true rfl) ?_
      exact W.vret hx hb hr (fun t ht hW => ⟨⟨_, rfl, (by unfold stX stS stF stW; rw [hkx]; show _ = scell h cn (hdO (pre ++ gaX f x suf :: gaR suf) none) (hdO (gaR suf) none) (gaF f x suf) v (w + nI (gaW x suf)) (if gaR suf = [] then z + 1 else z) :: chG (pre ++ gaX f x suf :: gaR suf) none; rw [if_pos hne, ← hgx, chG_mid, hdO_mid pre x (x.1, xd) suf (gaR suf) none none rfl]; rfl), at2.of hP hK hD ht hW⟩, hS.F ht⟩) hS.2.2 d_S_stepFrom_45
  · have hkx : isKp x = true := bI_n0.mp (by rw [← hrk]; exact c_4)
    rw [chG_mid] at hP hD
    replace hP : va_P D classes ((h, .inr (0, [.int (nI cn), va_rf (hdO (pre ++ x :: suf) none), va_rf (some x.1), .long (lN f), .int v, .int w, .int z])) :: ((chG pre (some x.1)) ++ ((x.1, .inr (1, [.int (nI x.2.1), .int (nI x.2.2.1), .int (bI x.2.2.2.1), .int (bI x.2.2.2.2.1), .long (lN x.2.2.2.2.2), va_rf (hdO suf none)])) :: chG suf none))) _ := hP
    replace hD : va_D A ((h, .inr (0, [.int (nI cn), va_rf (hdO (pre ++ x :: suf) none), va_rf (some x.1), .long (lN f), .int v, .int w, .int z])) :: ((chG pre (some x.1)) ++ ((x.1, .inr (1, [.int (nI x.2.1), .int (nI x.2.2.1), .int (bI x.2.2.2.1), .int (bI x.2.2.2.2.1), .long (lN x.2.2.2.2.2), va_rf (hdO suf none)])) :: chG suf none))) := hD
    refine lv_aload_n hx hb d_S_stepFrom_7 rfl (lv_at hl 1 rfl) ?_
    refine lv_iconst (v := 0) hx hb d_S_stepFrom_8 (by decide) ?_
    refine va_putN (D := D) (ci := 1) (v := .int 0) (ty := .boolean) (C := R_P) (T := F_P) (N := 6) hx hb hg gi_P t_P t_P_ok n_P hown hK hP hD hS ((chG pre (some x.1)).length + 1) (sw_get1 _ _ _ _) rfl 3 (by decide) (va_Nw.use rfl (hN.1 (50, "marked", "Z") (by decide))) (fun _ h9 => h9) rfl (by decide +kernel) rfl rfl (Nat.le_of_ble_eq_true rfl) d_S_stepFrom_9 (fun H locs hP hD hS => ?_)
    rw [sw_set1] at hP hD
    replace hP : va_P D classes ((h, .inr (0, [.int (nI cn), va_rf (hdO (pre ++ x :: suf) none), va_rf (some x.1), .long (lN f), .int v, .int w, .int z])) :: ((chG pre (some x.1)) ++ ((x.1, .inr (1, [.int (nI x.2.1), .int (nI x.2.2.1), .int (bI x.2.2.2.1), .int 0, .long (lN x.2.2.2.2.2), va_rf (hdO suf none)])) :: chG suf none))) _ := hP
    replace hD : va_D A ((h, .inr (0, [.int (nI cn), va_rf (hdO (pre ++ x :: suf) none), va_rf (some x.1), .long (lN f), .int v, .int w, .int z])) :: ((chG pre (some x.1)) ++ ((x.1, .inr (1, [.int (nI x.2.1), .int (nI x.2.2.1), .int (bI x.2.2.2.1), .int 0, .long (lN x.2.2.2.2.2), va_rf (hdO suf none)])) :: chG suf none))) := hD
    refine lv_goto (tgt := 20) hx hb d_S_stepFrom_12 (by decide) ?_
    refine lv_aload_n hx hb d_S_stepFrom_20 rfl (lv_at hl 0 rfl) ?_
    refine lv_aload_n hx hb d_S_stepFrom_21 rfl (lv_at hl 1 rfl) ?_
    refine va_getN (D := D) (ci := 1) (v := va_rf (hdO suf none)) (C := R_P) (T := F_P) (N := 6) hx hb hg gi_P hown hK hP ((chG pre (some x.1)).length + 1) (sw_get1 _ _ _ _) rfl 5 (by decide) (va_Nw.use rfl (hN.1 (69, "next", "LSweepHand$Piece;") (by decide))) (fun _ h9 => h9) rfl d_S_stepFrom_22 ?_
    refine va_put (D := D) (ci := 0) (v := va_rf (hdO suf none)) (ty := .object "SweepHand$Piece") (C := R_S) (T := F_S) (N := 7) hx hb hg gi_S t_S t_S_ok n_S hown hK hP hD hS 0 rfl rfl 2 (by decide) (hg _ gw_83) (fun _ h9 => h9) rfl (by decide +kernel) (sv_nar _ _) (sv_fit _ _) (Nat.le_of_ble_eq_true rfl) d_S_stepFrom_25 (fun H locs hP hD hS => ?_)
    replace hP : va_P D classes ((h, .inr (0, [.int (nI cn), va_rf (hdO (pre ++ x :: suf) none), va_rf (hdO suf none), .long (lN f), .int v, .int w, .int z])) :: ((chG pre (some x.1)) ++ ((x.1, .inr (1, [.int (nI x.2.1), .int (nI x.2.2.1), .int (bI x.2.2.2.1), .int 0, .long (lN x.2.2.2.2.2), va_rf (hdO suf none)])) :: chG suf none))) _ := hP
    replace hD : va_D A ((h, .inr (0, [.int (nI cn), va_rf (hdO (pre ++ x :: suf) none), va_rf (hdO suf none), .long (lN f), .int v, .int w, .int z])) :: ((chG pre (some x.1)) ++ ((x.1, .inr (1, [.int (nI x.2.1), .int (nI x.2.2.1), .int (bI x.2.2.2.1), .int 0, .long (lN x.2.2.2.2.2), va_rf (hdO suf none)])) :: chG suf none))) := hD
    refine lv_aload_n hx hb d_S_stepFrom_28 rfl (lv_at hl 0 rfl) ?_
    refine va_get (D := D) (ci := 0) (v := va_rf (hdO suf none)) (C := R_S) (T := F_S) (N := 7) hx hb hg gi_S hown hK hP 0 rfl rfl 2 (by decide) (hg _ gw_83) (fun _ h9 => h9) rfl d_S_stepFrom_29 ?_
    refine sv_ifnonnull (tgt := 45) hx hb d_S_stepFrom_32 (by decide) (fun y0 c_32 => ?_) (fun c_32 => ?_)
    · have hne : ¬ suf = [] := fun h9 => by rw [h9] at c_32; cases c_32
      refine W.widen (k := 0) (n := 0) (Nat.le_of_ble_eq_true rfl) (Nat.le_of_ble_eq_true rfl) ?_
      exact W.vret hx hb hr (fun t ht hW => ⟨⟨_, rfl, (by unfold stX stS stF stW; rw [hkx]; show _ = scell h cn (hdO (pre ++ (x.1, x.2.1, x.2.2.1, x.2.2.2.1, false, x.2.2.2.2.2) :: suf) none) (hdO suf none) f v (w + nI 0) (if suf = [] then z + 1 else z) :: chG (pre ++ (x.1, x.2.1, x.2.2.1, x.2.2.2.1, false, x.2.2.2.2.2) :: suf) none; rw [if_neg hne, chG_mid, hdO_mid pre x (x.1, x.2.1, x.2.2.1, x.2.2.2.1, false, x.2.2.2.2.2) suf suf none none rfl, nI_0, Int32.add_zero]; rfl), at2.of hP hK hD ht hW⟩, hS.F ht⟩) hS.2.2 d_S_stepFrom_45
    · have hne : suf = [] := hdO_none.mp c_32
      refine lv_aload_n hx hb d_S_stepFrom_35 rfl (lv_at hl 0 rfl) ?_
      refine lv_dup hx hb d_S_stepFrom_36 rfl ?_
      refine va_get (D := D) (ci := 0) (v := .int z) (C := R_S) (T := F_S) (N := 7) hx hb hg gi_S hown hK hP 0 rfl rfl 6 (by decide) (hg _ gw_87) (fun _ h9 => h9) rfl d_S_stepFrom_37 ?_
      refine lv_iconst (v := 1) hx hb d_S_stepFrom_40 (by decide) ?_
      refine lv_iadd hx hb d_S_stepFrom_41 ?_
      refine va_put (D := D) (ci := 0) (v := .int (z + 1)) (ty := .int) (C := R_S) (T := F_S) (N := 7) hx hb hg gi_S t_S t_S_ok n_S hown hK hP hD hS 0 rfl rfl 6 (by decide) (hg _ gw_87) (fun _ h9 => h9) rfl (by decide +kernel) rfl rfl (Nat.le_of_ble_eq_true rfl) d_S_stepFrom_42 (fun H locs hP hD hS => ?_)
      replace hP : va_P D classes ((h, .inr (0, [.int (nI cn), va_rf (hdO (pre ++ x :: suf) none), va_rf (hdO suf none), .long (lN f), .int v, .int w, .int (z + 1)])) :: ((chG pre (some x.1)) ++ ((x.1, .inr (1, [.int (nI x.2.1), .int (nI x.2.2.1), .int (bI x.2.2.2.1), .int 0, .long (lN x.2.2.2.2.2), va_rf (hdO suf none)])) :: chG suf none))) _ := hP
      replace hD : va_D A ((h, .inr (0, [.int (nI cn), va_rf (hdO (pre ++ x :: suf) none), va_rf (hdO suf none), .long (lN f), .int v, .int w, .int (z + 1)])) :: ((chG pre (some x.1)) ++ ((x.1, .inr (1, [.int (nI x.2.1), .int (nI x.2.2.1), .int (bI x.2.2.2.1), .int 0, .long (lN x.2.2.2.2.2), va_rf (hdO suf none)])) :: chG suf none))) := hD
      refine W.widen (k := 0) (n := 0) (Nat.le_of_ble_eq_true rfl) (Nat.le_of_ble_eq_true rfl) ?_
      exact W.vret hx hb hr (fun t ht hW => ⟨⟨_, rfl, (by unfold stX stS stF stW; rw [hkx]; show _ = scell h cn (hdO (pre ++ (x.1, x.2.1, x.2.2.1, x.2.2.2.1, false, x.2.2.2.2.2) :: suf) none) (hdO suf none) f v (w + nI 0) (if suf = [] then z + 1 else z) :: chG (pre ++ (x.1, x.2.1, x.2.2.1, x.2.2.2.1, false, x.2.2.2.2.2) :: suf) none; rw [if_pos hne, chG_mid, hdO_mid pre x (x.1, x.2.1, x.2.2.1, x.2.2.2.1, false, x.2.2.2.2.2) suf suf none none rfl, nI_0, Int32.add_zero]; rfl), at2.of hP hK hD ht hW⟩, hS.F ht⟩) hS.2.2 d_S_stepFrom_45
