set_option maxHeartbeats 4000000 in
set_option maxRecDepth 100000 in
theorem c_P_init (l : Launch) (D : va_G) (ty : tyL) (N0 sz : Nat) (ws : va_W) (q b n : Nat) (nx : Option Nat) : Met l y_P_init (Cond.code y_P_init b_P_init 4 none :: GW) ({ frames := 1, cells := 0, slots := 0, locals := 12 }) (va_Pc [.ref q, .int (nI b), .int (nI n), va_rf nx] (at1 D ty N0 sz (ws ++ [(q, .inr (1, [.int 0, .int 0, .int 0, .int 0, .long 0, .null]))]))) (va_Qv (fun ws' => ws' = ws ++ [pcell (q, b, n, false, false, 0) nx]) (at2 D ty (va_A (ws ++ [(q, .inr (1, [.int 0, .int 0, .int 0, .int 0, .long 0, .null]))]) sz)) (va_A (ws ++ [(q, .inr (1, [.int 0, .int 0, .int 0, .int 0, .long 0, .null]))]) sz)) 0 0 (va_A (ws ++ [(q, .inr (1, [.int 0, .int 0, .int 0, .int 0, .long 0, .null]))]) sz) := by
  refine Met.ofW (cc := b_P_init) (maxL := 4) (ret := none) (by decide) rfl ?_
  intro p e s m args below meth c s₁ B hml hv
  obtain ⟨rfl, hsz, hN0, ⟨hP, hK, hN⟩, hD0, hE⟩ := hv
  subst hsz
  have hD := hD0.self (sz := s.heap.size)
  have hAN := sw_AN hD0 hN0
  generalize hAe : va_A (ws ++ [(q, .inr (1, [.int 0, .int 0, .int 0, .int 0, .long 0, .null]))]) s.heap.size = A at hD hAN ⊢
  have hA : ∀ q : Nat, s.heap.size ≤ q → A q := fun q h => by rw [← hAe]; exact Or.inr h
  have hS : va_S A s.heap s.heap [] := va_S.rf
  have hP : va_P D classes (ws ++ [(q, .inr (1, [.int 0, .int 0, .int 0, .int 0, .long 0, .null]))]) s.heap := hP
  have hx := B.exec
  have hb := B.bytes
  have hr := B.returns
  have hg : ∀ w ∈ GW, w.before _ s = true := fun w h => atoms_spec (ws := Cond.code y_P_init b_P_init 4 none :: GW) B.pre w (List.mem_cons_of_mem _ h)
  have hown : s.vm.findClass R_P = some m.cls := findClass_of_methodNamed B.named
  have hlocks := B.notSynchronized
  have hin : meth.name = "<init>" := (name_of_methodNamed B.named B.method).1
  rcases nx with _ | a
  · have hl := lv_entry ([.ref q, .int (nI b), .int (nI n), va_rf none]) (n := 4) (Nat.le_of_ble_eq_true rfl)
    rw [lg_entry_eq]
    generalize (lg_sl ([.ref q, .int (nI b), .int (nI n), va_rf none]) ++ List.replicate (4 - (lg_sl ([.ref q, .int (nI b), .int (nI n), va_rf none])).length) Slot.unset).toArray = ls at hl ⊢
    replace hl : lv_has ls 4 [(0, .ref q), (1, .int (nI b)), (2, .int (nI n)), (3, va_rf none)] := hl
    replace hl : lv_has ls 4 [(0, .ref q), (1, .int (nI b)), (2, .int (nI n)), (3, .null)] := hl
    refine lv_aload_n hx hb d_P_init_0 rfl (lv_at hl 0 rfl) ?_
    refine W.objInit hx hb hown (hg _ gw_52) (hg _ gw_41) (hg _ gw_42) rfl (by rw [hml]; exact hl.1) rfl d_P_init_1 (Nat.le_of_ble_eq_true rfl) (Nat.le_of_ble_eq_true rfl) ?_
    refine W.eq (g2 := F0 m 4 ls []) rfl ?_
    refine lv_aload_n hx hb d_P_init_4 rfl (lv_at hl 0 rfl) ?_
    refine lv_iload_n hx hb d_P_init_5 rfl (lv_at hl 1 rfl) ?_
    refine va_putF (D := D) (ci := 1) (v := .int (nI b)) (ty := .int) (C := R_P) (T := F_P) (N := 6) hx hb hg gi_P t_P t_P_ok n_P hown hK hP hD hS ws.length (sw_get_mid _ _ _) rfl 0 (by decide) (hg _ gw_53) (fun _ h9 => h9) rfl hin rfl (by decide +kernel) rfl rfl (Nat.le_of_ble_eq_true rfl) d_P_init_6 (fun H locs hP hD hS => ?_)
    rw [sw_set_mid] at hP hD
    replace hP : va_P D classes ((ws ++ [(q, .inr (1, [.int (nI b), .int 0, .int 0, .int 0, .long 0, .null]))])) _ := hP
    replace hD : va_D A ((ws ++ [(q, .inr (1, [.int (nI b), .int 0, .int 0, .int 0, .long 0, .null]))])) := hD
    refine lv_aload_n hx hb d_P_init_9 rfl (lv_at hl 0 rfl) ?_
    refine lv_iload_n hx hb d_P_init_10 rfl (lv_at hl 2 rfl) ?_
    refine va_put (D := D) (ci := 1) (v := .int (nI n)) (ty := .int) (C := R_P) (T := F_P) (N := 6) hx hb hg gi_P t_P t_P_ok n_P hown hK hP hD hS ws.length (sw_get_mid _ _ _) rfl 1 (by decide) (hg _ gw_55) (fun _ h9 => h9) rfl (by decide +kernel) rfl rfl (Nat.le_of_ble_eq_true rfl) d_P_init_11 (fun H locs hP hD hS => ?_)
    rw [sw_set_mid] at hP hD
    replace hP : va_P D classes ((ws ++ [(q, .inr (1, [.int (nI b), .int (nI n), .int 0, .int 0, .long 0, .null]))])) _ := hP
    replace hD : va_D A ((ws ++ [(q, .inr (1, [.int (nI b), .int (nI n), .int 0, .int 0, .long 0, .null]))])) := hD
    refine lv_aload_n hx hb d_P_init_14 rfl (lv_at hl 0 rfl) ?_
    refine lv_aload_nN hx hb d_P_init_15 rfl (lv_at hl 3 rfl) ?_
    refine va_put (D := D) (ci := 1) (v := .null) (ty := .object "SweepHand$Piece") (C := R_P) (T := F_P) (N := 6) hx hb hg gi_P t_P t_P_ok n_P hown hK hP hD hS ws.length (sw_get_mid _ _ _) rfl 5 (by decide) (hg _ gw_62) (fun _ h9 => h9) rfl (by decide +kernel) rfl rfl (Nat.le_of_ble_eq_true rfl) d_P_init_16 (fun H locs hP hD hS => ?_)
    rw [sw_set_mid] at hP hD
    replace hP : va_P D classes ((ws ++ [(q, .inr (1, [.int (nI b), .int (nI n), .int 0, .int 0, .long 0, .null]))])) _ := hP
    replace hD : va_D A ((ws ++ [(q, .inr (1, [.int (nI b), .int (nI n), .int 0, .int 0, .long 0, .null]))])) := hD
    refine W.widen (k := 0) (n := 0) (Nat.le_of_ble_eq_true rfl) (Nat.le_of_ble_eq_true rfl) ?_
    exact W.vret hx hb hr (fun t ht hW => ⟨⟨_, rfl, rfl, at2.of hP hK hD ht hW⟩, hS.F ht⟩) hS.2.2 d_P_init_19
  · have hl := lv_entry ([.ref q, .int (nI b), .int (nI n), va_rf (some a)]) (n := 4) (Nat.le_of_ble_eq_true rfl)
    rw [lg_entry_eq]
    generalize (lg_sl ([.ref q, .int (nI b), .int (nI n), va_rf (some a)]) ++ List.replicate (4 - (lg_sl ([.ref q, .int (nI b), .int (nI n), va_rf (some a)])).length) Slot.unset).toArray = ls at hl ⊢
    replace hl : lv_has ls 4 [(0, .ref q), (1, .int (nI b)), (2, .int (nI n)), (3, va_rf (some a))] := hl
    replace hl : lv_has ls 4 [(0, .ref q), (1, .int (nI b)), (2, .int (nI n)), (3, .ref a)] := hl
    refine lv_aload_n hx hb d_P_init_0 rfl (lv_at hl 0 rfl) ?_
    refine W.objInit hx hb hown (hg _ gw_52) (hg _ gw_41) (hg _ gw_42) rfl (by rw [hml]; exact hl.1) rfl d_P_init_1 (Nat.le_of_ble_eq_true rfl) (Nat.le_of_ble_eq_true rfl) ?_
    refine W.eq (g2 := F0 m 4 ls []) rfl ?_
    refine lv_aload_n hx hb d_P_init_4 rfl (lv_at hl 0 rfl) ?_
    refine lv_iload_n hx hb d_P_init_5 rfl (lv_at hl 1 rfl) ?_
    refine va_putF (D := D) (ci := 1) (v := .int (nI b)) (ty := .int) (C := R_P) (T := F_P) (N := 6) hx hb hg gi_P t_P t_P_ok n_P hown hK hP hD hS ws.length (sw_get_mid _ _ _) rfl 0 (by decide) (hg _ gw_53) (fun _ h9 => h9) rfl hin rfl (by decide +kernel) rfl rfl (Nat.le_of_ble_eq_true rfl) d_P_init_6 (fun H locs hP hD hS => ?_)
    rw [sw_set_mid] at hP hD
    replace hP : va_P D classes ((ws ++ [(q, .inr (1, [.int (nI b), .int 0, .int 0, .int 0, .long 0, .null]))])) _ := hP
    replace hD : va_D A ((ws ++ [(q, .inr (1, [.int (nI b), .int 0, .int 0, .int 0, .long 0, .null]))])) := hD
    refine lv_aload_n hx hb d_P_init_9 rfl (lv_at hl 0 rfl) ?_
    refine lv_iload_n hx hb d_P_init_10 rfl (lv_at hl 2 rfl) ?_
    refine va_put (D := D) (ci := 1) (v := .int (nI n)) (ty := .int) (C := R_P) (T := F_P) (N := 6) hx hb hg gi_P t_P t_P_ok n_P hown hK hP hD hS ws.length (sw_get_mid _ _ _) rfl 1 (by decide) (hg _ gw_55) (fun _ h9 => h9) rfl (by decide +kernel) rfl rfl (Nat.le_of_ble_eq_true rfl) d_P_init_11 (fun H locs hP hD hS => ?_)
    rw [sw_set_mid] at hP hD
    replace hP : va_P D classes ((ws ++ [(q, .inr (1, [.int (nI b), .int (nI n), .int 0, .int 0, .long 0, .null]))])) _ := hP
    replace hD : va_D A ((ws ++ [(q, .inr (1, [.int (nI b), .int (nI n), .int 0, .int 0, .long 0, .null]))])) := hD
    refine lv_aload_n hx hb d_P_init_14 rfl (lv_at hl 0 rfl) ?_
    refine lv_aload_n hx hb d_P_init_15 rfl (lv_at hl 3 rfl) ?_
    refine va_put (D := D) (ci := 1) (v := .ref a) (ty := .object "SweepHand$Piece") (C := R_P) (T := F_P) (N := 6) hx hb hg gi_P t_P t_P_ok n_P hown hK hP hD hS ws.length (sw_get_mid _ _ _) rfl 5 (by decide) (hg _ gw_62) (fun _ h9 => h9) rfl (by decide +kernel) rfl rfl (Nat.le_of_ble_eq_true rfl) d_P_init_16 (fun H locs hP hD hS => ?_)
    rw [sw_set_mid] at hP hD
    replace hP : va_P D classes ((ws ++ [(q, .inr (1, [.int (nI b), .int (nI n), .int 0, .int 0, .long 0, .ref a]))])) _ := hP
    replace hD : va_D A ((ws ++ [(q, .inr (1, [.int (nI b), .int (nI n), .int 0, .int 0, .long 0, .ref a]))])) := hD
    refine W.widen (k := 0) (n := 0) (Nat.le_of_ble_eq_true rfl) (Nat.le_of_ble_eq_true rfl) ?_
    exact W.vret hx hb hr (fun t ht hW => ⟨⟨_, rfl, rfl, at2.of hP hK hD ht hW⟩, hS.F ht⟩) hS.2.2 d_P_init_19
set_option maxHeartbeats 4000000 in
set_option maxRecDepth 100000 in
theorem c_S_comeToBeFree (l : Launch) (D : va_G) (ty : tyL) (N0 sz : Nat) (h cn : Nat) (fi ha : Option Nat) (f : Nat) (v w z : Int32) (A1 B1 : va_W) (x : AP) (nx : Option Nat) : Met l y_S_comeToBeFree (Cond.code y_S_comeToBeFree b_S_comeToBeFree 2 none :: GW) ({ frames := 0, cells := 0, slots := 0, locals := 0 }) (va_Pc [.ref h, .ref x.1] (at1 D ty N0 sz (scell h cn fi ha f v w z :: (A1 ++ pcell x nx :: B1)))) (va_Qv (fun ws' => ws' = scell h cn fi ha (f + 1) v w z :: (A1 ++ pcell (x.1, x.2.1, x.2.2.1, false, false, f + 1) nx :: B1)) (at2 D ty (va_A (scell h cn fi ha f v w z :: (A1 ++ pcell x nx :: B1)) sz)) (va_A (scell h cn fi ha f v w z :: (A1 ++ pcell x nx :: B1)) sz)) 0 0 (va_A (scell h cn fi ha f v w z :: (A1 ++ pcell x nx :: B1)) sz) := by
  refine Met.ofW (cc := b_S_comeToBeFree) (maxL := 2) (ret := none) (by decide) rfl ?_
  intro p e s m args below meth c s₁ B hml hv
  obtain ⟨rfl, hsz, hN0, ⟨hP, hK, hN⟩, hD0, hE⟩ := hv
  subst hsz
  have hD := hD0.self (sz := s.heap.size)
  have hAN := sw_AN hD0 hN0
  generalize hAe : va_A (scell h cn fi ha f v w z :: (A1 ++ pcell x nx :: B1)) s.heap.size = A at hD hAN ⊢
  have hA : ∀ q : Nat, s.heap.size ≤ q → A q := fun q h => by rw [← hAe]; exact Or.inr h
  have hS : va_S A s.heap s.heap [] := va_S.rf
  have hP : va_P D classes (scell h cn fi ha f v w z :: (A1 ++ pcell x nx :: B1)) s.heap := hP
  have hx := B.exec
  have hb := B.bytes
  have hr := B.returns
  have hg : ∀ w ∈ GW, w.before _ s = true := fun w h => atoms_spec (ws := Cond.code y_S_comeToBeFree b_S_comeToBeFree 2 none :: GW) B.pre w (List.mem_cons_of_mem _ h)
  have hown : s.vm.findClass R_S = some m.cls := findClass_of_methodNamed B.named
  have hlocks := B.notSynchronized
  have hl := lv_entry ([.ref h, .ref x.1]) (n := 2) (Nat.le_of_ble_eq_true rfl)
  rw [lg_entry_eq]
  generalize (lg_sl ([.ref h, .ref x.1]) ++ List.replicate (2 - (lg_sl ([.ref h, .ref x.1])).length) Slot.unset).toArray = ls at hl ⊢
  replace hl : lv_has ls 2 [(0, .ref h), (1, .ref x.1)] := hl
  replace hP : va_P D classes ((h, .inr (0, [.int (nI cn), va_rf fi, va_rf ha, .long (lN f), .int v, .int w, .int z])) :: (A1 ++ ((x.1, .inr (1, [.int (nI x.2.1), .int (nI x.2.2.1), .int (bI x.2.2.2.1), .int (bI x.2.2.2.2.1), .long (lN x.2.2.2.2.2), va_rf nx])) :: B1))) _ := hP
  replace hD : va_D A ((h, .inr (0, [.int (nI cn), va_rf fi, va_rf ha, .long (lN f), .int v, .int w, .int z])) :: (A1 ++ ((x.1, .inr (1, [.int (nI x.2.1), .int (nI x.2.2.1), .int (bI x.2.2.2.1), .int (bI x.2.2.2.2.1), .long (lN x.2.2.2.2.2), va_rf nx])) :: B1))) := hD
  refine lv_aload_n hx hb d_S_comeToBeFree_0 rfl (lv_at hl 1 rfl) ?_
  refine lv_iconst (v := 0) hx hb d_S_comeToBeFree_1 (by decide) ?_
  refine va_putN (D := D) (ci := 1) (v := .int 0) (ty := .boolean) (C := R_P) (T := F_P) (N := 6) hx hb hg gi_P t_P t_P_ok n_P hown hK hP hD hS (A1.length + 1) (sw_get1 _ _ _ _) rfl 2 (by decide) (va_Nw.use rfl (hN.1 (37, "used", "Z") (by decide))) (fun _ h9 => h9) rfl (by decide +kernel) rfl rfl (Nat.le_of_ble_eq_true rfl) d_S_comeToBeFree_2 (fun H locs hP hD hS => ?_)
  rw [sw_set1] at hP hD
  replace hP : va_P D classes ((h, .inr (0, [.int (nI cn), va_rf fi, va_rf ha, .long (lN f), .int v, .int w, .int z])) :: (A1 ++ ((x.1, .inr (1, [.int (nI x.2.1), .int (nI x.2.2.1), .int 0, .int (bI x.2.2.2.2.1), .long (lN x.2.2.2.2.2), va_rf nx])) :: B1))) _ := hP
  replace hD : va_D A ((h, .inr (0, [.int (nI cn), va_rf fi, va_rf ha, .long (lN f), .int v, .int w, .int z])) :: (A1 ++ ((x.1, .inr (1, [.int (nI x.2.1), .int (nI x.2.2.1), .int 0, .int (bI x.2.2.2.2.1), .long (lN x.2.2.2.2.2), va_rf nx])) :: B1))) := hD
  refine lv_aload_n hx hb d_S_comeToBeFree_5 rfl (lv_at hl 1 rfl) ?_
  refine lv_iconst (v := 0) hx hb d_S_comeToBeFree_6 (by decide) ?_
  refine va_putN (D := D) (ci := 1) (v := .int 0) (ty := .boolean) (C := R_P) (T := F_P) (N := 6) hx hb hg gi_P t_P t_P_ok n_P hown hK hP hD hS (A1.length + 1) (sw_get1 _ _ _ _) rfl 3 (by decide) (va_Nw.use rfl (hN.1 (50, "marked", "Z") (by decide))) (fun _ h9 => h9) rfl (by decide +kernel) rfl rfl (Nat.le_of_ble_eq_true rfl) d_S_comeToBeFree_7 (fun H locs hP hD hS => ?_)
  rw [sw_set1] at hP hD
  replace hP : va_P D classes ((h, .inr (0, [.int (nI cn), va_rf fi, va_rf ha, .long (lN f), .int v, .int w, .int z])) :: (A1 ++ ((x.1, .inr (1, [.int (nI x.2.1), .int (nI x.2.2.1), .int 0, .int 0, .long (lN x.2.2.2.2.2), va_rf nx])) :: B1))) _ := hP
  replace hD : va_D A ((h, .inr (0, [.int (nI cn), va_rf fi, va_rf ha, .long (lN f), .int v, .int w, .int z])) :: (A1 ++ ((x.1, .inr (1, [.int (nI x.2.1), .int (nI x.2.2.1), .int 0, .int 0, .long (lN x.2.2.2.2.2), va_rf nx])) :: B1))) := hD
  refine lv_aload_n hx hb d_S_comeToBeFree_10 rfl (lv_at hl 0 rfl) ?_
  refine lv_dup hx hb d_S_comeToBeFree_11 rfl ?_
  refine va_get (D := D) (ci := 0) (v := .long (lN f)) (C := R_S) (T := F_S) (N := 7) hx hb hg gi_S hown hK hP 0 rfl rfl 3 (by decide) (hg _ gw_84) (fun _ h9 => h9) rfl d_S_comeToBeFree_12 ?_
  refine lv_lconst (v := 1) hx hb d_S_comeToBeFree_15 (by decide) ?_
  refine lv_ladd hx hb d_S_comeToBeFree_16 ?_
  refine lv_topl (fun y1 ey1 => ?_)
  obtain rfl : y1 = lN (f + 1) := ey1.trans (lN_1 f)
  clear ey1
  refine va_put (D := D) (ci := 0) (v := .long (lN (f + 1))) (ty := .long) (C := R_S) (T := F_S) (N := 7) hx hb hg gi_S t_S t_S_ok n_S hown hK hP hD hS 0 rfl rfl 3 (by decide) (hg _ gw_84) (fun _ h9 => h9) rfl (by decide +kernel) rfl rfl (Nat.le_of_ble_eq_true rfl) d_S_comeToBeFree_17 (fun H locs hP hD hS => ?_)
  replace hP : va_P D classes ((h, .inr (0, [.int (nI cn), va_rf fi, va_rf ha, .long (lN (f + 1)), .int v, .int w, .int z])) :: (A1 ++ ((x.1, .inr (1, [.int (nI x.2.1), .int (nI x.2.2.1), .int 0, .int 0, .long (lN x.2.2.2.2.2), va_rf nx])) :: B1))) _ := hP
  replace hD : va_D A ((h, .inr (0, [.int (nI cn), va_rf fi, va_rf ha, .long (lN (f + 1)), .int v, .int w, .int z])) :: (A1 ++ ((x.1, .inr (1, [.int (nI x.2.1), .int (nI x.2.2.1), .int 0, .int 0, .long (lN x.2.2.2.2.2), va_rf nx])) :: B1))) := hD
  refine lv_aload_n hx hb d_S_comeToBeFree_20 rfl (lv_at hl 1 rfl) ?_
  refine lv_aload_n hx hb d_S_comeToBeFree_21 rfl (lv_at hl 0 rfl) ?_
  refine va_get (D := D) (ci := 0) (v := .long (lN (f + 1))) (C := R_S) (T := F_S) (N := 7) hx hb hg gi_S hown hK hP 0 rfl rfl 3 (by decide) (hg _ gw_84) (fun _ h9 => h9) rfl d_S_comeToBeFree_22 ?_
  refine va_putN (D := D) (ci := 1) (v := .long (lN (f + 1))) (ty := .long) (C := R_P) (T := F_P) (N := 6) hx hb hg gi_P t_P t_P_ok n_P hown hK hP hD hS (A1.length + 1) (sw_get1 _ _ _ _) rfl 4 (by decide) (va_Nw.use rfl (hN.1 (114, "freedAt", "J") (by decide))) (fun _ h9 => h9) rfl (by decide +kernel) rfl rfl (Nat.le_of_ble_eq_true rfl) d_S_comeToBeFree_25 (fun H locs hP hD hS => ?_)
  rw [sw_set1] at hP hD
  replace hP : va_P D classes ((h, .inr (0, [.int (nI cn), va_rf fi, va_rf ha, .long (lN (f + 1)), .int v, .int w, .int z])) :: (A1 ++ ((x.1, .inr (1, [.int (nI x.2.1), .int (nI x.2.2.1), .int 0, .int 0, .long (lN (f + 1)), va_rf nx])) :: B1))) _ := hP
  replace hD : va_D A ((h, .inr (0, [.int (nI cn), va_rf fi, va_rf ha, .long (lN (f + 1)), .int v, .int w, .int z])) :: (A1 ++ ((x.1, .inr (1, [.int (nI x.2.1), .int (nI x.2.2.1), .int 0, .int 0, .long (lN (f + 1)), va_rf nx])) :: B1))) := hD
  refine W.widen (k := 0) (n := 0) (Nat.le_of_ble_eq_true rfl) (Nat.le_of_ble_eq_true rfl) ?_
  exact W.vret hx hb hr (fun t ht hW => ⟨⟨_, rfl, rfl, at2.of hP hK hD ht hW⟩, hS.F ht⟩) hS.2.2 d_S_comeToBeFree_28
set_option maxHeartbeats 4000000 in
set_option maxRecDepth 100000 in
theorem c_S_startAnew (l : Launch) (D : va_G) (ty : tyL) (N0 sz : Nat) (h cn : Nat) (fi ha : Option Nat) (f : Nat) (v w z : Int32) (R1 : va_W) (n : Nat) : Met l y_S_startAnew (Cond.code y_S_startAnew b_S_startAnew 2 none :: GW) ({ frames := 2, cells := 1, slots := 6, locals := 35 }) (va_Pc [.ref h, .int (nI n)] (at1 D ty N0 sz (scell h cn fi ha f v w z :: R1))) (va_Qv (fun ws' => ∃ q : Nat, ws' = [scell h n (some q) none 1 0 0 0, pcell (q, 1, n, false, false, 1) none]) (at2 D ty (va_A (scell h cn fi ha f v w z :: R1) sz)) (va_A (scell h cn fi ha f v w z :: R1) sz)) 1 6 (va_A (scell h cn fi ha f v w z :: R1) sz) := by
  refine Met.ofW (cc := b_S_startAnew) (maxL := 2) (ret := none) (by decide) rfl ?_
  intro p e s m args below meth c s₁ B hml hv
  obtain ⟨rfl, hsz, hN0, ⟨hP, hK, hN⟩, hD0, hE⟩ := hv
  subst hsz
  have hD := hD0.self (sz := s.heap.size)
  have hAN := sw_AN hD0 hN0
  generalize hAe : va_A (scell h cn fi ha f v w z :: R1) s.heap.size = A at hD hAN ⊢
  have hA : ∀ q : Nat, s.heap.size ≤ q → A q := fun q h => by rw [← hAe]; exact Or.inr h
  have hS : va_S A s.heap s.heap [] := va_S.rf
  have hP : va_P D classes (scell h cn fi ha f v w z :: R1) s.heap := hP
  have hx := B.exec
  have hb := B.bytes
  have hr := B.returns
  have hg : ∀ w ∈ GW, w.before _ s = true := fun w h => atoms_spec (ws := Cond.code y_S_startAnew b_S_startAnew 2 none :: GW) B.pre w (List.mem_cons_of_mem _ h)
  have hown : s.vm.findClass R_S = some m.cls := findClass_of_methodNamed B.named
  have hlocks := B.notSynchronized
  have hl := lv_entry ([.ref h, .int (nI n)]) (n := 2) (Nat.le_of_ble_eq_true rfl)
  rw [lg_entry_eq]
  generalize (lg_sl ([.ref h, .int (nI n)]) ++ List.replicate (2 - (lg_sl ([.ref h, .int (nI n)])).length) Slot.unset).toArray = ls at hl ⊢
  replace hl : lv_has ls 2 [(0, .ref h), (1, .int (nI n))] := hl
  replace hP : va_P D classes ((h, .inr (0, [.int (nI cn), va_rf fi, va_rf ha, .long (lN f), .int v, .int w, .int z])) :: R1) _ := hP
  replace hD : va_D A ((h, .inr (0, [.int (nI cn), va_rf fi, va_rf ha, .long (lN f), .int v, .int w, .int z])) :: R1) := hD
  refine lv_aload_n hx hb d_S_startAnew_0 rfl (lv_at hl 0 rfl) ?_
  refine lv_iload_n hx hb d_S_startAnew_1 rfl (lv_at hl 1 rfl) ?_
  refine va_put (D := D) (ci := 0) (v := .int (nI n)) (ty := .int) (C := R_S) (T := F_S) (N := 7) hx hb hg gi_S t_S t_S_ok n_S hown hK hP hD hS 0 rfl rfl 0 (by decide) (hg _ gw_81) (fun _ h9 => h9) rfl (by decide +kernel) rfl rfl (Nat.le_of_ble_eq_true rfl) d_S_startAnew_2 (fun H locs hP hD hS => ?_)
  replace hP : va_P D classes ((h, .inr (0, [.int (nI n), va_rf fi, va_rf ha, .long (lN f), .int v, .int w, .int z])) :: R1) _ := hP
  replace hD : va_D A ((h, .inr (0, [.int (nI n), va_rf fi, va_rf ha, .long (lN f), .int v, .int w, .int z])) :: R1) := hD
  refine lv_aload_n hx hb d_S_startAnew_5 rfl (lv_at hl 0 rfl) ?_
  refine va_new (ci := 1) (fs := [.int 0, .int 0, .int 0, .int 0, .long 0, .null]) (C := R_P) (T := F_P) (N := 6) hx hb hg gi_P t_P t_P_ok hown (hg _ gw_47) (hg _ gw_48) (hg _ gw_27) hK hP hD hS hA rfl (fun j hj => by rcases (show j = 0 ∨ j = 1 ∨ j = 2 ∨ j = 3 ∨ j = 4 ∨ j = 5 by omega) with rfl | rfl | rfl | rfl | rfl | rfl <;> rfl) (Nat.le_of_ble_eq_true rfl) (Nat.le_of_ble_eq_true rfl) d_S_startAnew_6 (fun q H hP hD hS => ?_)
  refine W.widen (k := 1) (n := 6) (Nat.le_of_ble_eq_true rfl) (Nat.le_of_ble_eq_true rfl) ?_
  refine lv_dup hx hb d_S_startAnew_9 rfl ?_
  refine lv_iconst (v := 1) hx hb d_S_startAnew_10 (by decide) ?_
  refine lv_iload_n hx hb d_S_startAnew_11 rfl (lv_at hl 1 rfl) ?_
  refine lv_null hx hb d_S_startAnew_12 ?_
  have hFc := sw_free hD hS hA
  refine va_callv (va_runIN (As := [.int 1, .int (nI n), .null]) (rest := [.ref q, .ref h]) ⟨hx, hb, hml, hown, hg⟩ (c_P_init l D ty N0 _ ((h, .inr (0, [.int (nI n), va_rf fi, va_rf ha, .long (lN f), .int v, .int w, .int z])) :: R1) q 1 n none) ⟨va_cnB 3 hg (gw_c gw_51) rfl rfl rfl (hN.2.1 (107, y_P_init) (by decide +kernel)) (hg _ gw_27) (by decide +kernel) ⟨Nat.le_of_ble_eq_true rfl, Nat.le_of_ble_eq_true rfl⟩, rfl, hg _ gw_50⟩ (pre_wrS hP hK hN hD hS hAN hN0 hE) rfl rfl hl.1 rfl (lv_room (Nat.le_of_ble_eq_true rfl)) d_S_startAnew_13 ⟨Nat.le_of_ble_eq_true rfl, Nat.le_of_ble_eq_true rfl⟩) hS (fun q _ h => hFc q h) hFc (fun u t H locs ht hvm hw hB hz1 hk1 hS => ?_)
  obtain ⟨hP, hK1, hD1⟩ := hB
  rw [ht] at hP
  have hD := hD1.weaken (fun _ _ _ h => hFc _ h)
  clear hK1 hD1 hFc hk1 hz1
  subst hw
  replace hD := sw_D_sub2 hD (sw_new0 _ _ _)
  replace hP := sw_P_sub hP (sw_new0 _ _ _)
  replace hP : va_P D classes ((h, .inr (0, [.int (nI n), va_rf fi, va_rf ha, .long (lN f), .int v, .int w, .int z])) :: [(q, .inr (1, [.int (nI 1), .int (nI n), .int (bI false), .int (bI false), .long (lN 0), va_rf none]))]) _ := hP
  replace hD : va_D A ((h, .inr (0, [.int (nI n), va_rf fi, va_rf ha, .long (lN f), .int v, .int w, .int z])) :: [(q, .inr (1, [.int (nI 1), .int (nI n), .int (bI false), .int (bI false), .long (lN 0), va_rf none]))]) := hD
  refine W.widen (k := 1) (n := 6) (Nat.le_of_ble_eq_true rfl) (Nat.le_of_ble_eq_true rfl) ?_
  refine va_put (D := D) (ci := 0) (v := .ref q) (ty := .object "SweepHand$Piece") (C := R_S) (T := F_S) (N := 7) hx hb hg gi_S t_S t_S_ok n_S hown hK hP hD hS 0 rfl rfl 1 (by decide) (hg _ gw_82) (fun _ h9 => h9) rfl (by decide +kernel) rfl rfl (Nat.le_of_ble_eq_true rfl) d_S_startAnew_16 (fun H locs hP hD hS => ?_)
  replace hP : va_P D classes ((h, .inr (0, [.int (nI n), .ref q, va_rf ha, .long (lN f), .int v, .int w, .int z])) :: [(q, .inr (1, [.int (nI 1), .int (nI n), .int (bI false), .int (bI false), .long (lN 0), va_rf none]))]) _ := hP
  replace hD : va_D A ((h, .inr (0, [.int (nI n), .ref q, va_rf ha, .long (lN f), .int v, .int w, .int z])) :: [(q, .inr (1, [.int (nI 1), .int (nI n), .int (bI false), .int (bI false), .long (lN 0), va_rf none]))]) := hD
  refine lv_aload_n hx hb d_S_startAnew_19 rfl (lv_at hl 0 rfl) ?_
  refine lv_null hx hb d_S_startAnew_20 ?_
  refine va_put (D := D) (ci := 0) (v := .null) (ty := .object "SweepHand$Piece") (C := R_S) (T := F_S) (N := 7) hx hb hg gi_S t_S t_S_ok n_S hown hK hP hD hS 0 rfl rfl 2 (by decide) (hg _ gw_83) (fun _ h9 => h9) rfl (by decide +kernel) rfl rfl (Nat.le_of_ble_eq_true rfl) d_S_startAnew_21 (fun H locs hP hD hS => ?_)
  replace hP : va_P D classes ((h, .inr (0, [.int (nI n), .ref q, .null, .long (lN f), .int v, .int w, .int z])) :: [(q, .inr (1, [.int (nI 1), .int (nI n), .int (bI false), .int (bI false), .long (lN 0), va_rf none]))]) _ := hP
  replace hD : va_D A ((h, .inr (0, [.int (nI n), .ref q, .null, .long (lN f), .int v, .int w, .int z])) :: [(q, .inr (1, [.int (nI 1), .int (nI n), .int (bI false), .int (bI false), .long (lN 0), va_rf none]))]) := hD
  refine lv_aload_n hx hb d_S_startAnew_24 rfl (lv_at hl 0 rfl) ?_
  refine lv_lconst (v := 0) hx hb d_S_startAnew_25 (by decide) ?_
  refine va_put (D := D) (ci := 0) (v := .long 0) (ty := .long) (C := R_S) (T := F_S) (N := 7) hx hb hg gi_S t_S t_S_ok n_S hown hK hP hD hS 0 rfl rfl 3 (by decide) (hg _ gw_84) (fun _ h9 => h9) rfl (by decide +kernel) rfl rfl (Nat.le_of_ble_eq_true rfl) d_S_startAnew_26 (fun H locs hP hD hS => ?_)
  replace hP : va_P D classes ((h, .inr (0, [.int (nI n), .ref q, .null, .long 0, .int v, .int w, .int z])) :: [(q, .inr (1, [.int (nI 1), .int (nI n), .int (bI false), .int (bI false), .long (lN 0), va_rf none]))]) _ := hP
  replace hD : va_D A ((h, .inr (0, [.int (nI n), .ref q, .null, .long 0, .int v, .int w, .int z])) :: [(q, .inr (1, [.int (nI 1), .int (nI n), .int (bI false), .int (bI false), .long (lN 0), va_rf none]))]) := hD
  refine lv_aload_n hx hb d_S_startAnew_29 rfl (lv_at hl 0 rfl) ?_
  refine lv_iconst (v := 0) hx hb d_S_startAnew_30 (by decide) ?_
  refine va_put (D := D) (ci := 0) (v := .int 0) (ty := .int) (C := R_S) (T := F_S) (N := 7) hx hb hg gi_S t_S t_S_ok n_S hown hK hP hD hS 0 rfl rfl 4 (by decide) (hg _ gw_85) (fun _ h9 => h9) rfl (by decide +kernel) rfl rfl (Nat.le_of_ble_eq_true rfl) d_S_startAnew_31 (fun H locs hP hD hS => ?_)
  replace hP : va_P D classes ((h, .inr (0, [.int (nI n), .ref q, .null, .long 0, .int 0, .int w, .int z])) :: [(q, .inr (1, [.int (nI 1), .int (nI n), .int (bI false), .int (bI false), .long (lN 0), va_rf none]))]) _ := hP
  replace hD : va_D A ((h, .inr (0, [.int (nI n), .ref q, .null, .long 0, .int 0, .int w, .int z])) :: [(q, .inr (1, [.int (nI 1), .int (nI n), .int (bI false), .int (bI false), .long (lN 0), va_rf none]))]) := hD
  refine lv_aload_n hx hb d_S_startAnew_34 rfl (lv_at hl 0 rfl) ?_
  refine lv_iconst (v := 0) hx hb d_S_startAnew_35 (by decide) ?_
  refine va_put (D := D) (ci := 0) (v := .int 0) (ty := .int) (C := R_S) (T := F_S) (N := 7) hx hb hg gi_S t_S t_S_ok n_S hown hK hP hD hS 0 rfl rfl 5 (by decide) (hg _ gw_86) (fun _ h9 => h9) rfl (by decide +kernel) rfl rfl (Nat.le_of_ble_eq_true rfl) d_S_startAnew_36 (fun H locs hP hD hS => ?_)
  replace hP : va_P D classes ((h, .inr (0, [.int (nI n), .ref q, .null, .long 0, .int 0, .int 0, .int z])) :: [(q, .inr (1, [.int (nI 1), .int (nI n), .int (bI false), .int (bI false), .long (lN 0), va_rf none]))]) _ := hP
  replace hD : va_D A ((h, .inr (0, [.int (nI n), .ref q, .null, .long 0, .int 0, .int 0, .int z])) :: [(q, .inr (1, [.int (nI 1), .int (nI n), .int (bI false), .int (bI false), .long (lN 0), va_rf none]))]) := hD
  refine lv_aload_n hx hb d_S_startAnew_39 rfl (lv_at hl 0 rfl) ?_
  refine lv_iconst (v := 0) hx hb d_S_startAnew_40 (by decide) ?_
  refine va_put (D := D) (ci := 0) (v := .int 0) (ty := .int) (C := R_S) (T := F_S) (N := 7) hx hb hg gi_S t_S t_S_ok n_S hown hK hP hD hS 0 rfl rfl 6 (by decide) (hg _ gw_87) (fun _ h9 => h9) rfl (by decide +kernel) rfl rfl (Nat.le_of_ble_eq_true rfl) d_S_startAnew_41 (fun H locs hP hD hS => ?_)
  replace hP : va_P D classes ((h, .inr (0, [.int (nI n), .ref q, .null, .long 0, .int 0, .int 0, .int 0])) :: [(q, .inr (1, [.int (nI 1), .int (nI n), .int (bI false), .int (bI false), .long (lN 0), va_rf none]))]) _ := hP
  replace hD : va_D A ((h, .inr (0, [.int (nI n), .ref q, .null, .long 0, .int 0, .int 0, .int 0])) :: [(q, .inr (1, [.int (nI 1), .int (nI n), .int (bI false), .int (bI false), .long (lN 0), va_rf none]))]) := hD
  refine lv_aload_n hx hb d_S_startAnew_44 rfl (lv_at hl 0 rfl) ?_
  refine lv_aload_n hx hb d_S_startAnew_45 rfl (lv_at hl 0 rfl) ?_
  refine va_get (D := D) (ci := 0) (v := .ref q) (C := R_S) (T := F_S) (N := 7) hx hb hg gi_S hown hK hP 0 rfl rfl 1 (by decide) (hg _ gw_82) (fun _ h9 => h9) rfl d_S_startAnew_46 ?_
  have hFc := sw_free hD hS hA
  refine va_callv (va_runV (As := [.ref q]) (rest := []) ⟨hx, hb, hml, hown, hg⟩ (c_S_comeToBeFree l D ty N0 _ h n (some q) none 0 0 0 0 [] [] (q, 1, n, false, false, 0) none) (cwV 1 hg (gw_V gw_77 gw_79 gw_1 gw_26 gw_80) rfl rfl rfl (by decide +kernel) ⟨Nat.le_of_ble_eq_true rfl, Nat.le_of_ble_eq_true rfl⟩) (pre_wrV hP hK hN hD hS hAN hN0 hE (ci := 0) (k := 0) rfl rfl) rfl rfl hl.1 rfl (lv_room (Nat.le_of_ble_eq_true rfl)) d_S_startAnew_49 ⟨Nat.le_of_ble_eq_true rfl, Nat.le_of_ble_eq_true rfl⟩) hS (fun q _ h => hFc q h) hFc (fun u t H locs ht hvm hw hB hz1 hk1 hS => ?_)
  obtain ⟨hP, hK1, hD1⟩ := hB
  rw [ht] at hP
  have hD := hD1.weaken (fun _ _ _ h => hFc _ h)
  clear hK1 hD1 hFc hk1 hz1
  subst hw
  refine W.widen (k := 1) (n := 6) (Nat.le_of_ble_eq_true rfl) (Nat.le_of_ble_eq_true rfl) ?_
  exact W.vret hx hb hr (fun t ht hW => ⟨⟨_, rfl, ⟨q, rfl⟩, at2.of hP hK hD ht hW⟩, hS.F ht⟩) hS.2.2 d_S_startAnew_52
set_option maxHeartbeats 4000000 in
set_option maxRecDepth 100000 in
theorem c_S_init (l : Launch) (D : va_G) (ty : tyL) (N0 sz : Nat) (h : Nat) : Met l y_S_init (Cond.code y_S_init b_S_init 1 none :: GW) ({ frames := 3, cells := 1, slots := 6, locals := 56 }) (va_Pc [.ref h] (at1 D ty N0 sz [(h, .inr (0, [.int 0, .null, .null, .long 0, .int 0, .int 0, .int 0]))])) (va_Qv (fun ws' => ∃ q : Nat, ws' = [scell h 1024 (some q) none 1 0 0 0, pcell (q, 1, 1024, false, false, 1) none]) (at2 D ty (va_A [(h, .inr (0, [.int 0, .null, .null, .long 0, .int 0, .int 0, .int 0]))] sz)) (va_A [(h, .inr (0, [.int 0, .null, .null, .long 0, .int 0, .int 0, .int 0]))] sz)) 1 6 (va_A [(h, .inr (0, [.int 0, .null, .null, .long 0, .int 0, .int 0, .int 0]))] sz) := by
  refine Met.ofW (cc := b_S_init) (maxL := 1) (ret := none) (by decide) rfl ?_
  intro p e s m args below meth c s₁ B hml hv
  obtain ⟨rfl, hsz, hN0, ⟨hP, hK, hN⟩, hD0, hE⟩ := hv
  subst hsz
  have hD := hD0.self (sz := s.heap.size)
  have hAN := sw_AN hD0 hN0
  generalize hAe : va_A [(h, .inr (0, [.int 0, .null, .null, .long 0, .int 0, .int 0, .int 0]))] s.heap.size = A at hD hAN ⊢
  have hA : ∀ q : Nat, s.heap.size ≤ q → A q := fun q h => by rw [← hAe]; exact Or.inr h
  have hS : va_S A s.heap s.heap [] := va_S.rf
  have hP : va_P D classes [(h, .inr (0, [.int 0, .null, .null, .long 0, .int 0, .int 0, .int 0]))] s.heap := hP
  have hx := B.exec
  have hb := B.bytes
  have hr := B.returns
  have hg : ∀ w ∈ GW, w.before _ s = true := fun w h => atoms_spec (ws := Cond.code y_S_init b_S_init 1 none :: GW) B.pre w (List.mem_cons_of_mem _ h)
  have hown : s.vm.findClass R_S = some m.cls := findClass_of_methodNamed B.named
  have hlocks := B.notSynchronized
  have hin : meth.name = "<init>" := (name_of_methodNamed B.named B.method).1
  have hl := lv_entry ([.ref h]) (n := 1) (Nat.le_of_ble_eq_true rfl)
  rw [lg_entry_eq]
  generalize (lg_sl ([.ref h]) ++ List.replicate (1 - (lg_sl ([.ref h])).length) Slot.unset).toArray = ls at hl ⊢
  replace hl : lv_has ls 1 [(0, .ref h)] := hl
  refine lv_aload_n hx hb d_S_init_0 rfl (lv_at hl 0 rfl) ?_
  refine W.objInit hx hb hown (hg _ gw_40) (hg _ gw_41) (hg _ gw_42) rfl (by rw [hml]; exact hl.1) rfl d_S_init_1 (Nat.le_of_ble_eq_true rfl) (Nat.le_of_ble_eq_true rfl) ?_
  refine W.eq (g2 := F0 m 4 ls []) rfl ?_
  refine lv_aload_n hx hb d_S_init_4 rfl (lv_at hl 0 rfl) ?_
  refine lv_sipush (v := 1024) hx hb d_S_init_5 (by decide) ?_
  have hFc := sw_free hD hS hA
  refine va_callv (va_runV (As := [.int 1024]) (rest := []) ⟨hx, hb, hml, hown, hg⟩ (c_S_startAnew l D ty N0 _ h 0 none none 0 0 0 0 [] 1024) (cwV 1 hg (gw_V gw_43 gw_45 gw_0 gw_26 gw_46) rfl rfl rfl (by decide +kernel) ⟨Nat.le_of_ble_eq_true rfl, Nat.le_of_ble_eq_true rfl⟩) (pre_wrV hP hK hN hD hS hAN hN0 hE (ci := 0) (k := 0) rfl rfl) rfl rfl hl.1 rfl (lv_room (Nat.le_of_ble_eq_true rfl)) d_S_init_8 ⟨Nat.le_of_ble_eq_true rfl, Nat.le_of_ble_eq_true rfl⟩) hS (fun q _ h => hFc q h) hFc (fun u t H locs ht hvm hw hB hz1 hk1 hS => ?_)
  obtain ⟨hP, hK1, hD1⟩ := hB
  rw [ht] at hP
  have hD := hD1.weaken (fun _ _ _ h => hFc _ h)
  clear hK1 hD1 hFc hk1 hz1
  refine W.widen (k := 1) (n := 6) (Nat.le_of_ble_eq_true rfl) (Nat.le_of_ble_eq_true rfl) ?_
  exact W.vret hx hb hr (fun t ht hW => ⟨⟨_, rfl, hw, at2.of hP hK hD ht hW⟩, hS.F ht⟩) hS.2.2 d_S_init_11
