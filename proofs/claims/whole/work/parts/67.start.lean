set_option maxHeartbeats 4000000 in
set_option maxRecDepth 100000 in
theorem whole_start {p : Program} {e : Env} {s : State} {m : MethodId} {below : List Frame} {meth : Method} {c : Code} (l : Launch) (hl9 : l.stackTraces = false) {b L : Nat} {xs : Nat → Int32} (hL : L ≤ 1024) (C0 : lw_At p s m meth c b L xs) : W p l e room_1 s m #[Value.ref b] below meth c s.heap [] 0 0 (lw_Z below #[Value.ref b] s) (entryFrame m ([Value.ref b] : List Value).toArray 7) := by
  obtain ⟨hx, hb, hr, hml, hown, hts, hX, hbl, hlocks, hgv⟩ := id C0
  have hown : s.vm.findClass R_L = some m.cls := hown
  have hg := lw_hg hts
  have hN := lw_NW hts hgv
  have hE := lw_EV hts hgv
  have hA : ∀ q : Nat, s.heap.size ≤ q → (fun q : Nat => s.heap.size ≤ q) q := fun _ h => h
  have hAN : ∀ q : Nat, (fun q : Nat => s.heap.size ≤ q) q → s.heap.size ≤ q := fun _ h => h
  have hN0 := Nat.le_refl s.heap.size
  obtain ⟨c0, iS0, hKn0⟩ := u_known (C := R_S) (T := F_S) (N := 7) (n := 7) hg gi_S (hg _ gw_36)
  obtain ⟨c1, iS1, hKn1⟩ := u_known (C := R_P) (T := F_P) (N := 6) (n := 6) hg gi_P (hg _ gw_48)
  obtain ⟨c2, iS2, hKn2⟩ := u_known (C := R_M) (T := F_M) (N := 10) (n := 10) hg gi_M (hg _ gw_347)
  obtain ⟨D, hKc⟩ : ∃ (D : va_G), ∀ (k : Nat) (q : vw_C), classes[k]? = some q → u_Kn s q.1 q.2.1 q.2.2 (D.1 k) (D.2 k) := by
    refine ⟨(fun k => if k = 0 then c0 else if k = 1 then c1 else c2, fun k => if k = 0 then iS0 else if k = 1 then iS1 else iS2), ?_⟩
    intro k q hq
    match k, hq with
    | 0, hq => cases hq; exact hKn0
    | 1, hq => cases hq; exact hKn1
    | 2, hq => cases hq; exact hKn2
    | k + 3, hq => simp [classes] at hq
  have hS : va_S (fun q : Nat => s.heap.size ≤ q) s.heap s.heap [] := va_S.rf
  have hK : va_K D classes [] s := ⟨hKc, fun k q h => by simp at h⟩
  have hP : va_P D classes [] s.heap := fun k q h => by simp at h
  have hD : va_D (fun q : Nat => s.heap.size ≤ q) [] := ⟨fun i j p q h => by simp at h, fun k q h => by simp at h⟩
  have hl := lv_entry ([.ref b]) (n := 7) (Nat.le_of_ble_eq_true rfl)
  rw [lg_entry_eq]
  generalize (lg_sl ([.ref b]) ++ List.replicate (7 - (lg_sl ([.ref b])).length) Slot.unset).toArray = ls at hl ⊢
  replace hl : lv_has ls 7 [(0, .ref b)] := hl
  refine va_new (ci := 0) (fs := [.int 0, .null, .null, .long 0, .int 0, .int 0, .int 0]) (C := R_S) (T := F_S) (N := 7) hx hb hg gi_S t_S t_S_ok hown (hg _ gw_35) (hg _ gw_36) (hg _ gw_26) hK hP hD hS hA rfl (fun j hj => by rcases (show j = 0 ∨ j = 1 ∨ j = 2 ∨ j = 3 ∨ j = 4 ∨ j = 5 ∨ j = 6 by omega) with rfl | rfl | rfl | rfl | rfl | rfl | rfl <;> rfl) (Nat.le_of_ble_eq_true rfl) (Nat.le_of_ble_eq_true rfl) d_L_law_0 (fun h H hP hD hS => ?_)
  replace hP : va_P D classes [(h, .inr (0, [.int 0, .null, .null, .long 0, .int 0, .int 0, .int 0]))] H := hP
  replace hD : va_D (fun q : Nat => s.heap.size ≤ q) [(h, .inr (0, [.int 0, .null, .null, .long 0, .int 0, .int 0, .int 0]))] := hD
  refine W.widen (k := 1) (n := 7) (Nat.le_of_ble_eq_true rfl) (Nat.le_of_ble_eq_true rfl) ?_
  refine lv_dup hx hb d_L_law_3 rfl ?_
  have hFc := sw_free hD hS hA
  refine va_callv (va_runI (As := []) (rest := [.ref h]) ⟨hx, hb, hml, hown, hg⟩ (c_S_init l D [] s.heap.size _ h) (cwI 0 hg (gw_c gw_39) rfl rfl rfl (hg _ gw_26) (hg _ gw_37) (hg _ gw_38) rfl (by decide +kernel) ⟨Nat.le_of_ble_eq_true rfl, Nat.le_of_ble_eq_true rfl⟩) (pre_wrS hP hK hN hD hS hAN hN0 hE) rfl rfl hl.1 rfl (lv_room (Nat.le_of_ble_eq_true rfl)) d_L_law_4 ⟨Nat.le_of_ble_eq_true rfl, Nat.le_of_ble_eq_true rfl⟩) hS (fun q _ h => hFc q h) hFc (fun u t H locs ht hvm hw hB hz1 hk1 hS => ?_)
  obtain ⟨hP, hK1, hD1⟩ := hB
  rw [ht] at hP
  have hD := hD1.weaken (fun _ _ _ h => hFc _ h)
  obtain ⟨q1, rfl⟩ := hw
  clear hK1 hD1 hk1 hz1 hFc ht hvm
  replace hP : va_P D classes (cW h 1024 1 0 0 0 [(q1, 1, 1024, false, false, 1)] []) H := hP
  replace hD : va_D (fun q : Nat => s.heap.size ≤ q) (cW h 1024 1 0 0 0 [(q1, 1, 1024, false, false, 1)] []) := hD
  refine W.widen (k := 2) (n := 13) (Nat.le_of_ble_eq_true rfl) (Nat.le_of_ble_eq_true rfl) ?_
  refine lv_astore_n (lv' := [(1, .ref h), (0, .ref b)]) hx hb d_L_law_7 rfl hl (by decide) rfl (fun ls hl => ?_)
  refine va_new (ci := 2) (fs := [.int 0, .int 0, .null, .null, .null, .int 0, .int 0, .int 0, .int 0, .int 0]) (C := R_M) (T := F_M) (N := 10) hx hb hg gi_M t_M t_M_ok hown (hg _ gw_346) (hg _ gw_347) (hg _ gw_28) hK hP hD hS hA rfl (fun j hj => by rcases (show j = 0 ∨ j = 1 ∨ j = 2 ∨ j = 3 ∨ j = 4 ∨ j = 5 ∨ j = 6 ∨ j = 7 ∨ j = 8 ∨ j = 9 by omega) with rfl | rfl | rfl | rfl | rfl | rfl | rfl | rfl | rfl | rfl <;> rfl) (Nat.le_of_ble_eq_true rfl) (Nat.le_of_ble_eq_true rfl) d_L_law_8 (fun hm H hP hD hS => ?_)
  refine W.widen (k := 3) (n := 23) (Nat.le_of_ble_eq_true rfl) (Nat.le_of_ble_eq_true rfl) ?_
  refine lv_dup hx hb d_L_law_11 rfl ?_
  have hFc := sw_freeR hD hS hA
  have hPo := hP
  have hDo := hD
  refine va_callv (va_runI (As := []) (rest := [.ref hm]) ⟨hx, hb, hml, hown, hg⟩ (c_M_init l D s.heap.size _ hm) (cwI 0 hg (gw_c gw_350) rfl rfl rfl (hg _ gw_28) (hg _ gw_348) (hg _ gw_349) rfl (by decide +kernel) ⟨Nat.le_of_ble_eq_true rfl, Nat.le_of_ble_eq_true rfl⟩) (pre_wrS (sw_PR hP) hK hN (sw_DR hD) hS hAN hN0 hE) rfl rfl hl.1 rfl (lv_room (Nat.le_of_ble_eq_true rfl)) d_L_law_12 ⟨Nat.le_of_ble_eq_true rfl, Nat.le_of_ble_eq_true rfl⟩) hS (fun q _ h => hFc q h) hFc (fun u t H locs ht hvm hw hB hz1 hk1 hS => ?_)
  obtain ⟨hP1, hK1, hD1⟩ := hB
  rw [ht] at hP1
  have hK2 := va_K.moved hvm.symm hK1
  obtain ⟨hP, hD⟩ := sw_join hPo hDo hk1 hFc hP1 hD1
  obtain ⟨⟨qs, qt, qm⟩, ⟨cI, cJ, cZ⟩, za, ta, ka⟩ := u
  replace hK : va_K D classes [(cI, .int), (cJ, .int), (cZ, .boolean)] s := hK2
  replace hw : ∀ q : Nat, Inv 1024 1 0 [(q, 1, 1024, false, false, 1)] za ta ka := hw
  replace hP : va_P D classes (cW h 1024 1 0 0 0 [(q1, 1, 1024, false, false, 1)] [] ++ mW hm qs qt qm cI cJ cZ 0 1024 0 0 0 0 0 za ta ka) H := hP
  replace hD : va_D (fun q : Nat => s.heap.size ≤ q) (cW h 1024 1 0 0 0 [(q1, 1, 1024, false, false, 1)] [] ++ mW hm qs qt qm cI cJ cZ 0 1024 0 0 0 0 0 za ta ka) := hD
  clear hPo hDo hP1 hK1 hD1 hk1 hz1 hFc ht hvm hK2
  refine W.widen (k := 6) (n := 49181) (Nat.le_of_ble_eq_true rfl) (Nat.le_of_ble_eq_true rfl) ?_
  refine lv_astore_n (lv' := [(2, .ref hm), (1, .ref h), (0, .ref b)]) hx hb d_L_law_15 rfl hl (by decide) rfl (fun ls hl => ?_)
  refine lv_iconst (v := 1) hx hb d_L_law_16 (by decide) ?_
  refine va_newa (atype := .long) (ty := .long) (a0 := (1, .inr (.inl (fun _ => 0)))) (N' := 1) hx hb (hg _ gw_469) rfl hK hP hD hS hA (fun _ => rfl) (by decide) (by decide) (by decide) (Nat.le_of_ble_eq_true rfl) (Nat.le_of_ble_eq_true rfl) d_L_law_17 (fun qo cL H hK hP hD hS => ?_)
  replace hK : va_K D classes [(cI, .int), (cJ, .int), (cZ, .boolean), (cL, .long)] s := hK
  have hpm : ((cW h 1024 1 0 0 0 [(q1, 1, 1024, false, false, 1)] [] ++ mW hm qs qt qm cI cJ cZ 0 1024 0 0 0 0 0 za ta ka) ++ oW qo cL (fun _ => 0)).Perm (mW hm qs qt qm cI cJ cZ 0 1024 0 0 0 0 0 za ta ka ++ (oW qo cL (fun _ => 0) ++ cW h 1024 1 0 0 0 [(q1, 1, 1024, false, false, 1)] [])) := by
    rw [List.append_assoc, ← List.append_assoc (mW hm qs qt qm cI cJ cZ 0 1024 0 0 0 0 0 za ta ka)]
    exact List.perm_append_comm
  replace hP := sw_P_perm hP hpm
  replace hD := sw_D_perm2 hD hpm
  refine W.widen (k := 7) (n := 49182) (Nat.le_of_ble_eq_true rfl) (Nat.le_of_ble_eq_true rfl) ?_
  refine lv_astore_n (lv' := [(3, .ref qo), (2, .ref hm), (1, .ref h), (0, .ref b)]) hx hb d_L_law_19 rfl hl (by decide) rfl (fun ls hl => ?_)
  refine lv_iconst (v := 0) hx hb d_L_law_20 (by decide) ?_
  refine lv_istore (lv' := [(4, .int 0), (3, .ref qo), (2, .ref hm), (1, .ref h), (0, .ref b)]) hx hb d_L_law_21 hl (by decide) rfl (fun ls hl => ?_)
  exact law_loop hl9 C0 hL hK hN hE (L + 1) 0 (Nat.zero_le L) (by omega) 1024 1 0 0 0 0 [(q1, 1, 1024, false, false, 1)] [] za ta ka 0 (fun _ => 0) _ _ ls ⟨hw q1, fun x hx => by cases List.mem_singleton.mp hx; exact ⟨Nat.le_refl 1, fun _ => Nat.le_refl 1⟩, fun hs => absurd rfl hs, Nat.le_refl 1⟩ (by decide) (Nat.zero_le _) hP hD hS (lv_sub hl [4, 3, 2, 1, 0] rfl)
