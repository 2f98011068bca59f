set_option maxHeartbeats 4000000 in
set_option maxRecDepth 100000 in
theorem law_loop {p : Program} {l : Launch} {e : Env} {s : State} {m : MethodId} {below : List Frame} {meth : Method} {c : Code} {D : va_G} {b L : Nat} {xs : Nat → Int32} {h hm qs qt qm qo : Nat} {cI cJ cZ cL : ClassId} (hl9 : l.stackTraces = false) (C0 : lw_At p s m meth c b L xs) (hL : L ≤ 1024) (hK : va_K D classes [(cI, .int), (cJ, .int), (cZ, .boolean), (cL, .long)] s) (hN : NW s) (hE : EV s.heap.size s s.heap) : ∀ n cnt : Nat, 2 * cnt ≤ L → L < 2 * cnt + n → LW p l e s m below meth c D b h hm qs qt qm qo cI cJ cZ cL cnt := by
  intro n
  induction n with
  | zero => intro cnt h1 h2; exact absurd h2 (by omega)
  | succ n ih =>
    intro cnt h1 h2 cn f nw v w z p0 s0 za ta ka th o H locs ls hJ h16 hnw hP hD hS hl
    obtain ⟨hx, hb, hr, hml, hown, hts, hX, hbl, hlocks, hgv⟩ := id C0
    have hbA : ¬ (fun q : Nat => s.heap.size ≤ q) b := Nat.not_le.mpr hbl
    refine lv_iload hx hb d_L_law_23 (lv_at hl 4 rfl) ?_
    refine lv_aload_n hx hb d_L_law_25 rfl (lv_at hl 0 rfl) ?_
    refine va_slen hx hb hX hbl hbA hS d_L_law_26 ?_
    refine lv_iconst (v := 2) hx hb d_L_law_27 (by decide) ?_
    refine lv_isub hx hb d_L_law_28 ?_
    have hsub : (Int32.ofNat L - 2).toInt = (L : Int) - 2 := pk_sub_toInt (a := L) (b := 2) (by omega) (by decide)
    refine lv_icmp_gt (tgt := 593) hx hb d_L_law_29 (by decide) (fun c_29 => ?_) (fun c_29 => ?_)
    · refine lv_iconst (v := 1) hx hb d_L_law_593 (by decide) ?_
      refine va_forget (fun q hq => hS.2.2 q hq) ?_
      refine W.widen (k := 601024) (n := 7293034) (by omega) (by omega) ?_
      exact lw_ret hx hb hr hlocks d_L_law_594
    · have hc : 2 * cnt + 2 ≤ L := by
        have h9 : ¬ (Int32.ofNat L - 2).toInt < (nI (2 * cnt)).toInt := fun h9 => c_29 (Int32.lt_iff_toInt_lt.mpr h9)
        rw [hsub, nI_toInt (by omega)] at h9
        omega
      refine lv_aload_n hx hb d_L_law_32 rfl (lv_at hl 0 rfl) ?_
      refine lv_iload hx hb d_L_law_33 (lv_at hl 4 rfl) ?_
      refine va_sld hx hb hX hbl hbA hS (vp_in_nI (n := (2 * cnt)) (by omega) (by omega)) d_L_law_35 ?_
      refine lv_topi (fun y1 ey1 => ?_)
      obtain rfl : y1 = xs (2 * cnt) := ey1.trans (congrArg xs (nI_clamp (by omega)))
      clear ey1
      refine lv_bipush (v := 15) hx hb d_L_law_36 (by decide) ?_
      refine lv_iand hx hb d_L_law_38 ?_
      refine lv_topi (fun y ey => ?_)
      have hk := ih (cnt + 1) (by omega) (by omega)
      by_cases c0 : y < 0
      · refine lv_tableOut (tgt := 587) hx hb d_L_law_39 (Or.inl (by have q := Int32.lt_iff_toInt_lt.mp c0; rw [show (0 : Int32).toInt = 0 by decide] at q; exact q)) (by decide) ?_
        obtain ⟨j2, ej2⟩ : ∃ y : Int32, y = nI (2 * cnt) + 2 := ⟨_, rfl⟩
        refine lv_iinc (v := j2) (lv' := [(4, .int j2), (0, .ref b), (1, .ref h), (2, .ref hm), (3, .ref qo)]) hx hb d_L_law_587 hl (k := 4) rfl (by rw [ej2]; rfl) (by decide) rfl (fun ls hl => ?_)
        replace ej2 : j2 = nI (2 * (cnt + 1)) := ej2.trans (nI_add (2 * cnt) 2)
        subst ej2
        refine lv_goto (tgt := 23) hx hb d_L_law_590 (by decide) ?_
        refine W.widen (k := 7 + 2 * (cnt + 1)) (n := 49182 + 12 * (cnt + 1)) (by omega) (by omega) ?_
        exact hk cn f nw v w z p0 s0 za ta ka th o _ _ ls hJ h16 (by omega) hP hD hS (lv_sub hl [1, 2, 3, 4, 0] rfl)
      · by_cases c1 : y ≤ 11
        · obtain ⟨k, hk1, hk2, hyk⟩ := rng (lo := 0) (hi := 11) c0 c1 (by decide) (by decide)
          clear c0 c1
          rcases (show k = 0 ∨ k = 1 ∨ k = 2 ∨ k = 3 ∨ k = 4 ∨ k = 5 ∨ k = 6 ∨ k = 7 ∨ k = 8 ∨ k = 9 ∨ k = 10 ∨ k = 11 by omega) with rfl | rfl | rfl | rfl | rfl | rfl | rfl | rfl | rfl | rfl | rfl | rfl
          · rw [hyk]
            refine lv_tableIn (off := 61) (tgt := 100) hx hb d_L_law_39 (by decide +kernel) (by decide +kernel) (by decide +kernel) (by decide) ?_
            exact lo_space hl9 C0 hK hN hE cnt hc hL hk cn f nw v w z p0 s0 za ta ka th o H locs ls hJ h16 hnw hP hD hS hl
          · rw [hyk]
            refine lv_tableIn (off := 117) (tgt := 156) hx hb d_L_law_39 (by decide +kernel) (by decide +kernel) (by decide +kernel) (by decide) ?_
            exact lo_take hl9 C0 hK hN hE cnt hc hL hk cn f nw v w z p0 s0 za ta ka th o H locs ls hJ h16 hnw hP hD hS hl
          · rw [hyk]
            refine lv_tableIn (off := 173) (tgt := 212) hx hb d_L_law_39 (by decide +kernel) (by decide +kernel) (by decide +kernel) (by decide) ?_
            exact lo_give hl9 C0 hK hN hE cnt hc hL hk cn f nw v w z p0 s0 za ta ka th o H locs ls hJ h16 hnw hP hD hS hl
          · rw [hyk]
            refine lv_tableIn (off := 229) (tgt := 268) hx hb d_L_law_39 (by decide +kernel) (by decide +kernel) (by decide +kernel) (by decide) ?_
            exact lo_mark hl9 C0 hK hN hE cnt hc hL hk cn f nw v w z p0 s0 za ta ka th o H locs ls hJ h16 hnw hP hD hS hl
          · rw [hyk]
            refine lv_tableIn (off := 292) (tgt := 331) hx hb d_L_law_39 (by decide +kernel) (by decide +kernel) (by decide +kernel) (by decide) ?_
            exact lo_unmark hl9 C0 hK hN hE cnt hc hL hk cn f nw v w z p0 s0 za ta ka th o H locs ls hJ h16 hnw hP hD hS hl
          · rw [hyk]
            refine lv_tableIn (off := 336) (tgt := 375) hx hb d_L_law_39 (by decide +kernel) (by decide +kernel) (by decide +kernel) (by decide) ?_
            exact lo_begin hl9 C0 hK hN hE cnt hc hL hk cn f nw v w z p0 s0 za ta ka th o H locs ls hJ h16 hnw hP hD hS hl
          · rw [hyk]
            refine lv_tableIn (off := 360) (tgt := 399) hx hb d_L_law_39 (by decide +kernel) (by decide +kernel) (by decide +kernel) (by decide) ?_
            exact lo_sweep hl9 C0 hK hN hE cnt hc hL hk cn f nw v w z p0 s0 za ta ka th o H locs ls hJ h16 hnw hP hD hS hl
          · rw [hyk]
            refine lv_tableIn (off := 416) (tgt := 455) hx hb d_L_law_39 (by decide +kernel) (by decide +kernel) (by decide +kernel) (by decide) ?_
            exact lo_hand hl9 C0 hK hN hE cnt hc hL hk cn f nw v w z p0 s0 za ta ka th o H locs ls hJ h16 hnw hP hD hS hl
          · rw [hyk]
            refine lv_tableIn (off := 429) (tgt := 468) hx hb d_L_law_39 (by decide +kernel) (by decide +kernel) (by decide +kernel) (by decide) ?_
            exact lo_piece hl9 C0 hK hN hE cnt hc hL hk cn f nw v w z p0 s0 za ta ka th o H locs ls hJ h16 hnw hP hD hS hl
          · rw [hyk]
            refine lv_tableIn (off := 454) (tgt := 493) hx hb d_L_law_39 (by decide +kernel) (by decide +kernel) (by decide +kernel) (by decide) ?_
            exact lo_marked hl9 C0 hK hN hE cnt hc hL hk cn f nw v w z p0 s0 za ta ka th o H locs ls hJ h16 hnw hP hD hS hl
          · rw [hyk]
            refine lv_tableIn (off := 479) (tgt := 518) hx hb d_L_law_39 (by decide +kernel) (by decide +kernel) (by decide +kernel) (by decide) ?_
            exact lo_count hl9 C0 hK hN hE cnt hc hL hk cn f nw v w z p0 s0 za ta ka th o H locs ls hJ h16 hnw hP hD hS hl
          · rw [hyk]
            refine lv_tableIn (off := 535) (tgt := 574) hx hb d_L_law_39 (by decide +kernel) (by decide +kernel) (by decide +kernel) (by decide) ?_
            exact lo_faults hl9 C0 hK hN hE cnt hc hL hk cn f nw v w z p0 s0 za ta ka th o H locs ls hJ h16 hnw hP hD hS hl
        · refine lv_tableOut (tgt := 587) hx hb d_L_law_39 (Or.inr (by have q : ¬ y.toInt ≤ 11 := fun q => c1 (Int32.le_iff_toInt_le.mpr (by rw [show (11 : Int32).toInt = 11 by decide]; exact q)); omega)) (by decide) ?_
          obtain ⟨j3, ej3⟩ : ∃ y : Int32, y = nI (2 * cnt) + 2 := ⟨_, rfl⟩
          refine lv_iinc (v := j3) (lv' := [(4, .int j3), (0, .ref b), (1, .ref h), (2, .ref hm), (3, .ref qo)]) hx hb d_L_law_587 hl (k := 4) rfl (by rw [ej3]; rfl) (by decide) rfl (fun ls hl => ?_)
          replace ej3 : j3 = nI (2 * (cnt + 1)) := ej3.trans (nI_add (2 * cnt) 2)
          subst ej3
          refine lv_goto (tgt := 23) hx hb d_L_law_590 (by decide) ?_
          refine W.widen (k := 7 + 2 * (cnt + 1)) (n := 49182 + 12 * (cnt + 1)) (by omega) (by omega) ?_
          exact hk cn f nw v w z p0 s0 za ta ka th o _ _ ls hJ h16 (by omega) hP hD hS (lv_sub hl [1, 2, 3, 4, 0] rfl)
