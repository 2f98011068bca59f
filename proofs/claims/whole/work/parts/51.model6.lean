theorem mid_len {mid : List AP} : ∀ {d e : Nat}, Til d mid e → d + mid.length ≤ e := by
  induction mid with
  | nil => intro d e h; exact Nat.le_of_eq h
  | cons y mid ih =>
    intro d e h
    obtain ⟨h1, h2, h3⟩ := h
    have := ih h3
    rw [List.length_cons]
    omega
set_option maxHeartbeats 4000000 in
set_option maxRecDepth 100000 in
theorem c_M_step (l : Launch) (D : va_G) (ty : tyL) (N0 sz : Nat) (hm qs qt qm : Nat) (cI cJ cZ : ClassId) (th : Int32) (cn nw : Nat) (v w z : Int32) (hd : Nat) (za ta ka : Nat → Int32) (pre suf : List AP) (x : AP) (f : Nat) (hI : Inv cn f nw (pre ++ x :: suf) za ta ka) (t0 : ty[0]? = some (cI, .int)) (t1 : ty[1]? = some (cJ, .int)) (t2 : ty[2]? = some (cZ, .boolean)) (hh : hd = x.2.1) (hnw : nw + 1 < 2 ^ 30) : Met l y_M_step (Cond.code y_M_step b_M_step 6 none :: GW) ({ frames := 1, cells := 0, slots := 0, locals := 22 }) (va_Pc [.ref hm] (at1 D ty N0 sz (mW hm qs qt qm cI cJ cZ th cn nw v w z hd za ta ka))) (va_Qv (fun ws' => ∃ (nw' : Nat) (za' ta' ka' : Nat → Int32), nw' + f = nw + stF f x suf ∧ nw' ≤ nw + 1 ∧ ws' = mW hm qs qt qm cI cJ cZ th cn nw' v (w + nI (stW x suf)) z (hdE (stS x suf) (cn + 1)) za' ta' ka' ∧ Inv cn (stF f x suf) nw' (pre ++ stX f x suf :: stS x suf) za' ta' ka') (at2 D ty (va_A (mW hm qs qt qm cI cJ cZ th cn nw v w z hd za ta ka) sz)) (va_A (mW hm qs qt qm cI cJ cZ th cn nw v w z hd za ta ka) sz)) 0 0 (va_A (mW hm qs qt qm cI cJ cZ th cn nw v w z hd za ta ka) sz) := by
  refine Met.ofW (cc := b_M_step) (maxL := 6) (ret := none) (by decide) rfl ?_
  intro p e s m args below meth c s₁ B hml hv
  obtain ⟨rfl, hsz, hN0, ⟨hP, hK, hN⟩, hD0, hE⟩ := hv
  subst hsz
  have hD := hD0.self (sz := s.heap.size)
  have hAN := sw_AN hD0 hN0
  generalize hAe : va_A (mW hm qs qt qm cI cJ cZ th cn nw v w z hd za ta ka) s.heap.size = A at hD hAN ⊢
  have hA : ∀ q : Nat, s.heap.size ≤ q → A q := fun q h => by rw [← hAe]; exact Or.inr h
  have hS : va_S A s.heap s.heap [] := va_S.rf
  have hP : va_P D classes (mW hm qs qt qm cI cJ cZ th cn nw v w z hd za ta ka) s.heap := hP
  have hx := B.exec
  have hb := B.bytes
  have hr := B.returns
  have hg : ∀ w ∈ GW, w.before _ s = true := fun w h => atoms_spec (ws := Cond.code y_M_step b_M_step 6 none :: GW) B.pre w (List.mem_cons_of_mem _ h)
  have hown : s.vm.findClass R_M = some m.cls := findClass_of_methodNamed B.named
  have hlocks := B.notSynchronized
  have hl := lv_entry ([.ref hm]) (n := 6) (Nat.le_of_ble_eq_true rfl)
  rw [lg_entry_eq]
  generalize (lg_sl ([.ref hm]) ++ List.replicate (6 - (lg_sl ([.ref hm])).length) Slot.unset).toArray = ls at hl ⊢
  replace hl : lv_has ls 6 [(0, .ref hm)] := hl
  replace hP : va_P D classes [(hm, .inr (2, [.int th, .int (nI cn), .ref qs, .ref qt, .ref qm, .int (nI nw), .int v, .int w, .int z, .int (nI hd)])), (qs, .inl (cI, 16386, .inl za)), (qt, .inl (cJ, 16386, .inl ta)), (qm, .inl (cZ, 16386, .inl ka))] _ := hP
  replace hD : va_D A [(hm, .inr (2, [.int th, .int (nI cn), .ref qs, .ref qt, .ref qm, .int (nI nw), .int v, .int w, .int z, .int (nI hd)])), (qs, .inl (cI, 16386, .inl za)), (qt, .inl (cJ, 16386, .inl ta)), (qm, .inl (cZ, 16386, .inl ka))] := hD
  subst hh
  replace hP : va_P D classes [(hm, .inr (2, [.int th, .int (nI cn), .ref qs, .ref qt, .ref qm, .int (nI nw), .int v, .int w, .int z, .int (nI x.2.1)])), (qs, .inl (cI, 16386, .inl za)), (qt, .inl (cJ, 16386, .inl ta)), (qm, .inl (cZ, 16386, .inl ka))] _ := hP
  replace hD : va_D A [(hm, .inr (2, [.int th, .int (nI cn), .ref qs, .ref qt, .ref qm, .int (nI nw), .int v, .int w, .int z, .int (nI x.2.1)])), (qs, .inl (cI, 16386, .inl za)), (qt, .inl (cJ, 16386, .inl ta)), (qm, .inl (cZ, 16386, .inl ka))] := hD
  have hcn := hI.2.2.1
  have hxL : x ∈ pre ++ x :: suf := by simp
  obtain ⟨hx1, hx2, hx3, hb9, hx4, hx5, hn1, hn2, hn3⟩ := hI.x hxL
  obtain ⟨ht1, ht2, ht3⟩ := Til_mid hI.2.1
  refine lv_aload_n hx hb d_M_step_0 rfl (lv_at hl 0 rfl) ?_
  refine va_get (D := D) (ci := 2) (v := .int (nI x.2.1)) (C := R_M) (T := F_M) (N := 10) hx hb hg gi_M hown hK hP 0 rfl rfl 9 (by decide) (hg _ gw_361) (fun _ h9 => h9) rfl d_M_step_1 ?_
  refine lv_istore_n (lv' := [(1, .int (nI x.2.1)), (0, .ref hm)]) hx hb d_M_step_4 rfl hl (by decide) rfl (fun ls hl => ?_)
  refine lv_aload_n hx hb d_M_step_5 rfl (lv_at hl 1 rfl) ?_
  refine va_get (D := D) (ci := 2) (v := .ref qm) (C := R_M) (T := F_M) (N := 10) hx hb hg gi_M hown hK hP 0 rfl rfl 4 (by decide) (hg _ gw_356) (fun _ h9 => h9) rfl d_M_step_6 ?_
  refine lv_iload_n hx hb d_M_step_9 rfl (lv_at hl 0 rfl) ?_
  refine va_zald hx hb hK hP 3 2 rfl t2 (vp_in_nI hb9 (by decide)) d_M_step_10 ?_
  refine lv_topi (fun y1 ey1 => ?_)
  obtain rfl : y1 = ka x.2.1 := ey1.trans (congrArg ka (nI_clamp (Nat.lt_trans hb9 (by decide))))
  clear ey1
  refine lv_topi (fun y2 ey2 => ?_)
  obtain rfl : y2 = bI x.2.2.2.2.1 := ey2.trans hx2
  clear ey2
  refine lv_if_eq (tgt := 33) hx hb d_M_step_11 (by decide) (fun c_11 => ?_) (fun c_11 => ?_)
  · have hxk : x.2.2.2.2.1 = false := bI_0.mp c_11
    have hkx : isKp x = false := by simp [isKp, hxk]
    refine lv_iload_n hx hb d_M_step_33 rfl (lv_at hl 0 rfl) ?_
    refine lv_istore_n (lv' := [(2, .int (nI x.2.1)), (1, .int (nI x.2.1)), (0, .ref hm)]) hx hb d_M_step_34 rfl hl (by decide) rfl (fun ls hl => ?_)
    refine lv_iconst (v := 0) hx hb d_M_step_35 (by decide) ?_
    refine lv_istore_n (lv' := [(3, .int 0), (2, .int (nI x.2.1)), (1, .int (nI x.2.1)), (0, .ref hm)]) hx hb d_M_step_36 rfl hl (by decide) rfl (fun ls hl => ?_)
    refine lv_aload_n hx hb d_M_step_37 rfl (lv_at hl 3 rfl) ?_
    refine va_get (D := D) (ci := 2) (v := .ref qs) (C := R_M) (T := F_M) (N := 10) hx hb hg gi_M hown hK hP 0 rfl rfl 2 (by decide) (hg _ gw_354) (fun _ h9 => h9) rfl d_M_step_38 ?_
    refine lv_iload_n hx hb d_M_step_41 rfl (lv_at hl 2 rfl) ?_
    refine va_iald hx hb hK hP 1 0 rfl t0 (vp_in_nI hb9 (by decide)) d_M_step_42 ?_
    refine lv_topi (fun y3 ey3 => ?_)
    obtain rfl : y3 = za x.2.1 := ey3.trans (congrArg za (nI_clamp (Nat.lt_trans hb9 (by decide))))
    clear ey3
    refine lv_topi (fun y4 ey4 => ?_)
    obtain rfl : y4 = szV x := ey4.trans hx1
    clear ey4
    refine lv_if_ge (tgt := 50) hx hb d_M_step_43 (by decide) (fun c_43 => ?_) (fun c_43 => ?_)
    · refine lv_iconst (v := 0) hx hb d_M_step_50 (by decide) ?_
      have hxu : x.2.2.2.1 = true := by cases hu : x.2.2.2.1; exact absurd ((szV_neg hn1 hn2).mpr hu) (Int32.not_lt.mpr c_43); rfl
      refine lv_istore (lv' := [(4, .int 0), (3, .int 0), (2, .int (nI x.2.1)), (1, .int (nI x.2.1)), (0, .ref hm)]) hx hb d_M_step_51 hl (by decide) rfl (fun ls hl => ?_)
      refine lv_iload_n hx hb d_M_step_53 rfl (lv_at hl 2 rfl) ?_
      refine lv_aload_n hx hb d_M_step_54 rfl (lv_at hl 4 rfl) ?_
      refine va_get (D := D) (ci := 2) (v := .int (nI cn)) (C := R_M) (T := F_M) (N := 10) hx hb hg gi_M hown hK hP 0 rfl rfl 1 (by decide) (hg _ gw_353) (fun _ h9 => h9) rfl d_M_step_55 ?_
      refine lv_icmp_gt (tgt := 135) hx hb d_M_step_58 (by decide) (fun c_58 => ?_) (fun c_58 => ?_)
      · exact absurd ((nI_ltI (by omega) (by omega)).mp c_58) (by omega)
      · refine lv_aload_n hx hb d_M_step_61 rfl (lv_at hl 4 rfl) ?_
        refine va_get (D := D) (ci := 2) (v := .ref qm) (C := R_M) (T := F_M) (N := 10) hx hb hg gi_M hown hK hP 0 rfl rfl 4 (by decide) (hg _ gw_356) (fun _ h9 => h9) rfl d_M_step_62 ?_
        refine lv_iload_n hx hb d_M_step_65 rfl (lv_at hl 2 rfl) ?_
        refine va_zald hx hb hK hP 3 2 rfl t2 (vp_in_nI hb9 (by decide)) d_M_step_66 ?_
        refine lv_topi (fun y5 ey5 => ?_)
        obtain rfl : y5 = ka x.2.1 := ey5.trans (congrArg ka (nI_clamp (Nat.lt_trans hb9 (by decide))))
        clear ey5
        refine lv_topi (fun y6 ey6 => ?_)
        obtain rfl : y6 = bI x.2.2.2.2.1 := ey6.trans hx2
        clear ey6
        refine lv_if_ne (tgt := 135) hx hb d_M_step_67 (by decide) (fun c_67 => ?_) (fun c_67 => ?_)
        · exact absurd (by rw [hxk]; rfl) c_67
        · refine lv_aload_n hx hb d_M_step_70 rfl (lv_at hl 4 rfl) ?_
          refine lv_iload_n hx hb d_M_step_71 rfl (lv_at hl 2 rfl) ?_
          refine vp_callSi (va_runV (As := [.int (nI x.2.1)]) (rest := []) ⟨hx, hb, hml, hown, hg⟩ (c_M_length l D ty hm qs qt qm cI cJ cZ th cn nw v w z x.2.1 za ta ka x.2.1 t0 t1 t2 hb9) (cwV 1 hg (gw_V gw_409 gw_411 gw_20 gw_28 gw_412) rfl rfl rfl (by decide +kernel) ⟨Nat.le_of_ble_eq_true rfl, Nat.le_of_ble_eq_true rfl⟩) (pre_roV hP hK hN (ci := 2) (k := 0) rfl rfl) rfl rfl hl.1 rfl (lv_room (Nat.le_of_ble_eq_true rfl)) d_M_step_72 ⟨Nat.le_of_ble_eq_true rfl, Nat.le_of_ble_eq_true rfl⟩).run (fun r1 hr1 => ?_)
          replace hr1 : r1 = nI x.2.2.1 := by rw [hr1, hx1, lenF_x hn1 hn2]
          subst hr1
          refine lv_istore (lv' := [(5, .int (nI x.2.2.1)), (4, .int 0), (3, .int 0), (2, .int (nI x.2.1)), (1, .int (nI x.2.1)), (0, .ref hm)]) hx hb d_M_step_75 hl (by decide) rfl (fun ls hl => ?_)
          refine lv_aload_n hx hb d_M_step_77 rfl (lv_at hl 5 rfl) ?_
          refine lv_aload_n hx hb d_M_step_78 rfl (lv_at hl 5 rfl) ?_
          refine va_get (D := D) (ci := 2) (v := .ref qs) (C := R_M) (T := F_M) (N := 10) hx hb hg gi_M hown hK hP 0 rfl rfl 2 (by decide) (hg _ gw_354) (fun _ h9 => h9) rfl d_M_step_79 ?_
          refine lv_iload_n hx hb d_M_step_82 rfl (lv_at hl 3 rfl) ?_
          refine va_iald hx hb hK hP 1 0 rfl t0 (vp_in_nI hb9 (by decide)) d_M_step_83 ?_
          refine lv_topi (fun y7 ey7 => ?_)
          obtain rfl : y7 = za x.2.1 := ey7.trans (congrArg za (nI_clamp (Nat.lt_trans hb9 (by decide))))
          clear ey7
          refine lv_topi (fun y8 ey8 => ?_)
          obtain rfl : y8 = szV x := ey8.trans hx1
          clear ey8
          refine lv_if_le (tgt := 96) hx hb d_M_step_84 (by decide) (fun c_84 => ?_) (fun c_84 => ?_)
          · exact absurd c_84 (fun h9 => by rw [(szV_pos hn1 hn2).mp h9] at hxu; cases hxu)
          · refine lv_aload_n hx hb d_M_step_87 rfl (lv_at hl 5 rfl) ?_
            refine va_get (D := D) (ci := 2) (v := .int w) (C := R_M) (T := F_M) (N := 10) hx hb hg gi_M hown hK hP 0 rfl rfl 7 (by decide) (hg _ gw_359) (fun _ h9 => h9) rfl d_M_step_88 ?_
            refine lv_iconst (v := 1) hx hb d_M_step_91 (by decide) ?_
            refine lv_iadd hx hb d_M_step_92 ?_
            refine lv_goto (tgt := 100) hx hb d_M_step_93 (by decide) ?_
            refine lv_topi (fun y9 ey9 => ?_)
            obtain rfl : y9 = w + nI 1 := ey9.trans rfl
            clear ey9
            refine va_put (D := D) (ci := 2) (v := .int (w + nI 1)) (ty := .int) (C := R_M) (T := F_M) (N := 10) hx hb hg gi_M t_M t_M_ok n_M hown hK hP hD hS 0 rfl rfl 7 (by decide) (hg _ gw_359) (fun _ h9 => h9) rfl (by decide +kernel) rfl rfl (Nat.le_of_ble_eq_true rfl) d_M_step_100 (fun H locs hP hD hS => ?_)
            replace hP : va_P D classes [(hm, .inr (2, [.int th, .int (nI cn), .ref qs, .ref qt, .ref qm, .int (nI nw), .int v, .int (w + nI 1), .int z, .int (nI x.2.1)])), (qs, .inl (cI, 16386, .inl za)), (qt, .inl (cJ, 16386, .inl ta)), (qm, .inl (cZ, 16386, .inl ka))] _ := hP
            replace hD : va_D A [(hm, .inr (2, [.int th, .int (nI cn), .ref qs, .ref qt, .ref qm, .int (nI nw), .int v, .int (w + nI 1), .int z, .int (nI x.2.1)])), (qs, .inl (cI, 16386, .inl za)), (qt, .inl (cJ, 16386, .inl ta)), (qm, .inl (cZ, 16386, .inl ka))] := hD
            refine lv_aload_n hx hb d_M_step_103 rfl (lv_at hl 5 rfl) ?_
            refine va_get (D := D) (ci := 2) (v := .ref qs) (C := R_M) (T := F_M) (N := 10) hx hb hg gi_M hown hK hP 0 rfl rfl 2 (by decide) (hg _ gw_354) (fun _ h9 => h9) rfl d_M_step_104 ?_
            refine lv_iload_n hx hb d_M_step_107 rfl (lv_at hl 3 rfl) ?_
            refine lv_iload_n hx hb d_M_step_108 rfl (lv_at hl 3 rfl) ?_
            refine lv_iload_n hx hb d_M_step_109 rfl (lv_at hl 4 rfl) ?_
            refine lv_icmp_ne (tgt := 122) hx hb d_M_step_110 (by decide) (fun c_110 => ?_) (fun c_110 => ?_)
            · exact absurd rfl c_110
            · refine lv_aload_n hx hb d_M_step_113 rfl (lv_at hl 5 rfl) ?_
              refine va_get (D := D) (ci := 2) (v := .ref qs) (C := R_M) (T := F_M) (N := 10) hx hb hg gi_M hown hK hP 0 rfl rfl 2 (by decide) (hg _ gw_354) (fun _ h9 => h9) rfl d_M_step_114 ?_
              refine lv_iload_n hx hb d_M_step_117 rfl (lv_at hl 3 rfl) ?_
              refine va_iald hx hb hK hP 1 0 rfl t0 (vp_in_nI hb9 (by decide)) d_M_step_118 ?_
              refine lv_topi (fun y10 ey10 => ?_)
              obtain rfl : y10 = za x.2.1 := ey10.trans (congrArg za (nI_clamp (Nat.lt_trans hb9 (by decide))))
              clear ey10
              refine lv_topi (fun y11 ey11 => ?_)
              obtain rfl : y11 = szV x := ey11.trans hx1
              clear ey11
              refine lv_goto (tgt := 123) hx hb d_M_step_119 (by decide) ?_
              refine va_iast hx hb hK hP hD hS 1 0 rfl t0 (vp_in_nI hb9 (by decide)) d_M_step_123 (fun H locs hP hD hS => ?_)
              rw [nI_clamp (Nat.lt_trans hb9 (by decide))] at hP hD
              replace hP : va_P D classes [(hm, .inr (2, [.int th, .int (nI cn), .ref qs, .ref qt, .ref qm, .int (nI nw), .int v, .int (w + nI 1), .int z, .int (nI x.2.1)])), (qs, .inl (cI, 16386, .inl (upd za x.2.1 (szV x)))), (qt, .inl (cJ, 16386, .inl ta)), (qm, .inl (cZ, 16386, .inl ka))] _ := hP
              replace hD : va_D A [(hm, .inr (2, [.int th, .int (nI cn), .ref qs, .ref qt, .ref qm, .int (nI nw), .int v, .int (w + nI 1), .int z, .int (nI x.2.1)])), (qs, .inl (cI, 16386, .inl (upd za x.2.1 (szV x)))), (qt, .inl (cJ, 16386, .inl ta)), (qm, .inl (cZ, 16386, .inl ka))] := hD
              rw [upd_same za x.2.1 hx1] at hP hD
              replace hP : va_P D classes [(hm, .inr (2, [.int th, .int (nI cn), .ref qs, .ref qt, .ref qm, .int (nI nw), .int v, .int (w + nI 1), .int z, .int (nI x.2.1)])), (qs, .inl (cI, 16386, .inl za)), (qt, .inl (cJ, 16386, .inl ta)), (qm, .inl (cZ, 16386, .inl ka))] _ := hP
              replace hD : va_D A [(hm, .inr (2, [.int th, .int (nI cn), .ref qs, .ref qt, .ref qm, .int (nI nw), .int v, .int (w + nI 1), .int z, .int (nI x.2.1)])), (qs, .inl (cI, 16386, .inl za)), (qt, .inl (cJ, 16386, .inl ta)), (qm, .inl (cZ, 16386, .inl ka))] := hD
              obtain ⟨j12, ej12⟩ : ∃ y : Int32, y = 0 + 1 := ⟨_, rfl⟩
              refine lv_iinc (v := j12) (lv' := [(3, .int j12), (5, .int (nI x.2.2.1)), (4, .int 0), (2, .int (nI x.2.1)), (1, .int (nI x.2.1)), (0, .ref hm)]) hx hb d_M_step_124 hl (k := 2) rfl (by rw [ej12]; rfl) (by decide) rfl (fun ls hl => ?_)
              refine lv_iload_n hx hb d_M_step_127 rfl (lv_at hl 3 rfl) ?_
              refine lv_iload hx hb d_M_step_128 (lv_at hl 1 rfl) ?_
              refine lv_iadd hx hb d_M_step_130 ?_
              refine lv_topi (fun y13 ey13 => ?_)
              obtain rfl : y13 = nI (x.2.1 + x.2.2.1) := ey13.trans (nI_add _ _)
              clear ey13
              refine lv_istore_n (lv' := [(2, .int (nI (x.2.1 + x.2.2.1))), (3, .int j12), (5, .int (nI x.2.2.1)), (4, .int 0), (1, .int (nI x.2.1)), (0, .ref hm)]) hx hb d_M_step_131 rfl hl (by decide) rfl (fun ls hl => ?_)
              refine lv_goto (tgt := 53) hx hb d_M_step_132 (by decide) ?_
              obtain ⟨rs, hs⟩ : ∃ q, q = suf := ⟨_, rfl⟩
              obtain ⟨e9, he9⟩ : ∃ q : Nat, q = x.2.1 + x.2.2.1 := ⟨_, rfl⟩
              obtain ⟨pn, hpn⟩ : ∃ q : Nat, q = 1 := ⟨_, rfl⟩
              obtain ⟨w9, hw9⟩ : ∃ q : Int32, q = w + nI 1 := ⟨_, rfl⟩
              obtain ⟨zb, hzb⟩ : ∃ q, q = za := ⟨_, rfl⟩
              replace hl := lv_sub hl [0, 1, 3, 5, 4] rfl
              replace hl : lv_has ls 6 [(2, .int (nI (x.2.1 + x.2.2.1))), (3, .int j12), (4, .int 0), (0, .ref hm), (1, .int (nI x.2.1))] := hl
              replace hl : lv_has ls 6 [(2, .int (nI e9)), (3, .int (nI pn)), (4, .int 0), (0, .ref hm), (1, .int (nI x.2.1))] := by rw [he9, hpn]; rw [ej12] at hl; exact hl
              replace hP : va_P D classes [(hm, .inr (2, [.int th, .int (nI cn), .ref qs, .ref qt, .ref qm, .int (nI nw), .int v, .int w9, .int z, .int (nI x.2.1)])), (qs, .inl (cI, 16386, .inl zb)), (qt, .inl (cJ, 16386, .inl ta)), (qm, .inl (cZ, 16386, .inl ka))] H := by rw [hw9, hzb]; exact hP
              replace hD : va_D A [(hm, .inr (2, [.int th, .int (nI cn), .ref qs, .ref qt, .ref qm, .int (nI nw), .int v, .int w9, .int z, .int (nI x.2.1)])), (qs, .inl (cI, 16386, .inl zb)), (qt, .inl (cJ, 16386, .inl ta)), (qm, .inl (cZ, 16386, .inl ka))] := by rw [hw9, hzb]; exact hD
              have hmid : ∃ mid, suf = mid ++ rs ∧ gaM suf = mid ++ gaM rs ∧ gaR suf = gaR rs ∧ pn = mid.length + 1 ∧ w9 = w + nI (1 + usS mid) ∧ (∀ y ∈ mid, zb y.2.1 = 0) ∧ (∀ a, (∀ y ∈ mid, y.2.1 ≠ a) → zb a = za a) := ⟨[], hs.symm, by rw [hs]; rfl, by rw [hs], hpn, hw9, fun y h9 => (by cases h9), fun a _ => (by rw [hzb])⟩
              have hTi : Til e9 rs (cn + 1) := by rw [hs, he9]; exact ht3
              clear hs he9 hpn hw9 hzb ej12
              revert hS
              revert hD
              revert hP
              revert hTi
              revert hmid
              revert hl
              revert locs
              revert H
              revert zb
              revert w9
              revert pn
              revert e9
              revert ls
              induction rs with
              | nil =>
                intro ls e9 pn w9 zb H locs hl hmid hTi hP hD hS
                replace hTi : e9 = cn + 1 := hTi
                obtain ⟨mid, hm1, hm2, hm3, hm4, hm5, hm6, hm7⟩ := hmid
                refine lv_iload_n hx hb d_M_step_53 rfl (lv_at hl 0 rfl) ?_
                refine lv_aload_n hx hb d_M_step_54 rfl (lv_at hl 3 rfl) ?_
                refine va_get (D := D) (ci := 2) (v := .int (nI cn)) (C := R_M) (T := F_M) (N := 10) hx hb hg gi_M hown hK hP 0 rfl rfl 1 (by decide) (hg _ gw_353) (fun _ h9 => h9) rfl d_M_step_55 ?_
                refine lv_icmp_gt (tgt := 135) hx hb d_M_step_58 (by decide) (fun c_58 => ?_) (fun c_58 => ?_)
                · have hgm : gaM suf = mid := by rw [hm2]; exact List.append_nil mid
                  have hgr : gaR suf = [] := hm3
                  have hmt : Til (x.2.1 + x.2.2.1) mid e9 := by rw [hm1, List.append_nil] at ht3; rw [hTi]; exact ht3
                  have hsu : suf = mid ++ gaR suf := by rw [hgr]; exact hm1
                  have hhe : hdE (gaR suf) (cn + 1) = e9 := by rw [hgr, hTi]; rfl
                  have hee := szS_til hmt
                  have s2 : stS x suf = gaR suf := by unfold stS; rw [hkx]; rfl
                  have s1 : stX f x suf = gaX f x suf := by unfold stX; rw [hkx]; rfl
                  have s3 : stF f x suf = gaF f x suf := by unfold stF; rw [hkx]; rfl
                  have s4 : stW x suf = gaW x suf := by unfold stW; rw [hkx]; rfl
                  refine lv_iload_n hx hb d_M_step_135 rfl (lv_at hl 1 rfl) ?_
                  refine lv_iconst (v := 1) hx hb d_M_step_136 (by decide) ?_
                  refine lv_icmp_gt (tgt := 145) hx hb d_M_step_137 (by decide) (fun c_137 => ?_) (fun c_137 => ?_)
                  · have hE9 : gaE x suf = false := by unfold gaE; rw [hxu]; rfl
                    refine lv_aload_n hx hb d_M_step_145 rfl (lv_at hl 3 rfl) ?_
                    refine lv_iload_n hx hb d_M_step_146 rfl (lv_at hl 4 rfl) ?_
                    refine lv_iload_n hx hb d_M_step_147 rfl (lv_at hl 0 rfl) ?_
                    refine lv_iload_n hx hb d_M_step_148 rfl (lv_at hl 4 rfl) ?_
                    refine lv_isub hx hb d_M_step_149 ?_
                    refine lv_topi (fun y14 ey14 => ?_)
                    obtain rfl : y14 = nI (x.2.2.1 + szS mid) := ey14.trans ((pk_sub (by omega)).trans (congrArg nI (by omega)))
                    clear ey14
                    have hFc := sw_free hD hS hA
                    refine va_callv (va_runV (As := [.int (nI x.2.1), .int (nI (x.2.2.1 + szS mid))]) (rest := []) ⟨hx, hb, hml, hown, hg⟩ (c_M_release l D ty N0 _ hm qs qt qm cI cJ cZ th cn nw v w9 z x.2.1 zb ta ka x.2.1 (nI (x.2.2.1 + szS mid)) t0 t1 t2 hb9) (cwV 2 hg (gw_V gw_397 gw_399 gw_18 gw_28 gw_400) rfl rfl rfl (by decide +kernel) ⟨Nat.le_of_ble_eq_true rfl, Nat.le_of_ble_eq_true rfl⟩) (pre_wrV hP hK hN hD hS hAN hN0 hE (ci := 2) (k := 0) rfl rfl) rfl rfl hl.1 rfl (lv_room (Nat.le_of_ble_eq_true rfl)) d_M_step_150 ⟨Nat.le_of_ble_eq_true rfl, Nat.le_of_ble_eq_true rfl⟩) hS (fun q _ h => hFc q h) hFc (fun u t H locs ht hvm hw hB hz1 hk1 hS => ?_)
                    obtain ⟨hP, hK1, hD1⟩ := hB
                    rw [ht] at hP
                    have hD := hD1.weaken (fun _ _ _ h => hFc _ h)
                    clear hK1 hD1 hFc hk1 hz1
                    subst hw
                    replace hP : va_P D classes [(hm, .inr (2, [.int th, .int (nI cn), .ref qs, .ref qt, .ref qm, .int (nI (nw + 1)), .int v, .int w9, .int z, .int (nI x.2.1)])), (qs, .inl (cI, 16386, .inl (upd zb x.2.1 (0 - nI (x.2.2.1 + szS mid))))), (qt, .inl (cJ, 16386, .inl (upd ta x.2.1 (nI (nw + 1))))), (qm, .inl (cZ, 16386, .inl (upd ka x.2.1 0)))] _ := hP
                    replace hD : va_D A [(hm, .inr (2, [.int th, .int (nI cn), .ref qs, .ref qt, .ref qm, .int (nI (nw + 1)), .int v, .int w9, .int z, .int (nI x.2.1)])), (qs, .inl (cI, 16386, .inl (upd zb x.2.1 (0 - nI (x.2.2.1 + szS mid))))), (qt, .inl (cJ, 16386, .inl (upd ta x.2.1 (nI (nw + 1))))), (qm, .inl (cZ, 16386, .inl (upd ka x.2.1 0)))] := hD
                    refine lv_aload_n hx hb d_M_step_153 rfl (lv_at hl 3 rfl) ?_
                    refine lv_iload_n hx hb d_M_step_154 rfl (lv_at hl 0 rfl) ?_
                    refine va_put (D := D) (ci := 2) (v := .int (nI e9)) (ty := .int) (C := R_M) (T := F_M) (N := 10) hx hb hg gi_M t_M t_M_ok n_M hown hK hP hD hS 0 rfl rfl 9 (by decide) (hg _ gw_361) (fun _ h9 => h9) rfl (by decide +kernel) rfl rfl (Nat.le_of_ble_eq_true rfl) d_M_step_155 (fun H locs hP hD hS => ?_)
                    replace hP : va_P D classes [(hm, .inr (2, [.int th, .int (nI cn), .ref qs, .ref qt, .ref qm, .int (nI (nw + 1)), .int v, .int w9, .int z, .int (nI e9)])), (qs, .inl (cI, 16386, .inl (upd zb x.2.1 (0 - nI (x.2.2.1 + szS mid))))), (qt, .inl (cJ, 16386, .inl (upd ta x.2.1 (nI (nw + 1))))), (qm, .inl (cZ, 16386, .inl (upd ka x.2.1 0)))] _ := hP
                    replace hD : va_D A [(hm, .inr (2, [.int th, .int (nI cn), .ref qs, .ref qt, .ref qm, .int (nI (nw + 1)), .int v, .int w9, .int z, .int (nI e9)])), (qs, .inl (cI, 16386, .inl (upd zb x.2.1 (0 - nI (x.2.2.1 + szS mid))))), (qt, .inl (cJ, 16386, .inl (upd ta x.2.1 (nI (nw + 1))))), (qm, .inl (cZ, 16386, .inl (upd ka x.2.1 0)))] := hD
                    obtain ⟨e1, e2, e3⟩ := gaX_f (f := f) hE9
                    rw [hgm] at e1 e3
                    have hIn : Inv cn f nw (pre ++ x :: (mid ++ gaR suf)) za ta ka := by rw [← hsu]; exact hI
                    have hmk9 : ∀ q ∈ mid, q.2.2.2.2.1 = false := fun q hq => by have h9 := gaM_keep (suf := suf) (y := q) (by rw [hgm]; exact hq); cases h8 : q.2.2.2.2.1; rfl; have h7 := hI.2.2.2.2 q (by rw [hsu]; simp [hq]) h8; simp [isKp, h7, h8] at h9
                    refine W.widen (k := 0) (n := 0) (Nat.le_of_ble_eq_true rfl) (Nat.le_of_ble_eq_true rfl) ?_
                    exact W.vret hx hb hr (fun t ht hW => ⟨⟨_, rfl, ⟨nw + 1, _, _, _, by rw [s3, e2]; omega, Nat.le_refl _, by rw [s2, s4, e3, hhe, hxu, hm5]; rfl, by rw [s1, s2, s3, e1, e2]; exact hIn.gather hm6 hm7 hmk9 hnw⟩, at2.of hP hK hD ht hW⟩, hS.F ht⟩) hS.2.2 d_M_step_158
                  · refine lv_iload hx hb d_M_step_140 (lv_at hl 2 rfl) ?_
                    refine lv_if_ne (tgt := 153) hx hb d_M_step_142 (by decide) (fun c_142 => ?_) (fun c_142 => ?_)
                    · exact absurd rfl c_142
                    · have hE9 : gaE x suf = false := by unfold gaE; rw [hxu]; rfl
                      refine lv_aload_n hx hb d_M_step_145 rfl (lv_at hl 3 rfl) ?_
                      refine lv_iload_n hx hb d_M_step_146 rfl (lv_at hl 4 rfl) ?_
                      refine lv_iload_n hx hb d_M_step_147 rfl (lv_at hl 0 rfl) ?_
                      refine lv_iload_n hx hb d_M_step_148 rfl (lv_at hl 4 rfl) ?_
                      refine lv_isub hx hb d_M_step_149 ?_
                      refine lv_topi (fun y15 ey15 => ?_)
                      obtain rfl : y15 = nI (x.2.2.1 + szS mid) := ey15.trans ((pk_sub (by omega)).trans (congrArg nI (by omega)))
                      clear ey15
                      have hFc := sw_free hD hS hA
                      refine va_callv (va_runV (As := [.int (nI x.2.1), .int (nI (x.2.2.1 + szS mid))]) (rest := []) ⟨hx, hb, hml, hown, hg⟩ (c_M_release l D ty N0 _ hm qs qt qm cI cJ cZ th cn nw v w9 z x.2.1 zb ta ka x.2.1 (nI (x.2.2.1 + szS mid)) t0 t1 t2 hb9) (cwV 2 hg (gw_V gw_397 gw_399 gw_18 gw_28 gw_400) rfl rfl rfl (by decide +kernel) ⟨Nat.le_of_ble_eq_true rfl, Nat.le_of_ble_eq_true rfl⟩) (pre_wrV hP hK hN hD hS hAN hN0 hE (ci := 2) (k := 0) rfl rfl) rfl rfl hl.1 rfl (lv_room (Nat.le_of_ble_eq_true rfl)) d_M_step_150 ⟨Nat.le_of_ble_eq_true rfl, Nat.le_of_ble_eq_true rfl⟩) hS (fun q _ h => hFc q h) hFc (fun u t H locs ht hvm hw hB hz1 hk1 hS => ?_)
                      obtain ⟨hP, hK1, hD1⟩ := hB
                      rw [ht] at hP
                      have hD := hD1.weaken (fun _ _ _ h => hFc _ h)
                      clear hK1 hD1 hFc hk1 hz1
                      subst hw
                      replace hP : va_P D classes [(hm, .inr (2, [.int th, .int (nI cn), .ref qs, .ref qt, .ref qm, .int (nI (nw + 1)), .int v, .int w9, .int z, .int (nI x.2.1)])), (qs, .inl (cI, 16386, .inl (upd zb x.2.1 (0 - nI (x.2.2.1 + szS mid))))), (qt, .inl (cJ, 16386, .inl (upd ta x.2.1 (nI (nw + 1))))), (qm, .inl (cZ, 16386, .inl (upd ka x.2.1 0)))] _ := hP
                      replace hD : va_D A [(hm, .inr (2, [.int th, .int (nI cn), .ref qs, .ref qt, .ref qm, .int (nI (nw + 1)), .int v, .int w9, .int z, .int (nI x.2.1)])), (qs, .inl (cI, 16386, .inl (upd zb x.2.1 (0 - nI (x.2.2.1 + szS mid))))), (qt, .inl (cJ, 16386, .inl (upd ta x.2.1 (nI (nw + 1))))), (qm, .inl (cZ, 16386, .inl (upd ka x.2.1 0)))] := hD
                      refine lv_aload_n hx hb d_M_step_153 rfl (lv_at hl 3 rfl) ?_
                      refine lv_iload_n hx hb d_M_step_154 rfl (lv_at hl 0 rfl) ?_
                      refine va_put (D := D) (ci := 2) (v := .int (nI e9)) (ty := .int) (C := R_M) (T := F_M) (N := 10) hx hb hg gi_M t_M t_M_ok n_M hown hK hP hD hS 0 rfl rfl 9 (by decide) (hg _ gw_361) (fun _ h9 => h9) rfl (by decide +kernel) rfl rfl (Nat.le_of_ble_eq_true rfl) d_M_step_155 (fun H locs hP hD hS => ?_)
                      replace hP : va_P D classes [(hm, .inr (2, [.int th, .int (nI cn), .ref qs, .ref qt, .ref qm, .int (nI (nw + 1)), .int v, .int w9, .int z, .int (nI e9)])), (qs, .inl (cI, 16386, .inl (upd zb x.2.1 (0 - nI (x.2.2.1 + szS mid))))), (qt, .inl (cJ, 16386, .inl (upd ta x.2.1 (nI (nw + 1))))), (qm, .inl (cZ, 16386, .inl (upd ka x.2.1 0)))] _ := hP
                      replace hD : va_D A [(hm, .inr (2, [.int th, .int (nI cn), .ref qs, .ref qt, .ref qm, .int (nI (nw + 1)), .int v, .int w9, .int z, .int (nI e9)])), (qs, .inl (cI, 16386, .inl (upd zb x.2.1 (0 - nI (x.2.2.1 + szS mid))))), (qt, .inl (cJ, 16386, .inl (upd ta x.2.1 (nI (nw + 1))))), (qm, .inl (cZ, 16386, .inl (upd ka x.2.1 0)))] := hD
                      obtain ⟨e1, e2, e3⟩ := gaX_f (f := f) hE9
                      rw [hgm] at e1 e3
                      have hIn : Inv cn f nw (pre ++ x :: (mid ++ gaR suf)) za ta ka := by rw [← hsu]; exact hI
                      have hmk9 : ∀ q ∈ mid, q.2.2.2.2.1 = false := fun q hq => by have h9 := gaM_keep (suf := suf) (y := q) (by rw [hgm]; exact hq); cases h8 : q.2.2.2.2.1; rfl; have h7 := hI.2.2.2.2 q (by rw [hsu]; simp [hq]) h8; simp [isKp, h7, h8] at h9
                      refine W.widen (k := 0) (n := 0) (Nat.le_of_ble_eq_true rfl) (Nat.le_of_ble_eq_true rfl) ?_
                      exact W.vret hx hb hr (fun t ht hW => ⟨⟨_, rfl, ⟨nw + 1, _, _, _, by rw [s3, e2]; omega, Nat.le_refl _, by rw [s2, s4, e3, hhe, hxu, hm5]; rfl, by rw [s1, s2, s3, e1, e2]; exact hIn.gather hm6 hm7 hmk9 hnw⟩, at2.of hP hK hD ht hW⟩, hS.F ht⟩) hS.2.2 d_M_step_158
                · exact absurd (nI_lt (by omega) (by omega)) c_58
              | cons y rs ih =>
                intro ls e9 pn w9 zb H locs hl hmid hTi hP hD hS
                obtain ⟨mid, hm1, hm2, hm3, hm4, hm5, hm6, hm7⟩ := hmid
                obtain ⟨hd1, hd2, hd3⟩ := hTi
                subst hd1
                have yhxL : y ∈ pre ++ x :: suf := by rw [hm1]; simp
                obtain ⟨yhx1, yhx2, yhx3, yhb9, yhx4, yhx5, yhn1, yhn2, yhn3⟩ := hI.x yhxL
                have hmt : Til (x.2.1 + x.2.2.1) mid y.2.1 := by rw [hm1] at ht3; exact (Til_mid ht3).1
                have hyx : y.2.1 ≠ x.2.1 := by have h9 := (Til_lo hmt).1; omega
                have hym : ∀ q ∈ mid, q.2.1 ≠ y.2.1 := fun q hq => by have h9 := (Til_lo hmt).2 q hq; omega
                have yhz : zb y.2.1 = szV y := (hm7 y.2.1 hym).trans yhx1
                refine lv_iload_n hx hb d_M_step_53 rfl (lv_at hl 0 rfl) ?_
                refine lv_aload_n hx hb d_M_step_54 rfl (lv_at hl 3 rfl) ?_
                refine va_get (D := D) (ci := 2) (v := .int (nI cn)) (C := R_M) (T := F_M) (N := 10) hx hb hg gi_M hown hK hP 0 rfl rfl 1 (by decide) (hg _ gw_353) (fun _ h9 => h9) rfl d_M_step_55 ?_
                refine lv_icmp_gt (tgt := 135) hx hb d_M_step_58 (by decide) (fun c_58 => ?_) (fun c_58 => ?_)
                · exact absurd ((nI_ltI (by omega) (by omega)).mp c_58) (by omega)
                · refine lv_aload_n hx hb d_M_step_61 rfl (lv_at hl 3 rfl) ?_
                  refine va_get (D := D) (ci := 2) (v := .ref qm) (C := R_M) (T := F_M) (N := 10) hx hb hg gi_M hown hK hP 0 rfl rfl 4 (by decide) (hg _ gw_356) (fun _ h9 => h9) rfl d_M_step_62 ?_
                  refine lv_iload_n hx hb d_M_step_65 rfl (lv_at hl 0 rfl) ?_
                  refine va_zald hx hb hK hP 3 2 rfl t2 (vp_in_nI yhb9 (by decide)) d_M_step_66 ?_
                  refine lv_topi (fun y16 ey16 => ?_)
                  obtain rfl : y16 = ka y.2.1 := ey16.trans (congrArg ka (nI_clamp (Nat.lt_trans yhb9 (by decide))))
                  clear ey16
                  refine lv_topi (fun y17 ey17 => ?_)
                  obtain rfl : y17 = bI y.2.2.2.2.1 := ey17.trans yhx2
                  clear ey17
                  refine lv_if_ne (tgt := 135) hx hb d_M_step_67 (by decide) (fun c_67 => ?_) (fun c_67 => ?_)
                  · have hyk : y.2.2.2.2.1 = true := bI_n0.mp c_67
                    have hky : isKp y = true := by simp [isKp, hyk, hI.2.2.2.2 y yhxL hyk]
                    have hgm : gaM suf = mid := by rw [hm2, gaM, if_pos hky, List.append_nil]
                    have hgr : gaR suf = y :: rs := by rw [hm3, gaR, if_pos hky]
                    have hsu : suf = mid ++ gaR suf := by rw [hgr]; exact hm1
                    have hhe : hdE (gaR suf) (cn + 1) = y.2.1 := by rw [hgr]; rfl
                    have hee := szS_til hmt
                    have s2 : stS x suf = gaR suf := by unfold stS; rw [hkx]; rfl
                    have s1 : stX f x suf = gaX f x suf := by unfold stX; rw [hkx]; rfl
                    have s3 : stF f x suf = gaF f x suf := by unfold stF; rw [hkx]; rfl
                    have s4 : stW x suf = gaW x suf := by unfold stW; rw [hkx]; rfl
                    refine lv_iload_n hx hb d_M_step_135 rfl (lv_at hl 1 rfl) ?_
                    refine lv_iconst (v := 1) hx hb d_M_step_136 (by decide) ?_
                    refine lv_icmp_gt (tgt := 145) hx hb d_M_step_137 (by decide) (fun c_137 => ?_) (fun c_137 => ?_)
                    · have hE9 : gaE x suf = false := by unfold gaE; rw [hxu]; rfl
                      refine lv_aload_n hx hb d_M_step_145 rfl (lv_at hl 3 rfl) ?_
                      refine lv_iload_n hx hb d_M_step_146 rfl (lv_at hl 4 rfl) ?_
                      refine lv_iload_n hx hb d_M_step_147 rfl (lv_at hl 0 rfl) ?_
                      refine lv_iload_n hx hb d_M_step_148 rfl (lv_at hl 4 rfl) ?_
                      refine lv_isub hx hb d_M_step_149 ?_
                      refine lv_topi (fun y18 ey18 => ?_)
                      obtain rfl : y18 = nI (x.2.2.1 + szS mid) := ey18.trans ((pk_sub (by omega)).trans (congrArg nI (by omega)))
                      clear ey18
                      have hFc := sw_free hD hS hA
                      refine va_callv (va_runV (As := [.int (nI x.2.1), .int (nI (x.2.2.1 + szS mid))]) (rest := []) ⟨hx, hb, hml, hown, hg⟩ (c_M_release l D ty N0 _ hm qs qt qm cI cJ cZ th cn nw v w9 z x.2.1 zb ta ka x.2.1 (nI (x.2.2.1 + szS mid)) t0 t1 t2 hb9) (cwV 2 hg (gw_V gw_397 gw_399 gw_18 gw_28 gw_400) rfl rfl rfl (by decide +kernel) ⟨Nat.le_of_ble_eq_true rfl, Nat.le_of_ble_eq_true rfl⟩) (pre_wrV hP hK hN hD hS hAN hN0 hE (ci := 2) (k := 0) rfl rfl) rfl rfl hl.1 rfl (lv_room (Nat.le_of_ble_eq_true rfl)) d_M_step_150 ⟨Nat.le_of_ble_eq_true rfl, Nat.le_of_ble_eq_true rfl⟩) hS (fun q _ h => hFc q h) hFc (fun u t H locs ht hvm hw hB hz1 hk1 hS => ?_)
                      obtain ⟨hP, hK1, hD1⟩ := hB
                      rw [ht] at hP
                      have hD := hD1.weaken (fun _ _ _ h => hFc _ h)
                      clear hK1 hD1 hFc hk1 hz1
                      subst hw
                      replace hP : va_P D classes [(hm, .inr (2, [.int th, .int (nI cn), .ref qs, .ref qt, .ref qm, .int (nI (nw + 1)), .int v, .int w9, .int z, .int (nI x.2.1)])), (qs, .inl (cI, 16386, .inl (upd zb x.2.1 (0 - nI (x.2.2.1 + szS mid))))), (qt, .inl (cJ, 16386, .inl (upd ta x.2.1 (nI (nw + 1))))), (qm, .inl (cZ, 16386, .inl (upd ka x.2.1 0)))] _ := hP
                      replace hD : va_D A [(hm, .inr (2, [.int th, .int (nI cn), .ref qs, .ref qt, .ref qm, .int (nI (nw + 1)), .int v, .int w9, .int z, .int (nI x.2.1)])), (qs, .inl (cI, 16386, .inl (upd zb x.2.1 (0 - nI (x.2.2.1 + szS mid))))), (qt, .inl (cJ, 16386, .inl (upd ta x.2.1 (nI (nw + 1))))), (qm, .inl (cZ, 16386, .inl (upd ka x.2.1 0)))] := hD
                      refine lv_aload_n hx hb d_M_step_153 rfl (lv_at hl 3 rfl) ?_
                      refine lv_iload_n hx hb d_M_step_154 rfl (lv_at hl 0 rfl) ?_
                      refine va_put (D := D) (ci := 2) (v := .int (nI y.2.1)) (ty := .int) (C := R_M) (T := F_M) (N := 10) hx hb hg gi_M t_M t_M_ok n_M hown hK hP hD hS 0 rfl rfl 9 (by decide) (hg _ gw_361) (fun _ h9 => h9) rfl (by decide +kernel) rfl rfl (Nat.le_of_ble_eq_true rfl) d_M_step_155 (fun H locs hP hD hS => ?_)
                      replace hP : va_P D classes [(hm, .inr (2, [.int th, .int (nI cn), .ref qs, .ref qt, .ref qm, .int (nI (nw + 1)), .int v, .int w9, .int z, .int (nI y.2.1)])), (qs, .inl (cI, 16386, .inl (upd zb x.2.1 (0 - nI (x.2.2.1 + szS mid))))), (qt, .inl (cJ, 16386, .inl (upd ta x.2.1 (nI (nw + 1))))), (qm, .inl (cZ, 16386, .inl (upd ka x.2.1 0)))] _ := hP
                      replace hD : va_D A [(hm, .inr (2, [.int th, .int (nI cn), .ref qs, .ref qt, .ref qm, .int (nI (nw + 1)), .int v, .int w9, .int z, .int (nI y.2.1)])), (qs, .inl (cI, 16386, .inl (upd zb x.2.1 (0 - nI (x.2.2.1 + szS mid))))), (qt, .inl (cJ, 16386, .inl (upd ta x.2.1 (nI (nw + 1))))), (qm, .inl (cZ, 16386, .inl (upd ka x.2.1 0)))] := hD
                      obtain ⟨e1, e2, e3⟩ := gaX_f (f := f) hE9
                      rw [hgm] at e1 e3
                      have hIn : Inv cn f nw (pre ++ x :: (mid ++ gaR suf)) za ta ka := by rw [← hsu]; exact hI
                      have hmk9 : ∀ q ∈ mid, q.2.2.2.2.1 = false := fun q hq => by have h9 := gaM_keep (suf := suf) (y := q) (by rw [hgm]; exact hq); cases h8 : q.2.2.2.2.1; rfl; have h7 := hI.2.2.2.2 q (by rw [hsu]; simp [hq]) h8; simp [isKp, h7, h8] at h9
                      refine W.widen (k := 0) (n := 0) (Nat.le_of_ble_eq_true rfl) (Nat.le_of_ble_eq_true rfl) ?_
                      exact W.vret hx hb hr (fun t ht hW => ⟨⟨_, rfl, ⟨nw + 1, _, _, _, by rw [s3, e2]; omega, Nat.le_refl _, by rw [s2, s4, e3, hhe, hxu, hm5]; rfl, by rw [s1, s2, s3, e1, e2]; exact hIn.gather hm6 hm7 hmk9 hnw⟩, at2.of hP hK hD ht hW⟩, hS.F ht⟩) hS.2.2 d_M_step_158
                    · refine lv_iload hx hb d_M_step_140 (lv_at hl 2 rfl) ?_
                      refine lv_if_ne (tgt := 153) hx hb d_M_step_142 (by decide) (fun c_142 => ?_) (fun c_142 => ?_)
                      · exact absurd rfl c_142
                      · have hE9 : gaE x suf = false := by unfold gaE; rw [hxu]; rfl
                        refine lv_aload_n hx hb d_M_step_145 rfl (lv_at hl 3 rfl) ?_
                        refine lv_iload_n hx hb d_M_step_146 rfl (lv_at hl 4 rfl) ?_
                        refine lv_iload_n hx hb d_M_step_147 rfl (lv_at hl 0 rfl) ?_
                        refine lv_iload_n hx hb d_M_step_148 rfl (lv_at hl 4 rfl) ?_
                        refine lv_isub hx hb d_M_step_149 ?_
                        refine lv_topi (fun y19 ey19 => ?_)
                        obtain rfl : y19 = nI (x.2.2.1 + szS mid) := ey19.trans ((pk_sub (by omega)).trans (congrArg nI (by omega)))
                        clear ey19
                        have hFc := sw_free hD hS hA
                        refine va_callv (va_runV (As := [.int (nI x.2.1), .int (nI (x.2.2.1 + szS mid))]) (rest := []) ⟨hx, hb, hml, hown, hg⟩ (c_M_release l D ty N0 _ hm qs qt qm cI cJ cZ th cn nw v w9 z x.2.1 zb ta ka x.2.1 (nI (x.2.2.1 + szS mid)) t0 t1 t2 hb9) (cwV 2 hg (gw_V gw_397 gw_399 gw_18 gw_28 gw_400) rfl rfl rfl (by decide +kernel) ⟨Nat.le_of_ble_eq_true rfl, Nat.le_of_ble_eq_true rfl⟩) (pre_wrV hP hK hN hD hS hAN hN0 hE (ci := 2) (k := 0) rfl rfl) rfl rfl hl.1 rfl (lv_room (Nat.le_of_ble_eq_true rfl)) d_M_step_150 ⟨Nat.le_of_ble_eq_true rfl, Nat.le_of_ble_eq_true rfl⟩) hS (fun q _ h => hFc q h) hFc (fun u t H locs ht hvm hw hB hz1 hk1 hS => ?_)
                        obtain ⟨hP, hK1, hD1⟩ := hB
                        rw [ht] at hP
                        have hD := hD1.weaken (fun _ _ _ h => hFc _ h)
                        clear hK1 hD1 hFc hk1 hz1
                        subst hw
                        replace hP : va_P D classes [(hm, .inr (2, [.int th, .int (nI cn), .ref qs, .ref qt, .ref qm, .int (nI (nw + 1)), .int v, .int w9, .int z, .int (nI x.2.1)])), (qs, .inl (cI, 16386, .inl (upd zb x.2.1 (0 - nI (x.2.2.1 + szS mid))))), (qt, .inl (cJ, 16386, .inl (upd ta x.2.1 (nI (nw + 1))))), (qm, .inl (cZ, 16386, .inl (upd ka x.2.1 0)))] _ := hP
                        replace hD : va_D A [(hm, .inr (2, [.int th, .int (nI cn), .ref qs, .ref qt, .ref qm, .int (nI (nw + 1)), .int v, .int w9, .int z, .int (nI x.2.1)])), (qs, .inl (cI, 16386, .inl (upd zb x.2.1 (0 - nI (x.2.2.1 + szS mid))))), (qt, .inl (cJ, 16386, .inl (upd ta x.2.1 (nI (nw + 1))))), (qm, .inl (cZ, 16386, .inl (upd ka x.2.1 0)))] := hD
                        refine lv_aload_n hx hb d_M_step_153 rfl (lv_at hl 3 rfl) ?_
                        refine lv_iload_n hx hb d_M_step_154 rfl (lv_at hl 0 rfl) ?_
                        refine va_put (D := D) (ci := 2) (v := .int (nI y.2.1)) (ty := .int) (C := R_M) (T := F_M) (N := 10) hx hb hg gi_M t_M t_M_ok n_M hown hK hP hD hS 0 rfl rfl 9 (by decide) (hg _ gw_361) (fun _ h9 => h9) rfl (by decide +kernel) rfl rfl (Nat.le_of_ble_eq_true rfl) d_M_step_155 (fun H locs hP hD hS => ?_)
                        replace hP : va_P D classes [(hm, .inr (2, [.int th, .int (nI cn), .ref qs, .ref qt, .ref qm, .int (nI (nw + 1)), .int v, .int w9, .int z, .int (nI y.2.1)])), (qs, .inl (cI, 16386, .inl (upd zb x.2.1 (0 - nI (x.2.2.1 + szS mid))))), (qt, .inl (cJ, 16386, .inl (upd ta x.2.1 (nI (nw + 1))))), (qm, .inl (cZ, 16386, .inl (upd ka x.2.1 0)))] _ := hP
                        replace hD : va_D A [(hm, .inr (2, [.int th, .int (nI cn), .ref qs, .ref qt, .ref qm, .int (nI (nw + 1)), .int v, .int w9, .int z, .int (nI y.2.1)])), (qs, .inl (cI, 16386, .inl (upd zb x.2.1 (0 - nI (x.2.2.1 + szS mid))))), (qt, .inl (cJ, 16386, .inl (upd ta x.2.1 (nI (nw + 1))))), (qm, .inl (cZ, 16386, .inl (upd ka x.2.1 0)))] := hD
                        obtain ⟨e1, e2, e3⟩ := gaX_f (f := f) hE9
                        rw [hgm] at e1 e3
                        have hIn : Inv cn f nw (pre ++ x :: (mid ++ gaR suf)) za ta ka := by rw [← hsu]; exact hI
                        have hmk9 : ∀ q ∈ mid, q.2.2.2.2.1 = false := fun q hq => by have h9 := gaM_keep (suf := suf) (y := q) (by rw [hgm]; exact hq); cases h8 : q.2.2.2.2.1; rfl; have h7 := hI.2.2.2.2 q (by rw [hsu]; simp [hq]) h8; simp [isKp, h7, h8] at h9
                        refine W.widen (k := 0) (n := 0) (Nat.le_of_ble_eq_true rfl) (Nat.le_of_ble_eq_true rfl) ?_
                        exact W.vret hx hb hr (fun t ht hW => ⟨⟨_, rfl, ⟨nw + 1, _, _, _, by rw [s3, e2]; omega, Nat.le_refl _, by rw [s2, s4, e3, hhe, hxu, hm5]; rfl, by rw [s1, s2, s3, e1, e2]; exact hIn.gather hm6 hm7 hmk9 hnw⟩, at2.of hP hK hD ht hW⟩, hS.F ht⟩) hS.2.2 d_M_step_158
                  · have hyk : y.2.2.2.2.1 = false := bI_0.mp c_67
                    have hky : isKp y = false := by simp [isKp, hyk]
                    refine lv_aload_n hx hb d_M_step_70 rfl (lv_at hl 3 rfl) ?_
                    refine lv_iload_n hx hb d_M_step_71 rfl (lv_at hl 0 rfl) ?_
                    refine vp_callSi (va_runV (As := [.int (nI y.2.1)]) (rest := []) ⟨hx, hb, hml, hown, hg⟩ (c_M_length l D ty hm qs qt qm cI cJ cZ th cn nw v w9 z x.2.1 zb ta ka y.2.1 t0 t1 t2 yhb9) (cwV 1 hg (gw_V gw_409 gw_411 gw_20 gw_28 gw_412) rfl rfl rfl (by decide +kernel) ⟨Nat.le_of_ble_eq_true rfl, Nat.le_of_ble_eq_true rfl⟩) (pre_roV hP hK hN (ci := 2) (k := 0) rfl rfl) rfl rfl hl.1 rfl (lv_room (Nat.le_of_ble_eq_true rfl)) d_M_step_72 ⟨Nat.le_of_ble_eq_true rfl, Nat.le_of_ble_eq_true rfl⟩).run (fun r2 hr2 => ?_)
                    replace hr2 : r2 = nI y.2.2.1 := by rw [hr2, yhz, lenF_x yhn1 yhn2]
                    subst hr2
                    refine lv_istore (lv' := [(5, .int (nI y.2.2.1)), (2, .int (nI y.2.1)), (3, .int (nI pn)), (4, .int 0), (0, .ref hm), (1, .int (nI x.2.1))]) hx hb d_M_step_75 hl (by decide) rfl (fun ls hl => ?_)
                    refine lv_aload_n hx hb d_M_step_77 rfl (lv_at hl 4 rfl) ?_
                    refine lv_aload_n hx hb d_M_step_78 rfl (lv_at hl 4 rfl) ?_
                    refine va_get (D := D) (ci := 2) (v := .ref qs) (C := R_M) (T := F_M) (N := 10) hx hb hg gi_M hown hK hP 0 rfl rfl 2 (by decide) (hg _ gw_354) (fun _ h9 => h9) rfl d_M_step_79 ?_
                    refine lv_iload_n hx hb d_M_step_82 rfl (lv_at hl 1 rfl) ?_
                    refine va_iald hx hb hK hP 1 0 rfl t0 (vp_in_nI yhb9 (by decide)) d_M_step_83 ?_
                    refine lv_topi (fun y20 ey20 => ?_)
                    obtain rfl : y20 = zb y.2.1 := ey20.trans (congrArg zb (nI_clamp (Nat.lt_trans yhb9 (by decide))))
                    clear ey20
                    refine lv_topi (fun y21 ey21 => ?_)
                    obtain rfl : y21 = szV y := ey21.trans yhz
                    clear ey21
                    refine lv_if_le (tgt := 96) hx hb d_M_step_84 (by decide) (fun c_84 => ?_) (fun c_84 => ?_)
                    · have hyu : y.2.2.2.1 = false := (szV_pos yhn1 yhn2).mp c_84
                      refine lv_aload_n hx hb d_M_step_96 rfl (lv_at hl 4 rfl) ?_
                      refine va_get (D := D) (ci := 2) (v := .int w9) (C := R_M) (T := F_M) (N := 10) hx hb hg gi_M hown hK hP 0 rfl rfl 7 (by decide) (hg _ gw_359) (fun _ h9 => h9) rfl d_M_step_97 ?_
                      refine va_put (D := D) (ci := 2) (v := .int w9) (ty := .int) (C := R_M) (T := F_M) (N := 10) hx hb hg gi_M t_M t_M_ok n_M hown hK hP hD hS 0 rfl rfl 7 (by decide) (hg _ gw_359) (fun _ h9 => h9) rfl (by decide +kernel) rfl rfl (Nat.le_of_ble_eq_true rfl) d_M_step_100 (fun H locs hP hD hS => ?_)
                      replace hP : va_P D classes [(hm, .inr (2, [.int th, .int (nI cn), .ref qs, .ref qt, .ref qm, .int (nI nw), .int v, .int w9, .int z, .int (nI x.2.1)])), (qs, .inl (cI, 16386, .inl zb)), (qt, .inl (cJ, 16386, .inl ta)), (qm, .inl (cZ, 16386, .inl ka))] _ := hP
                      replace hD : va_D A [(hm, .inr (2, [.int th, .int (nI cn), .ref qs, .ref qt, .ref qm, .int (nI nw), .int v, .int w9, .int z, .int (nI x.2.1)])), (qs, .inl (cI, 16386, .inl zb)), (qt, .inl (cJ, 16386, .inl ta)), (qm, .inl (cZ, 16386, .inl ka))] := hD
                      refine lv_aload_n hx hb d_M_step_103 rfl (lv_at hl 4 rfl) ?_
                      refine va_get (D := D) (ci := 2) (v := .ref qs) (C := R_M) (T := F_M) (N := 10) hx hb hg gi_M hown hK hP 0 rfl rfl 2 (by decide) (hg _ gw_354) (fun _ h9 => h9) rfl d_M_step_104 ?_
                      refine lv_iload_n hx hb d_M_step_107 rfl (lv_at hl 1 rfl) ?_
                      refine lv_iload_n hx hb d_M_step_108 rfl (lv_at hl 1 rfl) ?_
                      refine lv_iload_n hx hb d_M_step_109 rfl (lv_at hl 5 rfl) ?_
                      refine lv_icmp_ne (tgt := 122) hx hb d_M_step_110 (by decide) (fun c_110 => ?_) (fun c_110 => ?_)
                      · refine lv_iconst (v := 0) hx hb d_M_step_122 (by decide) ?_
                        refine va_iast hx hb hK hP hD hS 1 0 rfl t0 (vp_in_nI yhb9 (by decide)) d_M_step_123 (fun H locs hP hD hS => ?_)
                        rw [nI_clamp (Nat.lt_trans yhb9 (by decide))] at hP hD
                        replace hP : va_P D classes [(hm, .inr (2, [.int th, .int (nI cn), .ref qs, .ref qt, .ref qm, .int (nI nw), .int v, .int w9, .int z, .int (nI x.2.1)])), (qs, .inl (cI, 16386, .inl (upd zb y.2.1 0))), (qt, .inl (cJ, 16386, .inl ta)), (qm, .inl (cZ, 16386, .inl ka))] _ := hP
                        replace hD : va_D A [(hm, .inr (2, [.int th, .int (nI cn), .ref qs, .ref qt, .ref qm, .int (nI nw), .int v, .int w9, .int z, .int (nI x.2.1)])), (qs, .inl (cI, 16386, .inl (upd zb y.2.1 0))), (qt, .inl (cJ, 16386, .inl ta)), (qm, .inl (cZ, 16386, .inl ka))] := hD
                        obtain ⟨j22, ej22⟩ : ∃ y : Int32, y = (nI pn) + 1 := ⟨_, rfl⟩
                        refine lv_iinc (v := j22) (lv' := [(3, .int j22), (5, .int (nI y.2.2.1)), (2, .int (nI y.2.1)), (4, .int 0), (0, .ref hm), (1, .int (nI x.2.1))]) hx hb d_M_step_124 hl (k := 2) rfl (by rw [ej22]; rfl) (by decide) rfl (fun ls hl => ?_)
                        refine lv_iload_n hx hb d_M_step_127 rfl (lv_at hl 2 rfl) ?_
                        refine lv_iload hx hb d_M_step_128 (lv_at hl 1 rfl) ?_
                        refine lv_iadd hx hb d_M_step_130 ?_
                        refine lv_topi (fun y23 ey23 => ?_)
                        obtain rfl : y23 = nI (y.2.1 + y.2.2.1) := ey23.trans (nI_add _ _)
                        clear ey23
                        refine lv_istore_n (lv' := [(2, .int (nI (y.2.1 + y.2.2.1))), (3, .int j22), (5, .int (nI y.2.2.1)), (4, .int 0), (0, .ref hm), (1, .int (nI x.2.1))]) hx hb d_M_step_131 rfl hl (by decide) rfl (fun ls hl => ?_)
                        refine lv_goto (tgt := 53) hx hb d_M_step_132 (by decide) ?_
                        rw [nI_1] at ej22
                        subst ej22
                        have hq5 : w9 = w + nI (1 + usS (mid ++ [y])) := by rw [usS_app, hm5, show usS [y] = 0 from by simp [usS, hyu]]; rfl
                        have hq6 : ∀ q ∈ mid ++ [y], upd zb y.2.1 0 q.2.1 = 0 := fun q hq => by
                          rcases List.mem_append.mp hq with h9 | h9
                          · rw [upd_n _ _ (hym q h9)]; exact hm6 q h9
                          · cases List.mem_singleton.mp h9; exact upd_s _ _ _
                        have hq7 : ∀ a, (∀ q ∈ mid ++ [y], q.2.1 ≠ a) → upd zb y.2.1 0 a = za a := fun a ha => by
                          rw [upd_n _ _ (Ne.symm (ha y (by simp)))]
                          exact hm7 a (fun q hq => ha q (List.mem_append_left _ hq))
                        exact ih ls (y.2.1 + y.2.2.1) (pn + 1) w9 (upd zb y.2.1 0) _ _ (lv_sub hl [0, 1, 3, 4, 5] rfl) ⟨mid ++ [y], by rw [hm1, List.append_assoc]; rfl, by rw [hm2, gaM, if_neg (by rw [hky]; decide), List.append_assoc]; rfl, by rw [hm3, gaR, if_neg (by rw [hky]; decide)], by rw [hm4, List.length_append]; rfl, hq5, hq6, hq7⟩ hd3 hP hD hS
                      · exact absurd ((nI_eq (by omega) (by omega)).mp c_110) hyx
                    · have hyu : y.2.2.2.1 = true := by cases hu : y.2.2.2.1; exact absurd ((szV_pos yhn1 yhn2).mpr hu) c_84; rfl
                      refine lv_aload_n hx hb d_M_step_87 rfl (lv_at hl 4 rfl) ?_
                      refine va_get (D := D) (ci := 2) (v := .int w9) (C := R_M) (T := F_M) (N := 10) hx hb hg gi_M hown hK hP 0 rfl rfl 7 (by decide) (hg _ gw_359) (fun _ h9 => h9) rfl d_M_step_88 ?_
                      refine lv_iconst (v := 1) hx hb d_M_step_91 (by decide) ?_
                      refine lv_iadd hx hb d_M_step_92 ?_
                      refine lv_goto (tgt := 100) hx hb d_M_step_93 (by decide) ?_
                      refine va_put (D := D) (ci := 2) (v := .int (w9 + 1)) (ty := .int) (C := R_M) (T := F_M) (N := 10) hx hb hg gi_M t_M t_M_ok n_M hown hK hP hD hS 0 rfl rfl 7 (by decide) (hg _ gw_359) (fun _ h9 => h9) rfl (by decide +kernel) rfl rfl (Nat.le_of_ble_eq_true rfl) d_M_step_100 (fun H locs hP hD hS => ?_)
                      replace hP : va_P D classes [(hm, .inr (2, [.int th, .int (nI cn), .ref qs, .ref qt, .ref qm, .int (nI nw), .int v, .int (w9 + 1), .int z, .int (nI x.2.1)])), (qs, .inl (cI, 16386, .inl zb)), (qt, .inl (cJ, 16386, .inl ta)), (qm, .inl (cZ, 16386, .inl ka))] _ := hP
                      replace hD : va_D A [(hm, .inr (2, [.int th, .int (nI cn), .ref qs, .ref qt, .ref qm, .int (nI nw), .int v, .int (w9 + 1), .int z, .int (nI x.2.1)])), (qs, .inl (cI, 16386, .inl zb)), (qt, .inl (cJ, 16386, .inl ta)), (qm, .inl (cZ, 16386, .inl ka))] := hD
                      refine lv_aload_n hx hb d_M_step_103 rfl (lv_at hl 4 rfl) ?_
                      refine va_get (D := D) (ci := 2) (v := .ref qs) (C := R_M) (T := F_M) (N := 10) hx hb hg gi_M hown hK hP 0 rfl rfl 2 (by decide) (hg _ gw_354) (fun _ h9 => h9) rfl d_M_step_104 ?_
                      refine lv_iload_n hx hb d_M_step_107 rfl (lv_at hl 1 rfl) ?_
                      refine lv_iload_n hx hb d_M_step_108 rfl (lv_at hl 1 rfl) ?_
                      refine lv_iload_n hx hb d_M_step_109 rfl (lv_at hl 5 rfl) ?_
                      refine lv_icmp_ne (tgt := 122) hx hb d_M_step_110 (by decide) (fun c_110 => ?_) (fun c_110 => ?_)
                      · refine lv_iconst (v := 0) hx hb d_M_step_122 (by decide) ?_
                        refine va_iast hx hb hK hP hD hS 1 0 rfl t0 (vp_in_nI yhb9 (by decide)) d_M_step_123 (fun H locs hP hD hS => ?_)
                        rw [nI_clamp (Nat.lt_trans yhb9 (by decide))] at hP hD
                        replace hP : va_P D classes [(hm, .inr (2, [.int th, .int (nI cn), .ref qs, .ref qt, .ref qm, .int (nI nw), .int v, .int (w9 + 1), .int z, .int (nI x.2.1)])), (qs, .inl (cI, 16386, .inl (upd zb y.2.1 0))), (qt, .inl (cJ, 16386, .inl ta)), (qm, .inl (cZ, 16386, .inl ka))] _ := hP
                        replace hD : va_D A [(hm, .inr (2, [.int th, .int (nI cn), .ref qs, .ref qt, .ref qm, .int (nI nw), .int v, .int (w9 + 1), .int z, .int (nI x.2.1)])), (qs, .inl (cI, 16386, .inl (upd zb y.2.1 0))), (qt, .inl (cJ, 16386, .inl ta)), (qm, .inl (cZ, 16386, .inl ka))] := hD
                        obtain ⟨j24, ej24⟩ : ∃ y : Int32, y = (nI pn) + 1 := ⟨_, rfl⟩
                        refine lv_iinc (v := j24) (lv' := [(3, .int j24), (5, .int (nI y.2.2.1)), (2, .int (nI y.2.1)), (4, .int 0), (0, .ref hm), (1, .int (nI x.2.1))]) hx hb d_M_step_124 hl (k := 2) rfl (by rw [ej24]; rfl) (by decide) rfl (fun ls hl => ?_)
                        refine lv_iload_n hx hb d_M_step_127 rfl (lv_at hl 2 rfl) ?_
                        refine lv_iload hx hb d_M_step_128 (lv_at hl 1 rfl) ?_
                        refine lv_iadd hx hb d_M_step_130 ?_
                        refine lv_topi (fun y25 ey25 => ?_)
                        obtain rfl : y25 = nI (y.2.1 + y.2.2.1) := ey25.trans (nI_add _ _)
                        clear ey25
                        refine lv_istore_n (lv' := [(2, .int (nI (y.2.1 + y.2.2.1))), (3, .int j24), (5, .int (nI y.2.2.1)), (4, .int 0), (0, .ref hm), (1, .int (nI x.2.1))]) hx hb d_M_step_131 rfl hl (by decide) rfl (fun ls hl => ?_)
                        refine lv_goto (tgt := 53) hx hb d_M_step_132 (by decide) ?_
                        rw [nI_1] at ej24
                        subst ej24
                        have hq5 : (w9 + 1) = w + nI (1 + usS (mid ++ [y])) := by rw [usS_app, hm5, show usS [y] = 1 from by simp [usS, hyu]]; rw [show (1 : Int32) = nI 1 from rfl, Int32.add_assoc, nI_add, Nat.add_assoc]
                        have hq6 : ∀ q ∈ mid ++ [y], upd zb y.2.1 0 q.2.1 = 0 := fun q hq => by
                          rcases List.mem_append.mp hq with h9 | h9
                          · rw [upd_n _ _ (hym q h9)]; exact hm6 q h9
                          · cases List.mem_singleton.mp h9; exact upd_s _ _ _
                        have hq7 : ∀ a, (∀ q ∈ mid ++ [y], q.2.1 ≠ a) → upd zb y.2.1 0 a = za a := fun a ha => by
                          rw [upd_n _ _ (Ne.symm (ha y (by simp)))]
                          exact hm7 a (fun q hq => ha q (List.mem_append_left _ hq))
                        exact ih ls (y.2.1 + y.2.2.1) (pn + 1) (w9 + 1) (upd zb y.2.1 0) _ _ (lv_sub hl [0, 1, 3, 4, 5] rfl) ⟨mid ++ [y], by rw [hm1, List.append_assoc]; rfl, by rw [hm2, gaM, if_neg (by rw [hky]; decide), List.append_assoc]; rfl, by rw [hm3, gaR, if_neg (by rw [hky]; decide)], by rw [hm4, List.length_append]; rfl, hq5, hq6, hq7⟩ hd3 hP hD hS
                      · exact absurd ((nI_eq (by omega) (by omega)).mp c_110) hyx
    · refine lv_iconst (v := 1) hx hb d_M_step_46 (by decide) ?_
      refine lv_goto (tgt := 51) hx hb d_M_step_47 (by decide) ?_
      have hxu : x.2.2.2.1 = false := (szV_neg hn1 hn2).mp (Int32.not_le.mp c_43)
      refine lv_istore (lv' := [(4, .int 1), (3, .int 0), (2, .int (nI x.2.1)), (1, .int (nI x.2.1)), (0, .ref hm)]) hx hb d_M_step_51 hl (by decide) rfl (fun ls hl => ?_)
      refine lv_iload_n hx hb d_M_step_53 rfl (lv_at hl 2 rfl) ?_
      refine lv_aload_n hx hb d_M_step_54 rfl (lv_at hl 4 rfl) ?_
      refine va_get (D := D) (ci := 2) (v := .int (nI cn)) (C := R_M) (T := F_M) (N := 10) hx hb hg gi_M hown hK hP 0 rfl rfl 1 (by decide) (hg _ gw_353) (fun _ h9 => h9) rfl d_M_step_55 ?_
      refine lv_icmp_gt (tgt := 135) hx hb d_M_step_58 (by decide) (fun c_58 => ?_) (fun c_58 => ?_)
      · exact absurd ((nI_ltI (by omega) (by omega)).mp c_58) (by omega)
      · refine lv_aload_n hx hb d_M_step_61 rfl (lv_at hl 4 rfl) ?_
        refine va_get (D := D) (ci := 2) (v := .ref qm) (C := R_M) (T := F_M) (N := 10) hx hb hg gi_M hown hK hP 0 rfl rfl 4 (by decide) (hg _ gw_356) (fun _ h9 => h9) rfl d_M_step_62 ?_
        refine lv_iload_n hx hb d_M_step_65 rfl (lv_at hl 2 rfl) ?_
        refine va_zald hx hb hK hP 3 2 rfl t2 (vp_in_nI hb9 (by decide)) d_M_step_66 ?_
        refine lv_topi (fun y26 ey26 => ?_)
        obtain rfl : y26 = ka x.2.1 := ey26.trans (congrArg ka (nI_clamp (Nat.lt_trans hb9 (by decide))))
        clear ey26
        refine lv_topi (fun y27 ey27 => ?_)
        obtain rfl : y27 = bI x.2.2.2.2.1 := ey27.trans hx2
        clear ey27
        refine lv_if_ne (tgt := 135) hx hb d_M_step_67 (by decide) (fun c_67 => ?_) (fun c_67 => ?_)
        · exact absurd (by rw [hxk]; rfl) c_67
        · refine lv_aload_n hx hb d_M_step_70 rfl (lv_at hl 4 rfl) ?_
          refine lv_iload_n hx hb d_M_step_71 rfl (lv_at hl 2 rfl) ?_
          refine vp_callSi (va_runV (As := [.int (nI x.2.1)]) (rest := []) ⟨hx, hb, hml, hown, hg⟩ (c_M_length l D ty hm qs qt qm cI cJ cZ th cn nw v w z x.2.1 za ta ka x.2.1 t0 t1 t2 hb9) (cwV 1 hg (gw_V gw_409 gw_411 gw_20 gw_28 gw_412) rfl rfl rfl (by decide +kernel) ⟨Nat.le_of_ble_eq_true rfl, Nat.le_of_ble_eq_true rfl⟩) (pre_roV hP hK hN (ci := 2) (k := 0) rfl rfl) rfl rfl hl.1 rfl (lv_room (Nat.le_of_ble_eq_true rfl)) d_M_step_72 ⟨Nat.le_of_ble_eq_true rfl, Nat.le_of_ble_eq_true rfl⟩).run (fun r1 hr1 => ?_)
          replace hr1 : r1 = nI x.2.2.1 := by rw [hr1, hx1, lenF_x hn1 hn2]
          subst hr1
          refine lv_istore (lv' := [(5, .int (nI x.2.2.1)), (4, .int 1), (3, .int 0), (2, .int (nI x.2.1)), (1, .int (nI x.2.1)), (0, .ref hm)]) hx hb d_M_step_75 hl (by decide) rfl (fun ls hl => ?_)
          refine lv_aload_n hx hb d_M_step_77 rfl (lv_at hl 5 rfl) ?_
          refine lv_aload_n hx hb d_M_step_78 rfl (lv_at hl 5 rfl) ?_
          refine va_get (D := D) (ci := 2) (v := .ref qs) (C := R_M) (T := F_M) (N := 10) hx hb hg gi_M hown hK hP 0 rfl rfl 2 (by decide) (hg _ gw_354) (fun _ h9 => h9) rfl d_M_step_79 ?_
          refine lv_iload_n hx hb d_M_step_82 rfl (lv_at hl 3 rfl) ?_
          refine va_iald hx hb hK hP 1 0 rfl t0 (vp_in_nI hb9 (by decide)) d_M_step_83 ?_
          refine lv_topi (fun y28 ey28 => ?_)
          obtain rfl : y28 = za x.2.1 := ey28.trans (congrArg za (nI_clamp (Nat.lt_trans hb9 (by decide))))
          clear ey28
          refine lv_topi (fun y29 ey29 => ?_)
          obtain rfl : y29 = szV x := ey29.trans hx1
          clear ey29
          refine lv_if_le (tgt := 96) hx hb d_M_step_84 (by decide) (fun c_84 => ?_) (fun c_84 => ?_)
          · refine lv_aload_n hx hb d_M_step_96 rfl (lv_at hl 5 rfl) ?_
            refine va_get (D := D) (ci := 2) (v := .int w) (C := R_M) (T := F_M) (N := 10) hx hb hg gi_M hown hK hP 0 rfl rfl 7 (by decide) (hg _ gw_359) (fun _ h9 => h9) rfl d_M_step_97 ?_
            refine va_put (D := D) (ci := 2) (v := .int w) (ty := .int) (C := R_M) (T := F_M) (N := 10) hx hb hg gi_M t_M t_M_ok n_M hown hK hP hD hS 0 rfl rfl 7 (by decide) (hg _ gw_359) (fun _ h9 => h9) rfl (by decide +kernel) rfl rfl (Nat.le_of_ble_eq_true rfl) d_M_step_100 (fun H locs hP hD hS => ?_)
            replace hP : va_P D classes [(hm, .inr (2, [.int th, .int (nI cn), .ref qs, .ref qt, .ref qm, .int (nI nw), .int v, .int w, .int z, .int (nI x.2.1)])), (qs, .inl (cI, 16386, .inl za)), (qt, .inl (cJ, 16386, .inl ta)), (qm, .inl (cZ, 16386, .inl ka))] _ := hP
            replace hD : va_D A [(hm, .inr (2, [.int th, .int (nI cn), .ref qs, .ref qt, .ref qm, .int (nI nw), .int v, .int w, .int z, .int (nI x.2.1)])), (qs, .inl (cI, 16386, .inl za)), (qt, .inl (cJ, 16386, .inl ta)), (qm, .inl (cZ, 16386, .inl ka))] := hD
            refine lv_aload_n hx hb d_M_step_103 rfl (lv_at hl 5 rfl) ?_
            refine va_get (D := D) (ci := 2) (v := .ref qs) (C := R_M) (T := F_M) (N := 10) hx hb hg gi_M hown hK hP 0 rfl rfl 2 (by decide) (hg _ gw_354) (fun _ h9 => h9) rfl d_M_step_104 ?_
            refine lv_iload_n hx hb d_M_step_107 rfl (lv_at hl 3 rfl) ?_
            refine lv_iload_n hx hb d_M_step_108 rfl (lv_at hl 3 rfl) ?_
            refine lv_iload_n hx hb d_M_step_109 rfl (lv_at hl 4 rfl) ?_
            refine lv_icmp_ne (tgt := 122) hx hb d_M_step_110 (by decide) (fun c_110 => ?_) (fun c_110 => ?_)
            · exact absurd rfl c_110
            · refine lv_aload_n hx hb d_M_step_113 rfl (lv_at hl 5 rfl) ?_
              refine va_get (D := D) (ci := 2) (v := .ref qs) (C := R_M) (T := F_M) (N := 10) hx hb hg gi_M hown hK hP 0 rfl rfl 2 (by decide) (hg _ gw_354) (fun _ h9 => h9) rfl d_M_step_114 ?_
              refine lv_iload_n hx hb d_M_step_117 rfl (lv_at hl 3 rfl) ?_
              refine va_iald hx hb hK hP 1 0 rfl t0 (vp_in_nI hb9 (by decide)) d_M_step_118 ?_
              refine lv_topi (fun y30 ey30 => ?_)
              obtain rfl : y30 = za x.2.1 := ey30.trans (congrArg za (nI_clamp (Nat.lt_trans hb9 (by decide))))
              clear ey30
              refine lv_topi (fun y31 ey31 => ?_)
              obtain rfl : y31 = szV x := ey31.trans hx1
              clear ey31
              refine lv_goto (tgt := 123) hx hb d_M_step_119 (by decide) ?_
              refine va_iast hx hb hK hP hD hS 1 0 rfl t0 (vp_in_nI hb9 (by decide)) d_M_step_123 (fun H locs hP hD hS => ?_)
              rw [nI_clamp (Nat.lt_trans hb9 (by decide))] at hP hD
              replace hP : va_P D classes [(hm, .inr (2, [.int th, .int (nI cn), .ref qs, .ref qt, .ref qm, .int (nI nw), .int v, .int w, .int z, .int (nI x.2.1)])), (qs, .inl (cI, 16386, .inl (upd za x.2.1 (szV x)))), (qt, .inl (cJ, 16386, .inl ta)), (qm, .inl (cZ, 16386, .inl ka))] _ := hP
              replace hD : va_D A [(hm, .inr (2, [.int th, .int (nI cn), .ref qs, .ref qt, .ref qm, .int (nI nw), .int v, .int w, .int z, .int (nI x.2.1)])), (qs, .inl (cI, 16386, .inl (upd za x.2.1 (szV x)))), (qt, .inl (cJ, 16386, .inl ta)), (qm, .inl (cZ, 16386, .inl ka))] := hD
              rw [upd_same za x.2.1 hx1] at hP hD
              replace hP : va_P D classes [(hm, .inr (2, [.int th, .int (nI cn), .ref qs, .ref qt, .ref qm, .int (nI nw), .int v, .int w, .int z, .int (nI x.2.1)])), (qs, .inl (cI, 16386, .inl za)), (qt, .inl (cJ, 16386, .inl ta)), (qm, .inl (cZ, 16386, .inl ka))] _ := hP
              replace hD : va_D A [(hm, .inr (2, [.int th, .int (nI cn), .ref qs, .ref qt, .ref qm, .int (nI nw), .int v, .int w, .int z, .int (nI x.2.1)])), (qs, .inl (cI, 16386, .inl za)), (qt, .inl (cJ, 16386, .inl ta)), (qm, .inl (cZ, 16386, .inl ka))] := hD
              obtain ⟨j32, ej32⟩ : ∃ y : Int32, y = 0 + 1 := ⟨_, rfl⟩
              refine lv_iinc (v := j32) (lv' := [(3, .int j32), (5, .int (nI x.2.2.1)), (4, .int 1), (2, .int (nI x.2.1)), (1, .int (nI x.2.1)), (0, .ref hm)]) hx hb d_M_step_124 hl (k := 2) rfl (by rw [ej32]; rfl) (by decide) rfl (fun ls hl => ?_)
              refine lv_iload_n hx hb d_M_step_127 rfl (lv_at hl 3 rfl) ?_
              refine lv_iload hx hb d_M_step_128 (lv_at hl 1 rfl) ?_
              refine lv_iadd hx hb d_M_step_130 ?_
              refine lv_topi (fun y33 ey33 => ?_)
              obtain rfl : y33 = nI (x.2.1 + x.2.2.1) := ey33.trans (nI_add _ _)
              clear ey33
              refine lv_istore_n (lv' := [(2, .int (nI (x.2.1 + x.2.2.1))), (3, .int j32), (5, .int (nI x.2.2.1)), (4, .int 1), (1, .int (nI x.2.1)), (0, .ref hm)]) hx hb d_M_step_131 rfl hl (by decide) rfl (fun ls hl => ?_)
              refine lv_goto (tgt := 53) hx hb d_M_step_132 (by decide) ?_
              obtain ⟨rs, hs⟩ : ∃ q, q = suf := ⟨_, rfl⟩
              obtain ⟨e9, he9⟩ : ∃ q : Nat, q = x.2.1 + x.2.2.1 := ⟨_, rfl⟩
              obtain ⟨pn, hpn⟩ : ∃ q : Nat, q = 1 := ⟨_, rfl⟩
              obtain ⟨w9, hw9⟩ : ∃ q : Int32, q = w := ⟨_, rfl⟩
              obtain ⟨zb, hzb⟩ : ∃ q, q = za := ⟨_, rfl⟩
              replace hl := lv_sub hl [0, 1, 3, 5, 4] rfl
              replace hl : lv_has ls 6 [(2, .int (nI (x.2.1 + x.2.2.1))), (3, .int j32), (4, .int 1), (0, .ref hm), (1, .int (nI x.2.1))] := hl
              replace hl : lv_has ls 6 [(2, .int (nI e9)), (3, .int (nI pn)), (4, .int 1), (0, .ref hm), (1, .int (nI x.2.1))] := by rw [he9, hpn]; rw [ej32] at hl; exact hl
              replace hP : va_P D classes [(hm, .inr (2, [.int th, .int (nI cn), .ref qs, .ref qt, .ref qm, .int (nI nw), .int v, .int w9, .int z, .int (nI x.2.1)])), (qs, .inl (cI, 16386, .inl zb)), (qt, .inl (cJ, 16386, .inl ta)), (qm, .inl (cZ, 16386, .inl ka))] H := by rw [hw9, hzb]; exact hP
              replace hD : va_D A [(hm, .inr (2, [.int th, .int (nI cn), .ref qs, .ref qt, .ref qm, .int (nI nw), .int v, .int w9, .int z, .int (nI x.2.1)])), (qs, .inl (cI, 16386, .inl zb)), (qt, .inl (cJ, 16386, .inl ta)), (qm, .inl (cZ, 16386, .inl ka))] := by rw [hw9, hzb]; exact hD
              have hmid : ∃ mid, suf = mid ++ rs ∧ gaM suf = mid ++ gaM rs ∧ gaR suf = gaR rs ∧ pn = mid.length + 1 ∧ w9 = w + nI (0 + usS mid) ∧ (∀ y ∈ mid, zb y.2.1 = 0) ∧ (∀ a, (∀ y ∈ mid, y.2.1 ≠ a) → zb a = za a) := ⟨[], hs.symm, by rw [hs]; rfl, by rw [hs], hpn, by rw [hw9, show nI (0 + usS []) = 0 from rfl, Int32.add_zero], fun y h9 => (by cases h9), fun a _ => (by rw [hzb])⟩
              have hTi : Til e9 rs (cn + 1) := by rw [hs, he9]; exact ht3
              clear hs he9 hpn hw9 hzb ej32
              revert hS
              revert hD
              revert hP
              revert hTi
              revert hmid
              revert hl
              revert locs
              revert H
              revert zb
              revert w9
              revert pn
              revert e9
              revert ls
              induction rs with
              | nil =>
                intro ls e9 pn w9 zb H locs hl hmid hTi hP hD hS
                replace hTi : e9 = cn + 1 := hTi
                obtain ⟨mid, hm1, hm2, hm3, hm4, hm5, hm6, hm7⟩ := hmid
                refine lv_iload_n hx hb d_M_step_53 rfl (lv_at hl 0 rfl) ?_
                refine lv_aload_n hx hb d_M_step_54 rfl (lv_at hl 3 rfl) ?_
                refine va_get (D := D) (ci := 2) (v := .int (nI cn)) (C := R_M) (T := F_M) (N := 10) hx hb hg gi_M hown hK hP 0 rfl rfl 1 (by decide) (hg _ gw_353) (fun _ h9 => h9) rfl d_M_step_55 ?_
                refine lv_icmp_gt (tgt := 135) hx hb d_M_step_58 (by decide) (fun c_58 => ?_) (fun c_58 => ?_)
                · have hgm : gaM suf = mid := by rw [hm2]; exact List.append_nil mid
                  have hgr : gaR suf = [] := hm3
                  have hmt : Til (x.2.1 + x.2.2.1) mid e9 := by rw [hm1, List.append_nil] at ht3; rw [hTi]; exact ht3
                  have hsu : suf = mid ++ gaR suf := by rw [hgr]; exact hm1
                  have hhe : hdE (gaR suf) (cn + 1) = e9 := by rw [hgr, hTi]; rfl
                  have hee := szS_til hmt
                  have s2 : stS x suf = gaR suf := by unfold stS; rw [hkx]; rfl
                  have s1 : stX f x suf = gaX f x suf := by unfold stX; rw [hkx]; rfl
                  have s3 : stF f x suf = gaF f x suf := by unfold stF; rw [hkx]; rfl
                  have s4 : stW x suf = gaW x suf := by unfold stW; rw [hkx]; rfl
                  refine lv_iload_n hx hb d_M_step_135 rfl (lv_at hl 1 rfl) ?_
                  refine lv_iconst (v := 1) hx hb d_M_step_136 (by decide) ?_
                  refine lv_icmp_gt (tgt := 145) hx hb d_M_step_137 (by decide) (fun c_137 => ?_) (fun c_137 => ?_)
                  · have hE9 : gaE x suf = false := by unfold gaE; rw [hxu, hgm]; cases mid with | nil => exact absurd c_137 (by rw [hm4]; decide) | cons q m => rfl
                    refine lv_aload_n hx hb d_M_step_145 rfl (lv_at hl 3 rfl) ?_
                    refine lv_iload_n hx hb d_M_step_146 rfl (lv_at hl 4 rfl) ?_
                    refine lv_iload_n hx hb d_M_step_147 rfl (lv_at hl 0 rfl) ?_
                    refine lv_iload_n hx hb d_M_step_148 rfl (lv_at hl 4 rfl) ?_
                    refine lv_isub hx hb d_M_step_149 ?_
                    refine lv_topi (fun y34 ey34 => ?_)
                    obtain rfl : y34 = nI (x.2.2.1 + szS mid) := ey34.trans ((pk_sub (by omega)).trans (congrArg nI (by omega)))
                    clear ey34
                    have hFc := sw_free hD hS hA
                    refine va_callv (va_runV (As := [.int (nI x.2.1), .int (nI (x.2.2.1 + szS mid))]) (rest := []) ⟨hx, hb, hml, hown, hg⟩ (c_M_release l D ty N0 _ hm qs qt qm cI cJ cZ th cn nw v w9 z x.2.1 zb ta ka x.2.1 (nI (x.2.2.1 + szS mid)) t0 t1 t2 hb9) (cwV 2 hg (gw_V gw_397 gw_399 gw_18 gw_28 gw_400) rfl rfl rfl (by decide +kernel) ⟨Nat.le_of_ble_eq_true rfl, Nat.le_of_ble_eq_true rfl⟩) (pre_wrV hP hK hN hD hS hAN hN0 hE (ci := 2) (k := 0) rfl rfl) rfl rfl hl.1 rfl (lv_room (Nat.le_of_ble_eq_true rfl)) d_M_step_150 ⟨Nat.le_of_ble_eq_true rfl, Nat.le_of_ble_eq_true rfl⟩) hS (fun q _ h => hFc q h) hFc (fun u t H locs ht hvm hw hB hz1 hk1 hS => ?_)
                    obtain ⟨hP, hK1, hD1⟩ := hB
                    rw [ht] at hP
                    have hD := hD1.weaken (fun _ _ _ h => hFc _ h)
                    clear hK1 hD1 hFc hk1 hz1
                    subst hw
                    replace hP : va_P D classes [(hm, .inr (2, [.int th, .int (nI cn), .ref qs, .ref qt, .ref qm, .int (nI (nw + 1)), .int v, .int w9, .int z, .int (nI x.2.1)])), (qs, .inl (cI, 16386, .inl (upd zb x.2.1 (0 - nI (x.2.2.1 + szS mid))))), (qt, .inl (cJ, 16386, .inl (upd ta x.2.1 (nI (nw + 1))))), (qm, .inl (cZ, 16386, .inl (upd ka x.2.1 0)))] _ := hP
                    replace hD : va_D A [(hm, .inr (2, [.int th, .int (nI cn), .ref qs, .ref qt, .ref qm, .int (nI (nw + 1)), .int v, .int w9, .int z, .int (nI x.2.1)])), (qs, .inl (cI, 16386, .inl (upd zb x.2.1 (0 - nI (x.2.2.1 + szS mid))))), (qt, .inl (cJ, 16386, .inl (upd ta x.2.1 (nI (nw + 1))))), (qm, .inl (cZ, 16386, .inl (upd ka x.2.1 0)))] := hD
                    refine lv_aload_n hx hb d_M_step_153 rfl (lv_at hl 3 rfl) ?_
                    refine lv_iload_n hx hb d_M_step_154 rfl (lv_at hl 0 rfl) ?_
                    refine va_put (D := D) (ci := 2) (v := .int (nI e9)) (ty := .int) (C := R_M) (T := F_M) (N := 10) hx hb hg gi_M t_M t_M_ok n_M hown hK hP hD hS 0 rfl rfl 9 (by decide) (hg _ gw_361) (fun _ h9 => h9) rfl (by decide +kernel) rfl rfl (Nat.le_of_ble_eq_true rfl) d_M_step_155 (fun H locs hP hD hS => ?_)
                    replace hP : va_P D classes [(hm, .inr (2, [.int th, .int (nI cn), .ref qs, .ref qt, .ref qm, .int (nI (nw + 1)), .int v, .int w9, .int z, .int (nI e9)])), (qs, .inl (cI, 16386, .inl (upd zb x.2.1 (0 - nI (x.2.2.1 + szS mid))))), (qt, .inl (cJ, 16386, .inl (upd ta x.2.1 (nI (nw + 1))))), (qm, .inl (cZ, 16386, .inl (upd ka x.2.1 0)))] _ := hP
                    replace hD : va_D A [(hm, .inr (2, [.int th, .int (nI cn), .ref qs, .ref qt, .ref qm, .int (nI (nw + 1)), .int v, .int w9, .int z, .int (nI e9)])), (qs, .inl (cI, 16386, .inl (upd zb x.2.1 (0 - nI (x.2.2.1 + szS mid))))), (qt, .inl (cJ, 16386, .inl (upd ta x.2.1 (nI (nw + 1))))), (qm, .inl (cZ, 16386, .inl (upd ka x.2.1 0)))] := hD
                    obtain ⟨e1, e2, e3⟩ := gaX_f (f := f) hE9
                    rw [hgm] at e1 e3
                    have hIn : Inv cn f nw (pre ++ x :: (mid ++ gaR suf)) za ta ka := by rw [← hsu]; exact hI
                    have hmk9 : ∀ q ∈ mid, q.2.2.2.2.1 = false := fun q hq => by have h9 := gaM_keep (suf := suf) (y := q) (by rw [hgm]; exact hq); cases h8 : q.2.2.2.2.1; rfl; have h7 := hI.2.2.2.2 q (by rw [hsu]; simp [hq]) h8; simp [isKp, h7, h8] at h9
                    refine W.widen (k := 0) (n := 0) (Nat.le_of_ble_eq_true rfl) (Nat.le_of_ble_eq_true rfl) ?_
                    exact W.vret hx hb hr (fun t ht hW => ⟨⟨_, rfl, ⟨nw + 1, _, _, _, by rw [s3, e2]; omega, Nat.le_refl _, by rw [s2, s4, e3, hhe, hxu, hm5]; rfl, by rw [s1, s2, s3, e1, e2]; exact hIn.gather hm6 hm7 hmk9 hnw⟩, at2.of hP hK hD ht hW⟩, hS.F ht⟩) hS.2.2 d_M_step_158
                  · refine lv_iload hx hb d_M_step_140 (lv_at hl 2 rfl) ?_
                    refine lv_if_ne (tgt := 153) hx hb d_M_step_142 (by decide) (fun c_142 => ?_) (fun c_142 => ?_)
                    · refine lv_aload_n hx hb d_M_step_153 rfl (lv_at hl 3 rfl) ?_
                      refine lv_iload_n hx hb d_M_step_154 rfl (lv_at hl 0 rfl) ?_
                      refine va_put (D := D) (ci := 2) (v := .int (nI e9)) (ty := .int) (C := R_M) (T := F_M) (N := 10) hx hb hg gi_M t_M t_M_ok n_M hown hK hP hD hS 0 rfl rfl 9 (by decide) (hg _ gw_361) (fun _ h9 => h9) rfl (by decide +kernel) rfl rfl (Nat.le_of_ble_eq_true rfl) d_M_step_155 (fun H locs hP hD hS => ?_)
                      replace hP : va_P D classes [(hm, .inr (2, [.int th, .int (nI cn), .ref qs, .ref qt, .ref qm, .int (nI nw), .int v, .int w9, .int z, .int (nI e9)])), (qs, .inl (cI, 16386, .inl zb)), (qt, .inl (cJ, 16386, .inl ta)), (qm, .inl (cZ, 16386, .inl ka))] _ := hP
                      replace hD : va_D A [(hm, .inr (2, [.int th, .int (nI cn), .ref qs, .ref qt, .ref qm, .int (nI nw), .int v, .int w9, .int z, .int (nI e9)])), (qs, .inl (cI, 16386, .inl zb)), (qt, .inl (cJ, 16386, .inl ta)), (qm, .inl (cZ, 16386, .inl ka))] := hD
                      have hmn : mid = [] := by cases mid with | nil => rfl | cons q m => exact absurd (nI_lt (a := 1) (by rw [hm4, List.length_cons]; omega) (by have h9 := mid_len hmt; omega)) c_137
                      have hE9 : gaE x suf = true := by unfold gaE; rw [hxu, hgm, hmn]; rfl
                      obtain ⟨e1, e2, e3, e4⟩ := gaX_t (f := f) hE9
                      have hzz : zb = za := by funext a; exact hm7 a (fun q hq => by rw [hmn] at hq; cases hq)
                      refine W.widen (k := 0) (n := 0) (Nat.le_of_ble_eq_true rfl) (Nat.le_of_ble_eq_true rfl) ?_
                      exact W.vret hx hb hr (fun t ht hW => ⟨⟨_, rfl, ⟨nw, za, ta, ka, by rw [s3, e2], Nat.le_succ nw, by rw [s2, s4, e3, hhe, hm5, hmn, hzz]; rfl, by rw [s1, s2, s3, e1, e2, e4]; exact hI⟩, at2.of hP hK hD ht hW⟩, hS.F ht⟩) hS.2.2 d_M_step_158
                    · exact absurd c_142 (by decide)
                · exact absurd (nI_lt (by omega) (by omega)) c_58
              | cons y rs ih =>
                intro ls e9 pn w9 zb H locs hl hmid hTi hP hD hS
                obtain ⟨mid, hm1, hm2, hm3, hm4, hm5, hm6, hm7⟩ := hmid
                obtain ⟨hd1, hd2, hd3⟩ := hTi
                subst hd1
                have yhxL : y ∈ pre ++ x :: suf := by rw [hm1]; simp
                obtain ⟨yhx1, yhx2, yhx3, yhb9, yhx4, yhx5, yhn1, yhn2, yhn3⟩ := hI.x yhxL
                have hmt : Til (x.2.1 + x.2.2.1) mid y.2.1 := by rw [hm1] at ht3; exact (Til_mid ht3).1
                have hyx : y.2.1 ≠ x.2.1 := by have h9 := (Til_lo hmt).1; omega
                have hym : ∀ q ∈ mid, q.2.1 ≠ y.2.1 := fun q hq => by have h9 := (Til_lo hmt).2 q hq; omega
                have yhz : zb y.2.1 = szV y := (hm7 y.2.1 hym).trans yhx1
                refine lv_iload_n hx hb d_M_step_53 rfl (lv_at hl 0 rfl) ?_
                refine lv_aload_n hx hb d_M_step_54 rfl (lv_at hl 3 rfl) ?_
                refine va_get (D := D) (ci := 2) (v := .int (nI cn)) (C := R_M) (T := F_M) (N := 10) hx hb hg gi_M hown hK hP 0 rfl rfl 1 (by decide) (hg _ gw_353) (fun _ h9 => h9) rfl d_M_step_55 ?_
                refine lv_icmp_gt (tgt := 135) hx hb d_M_step_58 (by decide) (fun c_58 => ?_) (fun c_58 => ?_)
                · exact absurd ((nI_ltI (by omega) (by omega)).mp c_58) (by omega)
                · refine lv_aload_n hx hb d_M_step_61 rfl (lv_at hl 3 rfl) ?_
                  refine va_get (D := D) (ci := 2) (v := .ref qm) (C := R_M) (T := F_M) (N := 10) hx hb hg gi_M hown hK hP 0 rfl rfl 4 (by decide) (hg _ gw_356) (fun _ h9 => h9) rfl d_M_step_62 ?_
                  refine lv_iload_n hx hb d_M_step_65 rfl (lv_at hl 0 rfl) ?_
                  refine va_zald hx hb hK hP 3 2 rfl t2 (vp_in_nI yhb9 (by decide)) d_M_step_66 ?_
                  refine lv_topi (fun y35 ey35 => ?_)
                  obtain rfl : y35 = ka y.2.1 := ey35.trans (congrArg ka (nI_clamp (Nat.lt_trans yhb9 (by decide))))
                  clear ey35
                  refine lv_topi (fun y36 ey36 => ?_)
                  obtain rfl : y36 = bI y.2.2.2.2.1 := ey36.trans yhx2
                  clear ey36
                  refine lv_if_ne (tgt := 135) hx hb d_M_step_67 (by decide) (fun c_67 => ?_) (fun c_67 => ?_)
                  · have hyk : y.2.2.2.2.1 = true := bI_n0.mp c_67
                    have hky : isKp y = true := by simp [isKp, hyk, hI.2.2.2.2 y yhxL hyk]
                    have hgm : gaM suf = mid := by rw [hm2, gaM, if_pos hky, List.append_nil]
                    have hgr : gaR suf = y :: rs := by rw [hm3, gaR, if_pos hky]
                    have hsu : suf = mid ++ gaR suf := by rw [hgr]; exact hm1
                    have hhe : hdE (gaR suf) (cn + 1) = y.2.1 := by rw [hgr]; rfl
                    have hee := szS_til hmt
                    have s2 : stS x suf = gaR suf := by unfold stS; rw [hkx]; rfl
                    have s1 : stX f x suf = gaX f x suf := by unfold stX; rw [hkx]; rfl
                    have s3 : stF f x suf = gaF f x suf := by unfold stF; rw [hkx]; rfl
                    have s4 : stW x suf = gaW x suf := by unfold stW; rw [hkx]; rfl
                    refine lv_iload_n hx hb d_M_step_135 rfl (lv_at hl 1 rfl) ?_
                    refine lv_iconst (v := 1) hx hb d_M_step_136 (by decide) ?_
                    refine lv_icmp_gt (tgt := 145) hx hb d_M_step_137 (by decide) (fun c_137 => ?_) (fun c_137 => ?_)
                    · have hE9 : gaE x suf = false := by unfold gaE; rw [hxu, hgm]; cases mid with | nil => exact absurd c_137 (by rw [hm4]; decide) | cons q m => rfl
                      refine lv_aload_n hx hb d_M_step_145 rfl (lv_at hl 3 rfl) ?_
                      refine lv_iload_n hx hb d_M_step_146 rfl (lv_at hl 4 rfl) ?_
                      refine lv_iload_n hx hb d_M_step_147 rfl (lv_at hl 0 rfl) ?_
                      refine lv_iload_n hx hb d_M_step_148 rfl (lv_at hl 4 rfl) ?_
                      refine lv_isub hx hb d_M_step_149 ?_
                      refine lv_topi (fun y37 ey37 => ?_)
                      obtain rfl : y37 = nI (x.2.2.1 + szS mid) := ey37.trans ((pk_sub (by omega)).trans (congrArg nI (by omega)))
                      clear ey37
                      have hFc := sw_free hD hS hA
                      refine va_callv (va_runV (As := [.int (nI x.2.1), .int (nI (x.2.2.1 + szS mid))]) (rest := []) ⟨hx, hb, hml, hown, hg⟩ (c_M_release l D ty N0 _ hm qs qt qm cI cJ cZ th cn nw v w9 z x.2.1 zb ta ka x.2.1 (nI (x.2.2.1 + szS mid)) t0 t1 t2 hb9) (cwV 2 hg (gw_V gw_397 gw_399 gw_18 gw_28 gw_400) rfl rfl rfl (by decide +kernel) ⟨Nat.le_of_ble_eq_true rfl, Nat.le_of_ble_eq_true rfl⟩) (pre_wrV hP hK hN hD hS hAN hN0 hE (ci := 2) (k := 0) rfl rfl) rfl rfl hl.1 rfl (lv_room (Nat.le_of_ble_eq_true rfl)) d_M_step_150 ⟨Nat.le_of_ble_eq_true rfl, Nat.le_of_ble_eq_true rfl⟩) hS (fun q _ h => hFc q h) hFc (fun u t H locs ht hvm hw hB hz1 hk1 hS => ?_)
                      obtain ⟨hP, hK1, hD1⟩ := hB
                      rw [ht] at hP
                      have hD := hD1.weaken (fun _ _ _ h => hFc _ h)
                      clear hK1 hD1 hFc hk1 hz1
                      subst hw
                      replace hP : va_P D classes [(hm, .inr (2, [.int th, .int (nI cn), .ref qs, .ref qt, .ref qm, .int (nI (nw + 1)), .int v, .int w9, .int z, .int (nI x.2.1)])), (qs, .inl (cI, 16386, .inl (upd zb x.2.1 (0 - nI (x.2.2.1 + szS mid))))), (qt, .inl (cJ, 16386, .inl (upd ta x.2.1 (nI (nw + 1))))), (qm, .inl (cZ, 16386, .inl (upd ka x.2.1 0)))] _ := hP
                      replace hD : va_D A [(hm, .inr (2, [.int th, .int (nI cn), .ref qs, .ref qt, .ref qm, .int (nI (nw + 1)), .int v, .int w9, .int z, .int (nI x.2.1)])), (qs, .inl (cI, 16386, .inl (upd zb x.2.1 (0 - nI (x.2.2.1 + szS mid))))), (qt, .inl (cJ, 16386, .inl (upd ta x.2.1 (nI (nw + 1))))), (qm, .inl (cZ, 16386, .inl (upd ka x.2.1 0)))] := hD
                      refine lv_aload_n hx hb d_M_step_153 rfl (lv_at hl 3 rfl) ?_
                      refine lv_iload_n hx hb d_M_step_154 rfl (lv_at hl 0 rfl) ?_
                      refine va_put (D := D) (ci := 2) (v := .int (nI y.2.1)) (ty := .int) (C := R_M) (T := F_M) (N := 10) hx hb hg gi_M t_M t_M_ok n_M hown hK hP hD hS 0 rfl rfl 9 (by decide) (hg _ gw_361) (fun _ h9 => h9) rfl (by decide +kernel) rfl rfl (Nat.le_of_ble_eq_true rfl) d_M_step_155 (fun H locs hP hD hS => ?_)
                      replace hP : va_P D classes [(hm, .inr (2, [.int th, .int (nI cn), .ref qs, .ref qt, .ref qm, .int (nI (nw + 1)), .int v, .int w9, .int z, .int (nI y.2.1)])), (qs, .inl (cI, 16386, .inl (upd zb x.2.1 (0 - nI (x.2.2.1 + szS mid))))), (qt, .inl (cJ, 16386, .inl (upd ta x.2.1 (nI (nw + 1))))), (qm, .inl (cZ, 16386, .inl (upd ka x.2.1 0)))] _ := hP
                      replace hD : va_D A [(hm, .inr (2, [.int th, .int (nI cn), .ref qs, .ref qt, .ref qm, .int (nI (nw + 1)), .int v, .int w9, .int z, .int (nI y.2.1)])), (qs, .inl (cI, 16386, .inl (upd zb x.2.1 (0 - nI (x.2.2.1 + szS mid))))), (qt, .inl (cJ, 16386, .inl (upd ta x.2.1 (nI (nw + 1))))), (qm, .inl (cZ, 16386, .inl (upd ka x.2.1 0)))] := hD
                      obtain ⟨e1, e2, e3⟩ := gaX_f (f := f) hE9
                      rw [hgm] at e1 e3
                      have hIn : Inv cn f nw (pre ++ x :: (mid ++ gaR suf)) za ta ka := by rw [← hsu]; exact hI
                      have hmk9 : ∀ q ∈ mid, q.2.2.2.2.1 = false := fun q hq => by have h9 := gaM_keep (suf := suf) (y := q) (by rw [hgm]; exact hq); cases h8 : q.2.2.2.2.1; rfl; have h7 := hI.2.2.2.2 q (by rw [hsu]; simp [hq]) h8; simp [isKp, h7, h8] at h9
                      refine W.widen (k := 0) (n := 0) (Nat.le_of_ble_eq_true rfl) (Nat.le_of_ble_eq_true rfl) ?_
                      exact W.vret hx hb hr (fun t ht hW => ⟨⟨_, rfl, ⟨nw + 1, _, _, _, by rw [s3, e2]; omega, Nat.le_refl _, by rw [s2, s4, e3, hhe, hxu, hm5]; rfl, by rw [s1, s2, s3, e1, e2]; exact hIn.gather hm6 hm7 hmk9 hnw⟩, at2.of hP hK hD ht hW⟩, hS.F ht⟩) hS.2.2 d_M_step_158
                    · refine lv_iload hx hb d_M_step_140 (lv_at hl 2 rfl) ?_
                      refine lv_if_ne (tgt := 153) hx hb d_M_step_142 (by decide) (fun c_142 => ?_) (fun c_142 => ?_)
                      · refine lv_aload_n hx hb d_M_step_153 rfl (lv_at hl 3 rfl) ?_
                        refine lv_iload_n hx hb d_M_step_154 rfl (lv_at hl 0 rfl) ?_
                        refine va_put (D := D) (ci := 2) (v := .int (nI y.2.1)) (ty := .int) (C := R_M) (T := F_M) (N := 10) hx hb hg gi_M t_M t_M_ok n_M hown hK hP hD hS 0 rfl rfl 9 (by decide) (hg _ gw_361) (fun _ h9 => h9) rfl (by decide +kernel) rfl rfl (Nat.le_of_ble_eq_true rfl) d_M_step_155 (fun H locs hP hD hS => ?_)
                        replace hP : va_P D classes [(hm, .inr (2, [.int th, .int (nI cn), .ref qs, .ref qt, .ref qm, .int (nI nw), .int v, .int w9, .int z, .int (nI y.2.1)])), (qs, .inl (cI, 16386, .inl zb)), (qt, .inl (cJ, 16386, .inl ta)), (qm, .inl (cZ, 16386, .inl ka))] _ := hP
                        replace hD : va_D A [(hm, .inr (2, [.int th, .int (nI cn), .ref qs, .ref qt, .ref qm, .int (nI nw), .int v, .int w9, .int z, .int (nI y.2.1)])), (qs, .inl (cI, 16386, .inl zb)), (qt, .inl (cJ, 16386, .inl ta)), (qm, .inl (cZ, 16386, .inl ka))] := hD
                        have hmn : mid = [] := by cases mid with | nil => rfl | cons q m => exact absurd (nI_lt (a := 1) (by rw [hm4, List.length_cons]; omega) (by have h9 := mid_len hmt; omega)) c_137
                        have hE9 : gaE x suf = true := by unfold gaE; rw [hxu, hgm, hmn]; rfl
                        obtain ⟨e1, e2, e3, e4⟩ := gaX_t (f := f) hE9
                        have hzz : zb = za := by funext a; exact hm7 a (fun q hq => by rw [hmn] at hq; cases hq)
                        refine W.widen (k := 0) (n := 0) (Nat.le_of_ble_eq_true rfl) (Nat.le_of_ble_eq_true rfl) ?_
                        exact W.vret hx hb hr (fun t ht hW => ⟨⟨_, rfl, ⟨nw, za, ta, ka, by rw [s3, e2], Nat.le_succ nw, by rw [s2, s4, e3, hhe, hm5, hmn, hzz]; rfl, by rw [s1, s2, s3, e1, e2, e4]; exact hI⟩, at2.of hP hK hD ht hW⟩, hS.F ht⟩) hS.2.2 d_M_step_158
                      · exact absurd c_142 (by decide)
                  · have hyk : y.2.2.2.2.1 = false := bI_0.mp c_67
                    have hky : isKp y = false := by simp [isKp, hyk]
                    refine lv_aload_n hx hb d_M_step_70 rfl (lv_at hl 3 rfl) ?_
                    refine lv_iload_n hx hb d_M_step_71 rfl (lv_at hl 0 rfl) ?_
                    refine vp_callSi (va_runV (As := [.int (nI y.2.1)]) (rest := []) ⟨hx, hb, hml, hown, hg⟩ (c_M_length l D ty hm qs qt qm cI cJ cZ th cn nw v w9 z x.2.1 zb ta ka y.2.1 t0 t1 t2 yhb9) (cwV 1 hg (gw_V gw_409 gw_411 gw_20 gw_28 gw_412) rfl rfl rfl (by decide +kernel) ⟨Nat.le_of_ble_eq_true rfl, Nat.le_of_ble_eq_true rfl⟩) (pre_roV hP hK hN (ci := 2) (k := 0) rfl rfl) rfl rfl hl.1 rfl (lv_room (Nat.le_of_ble_eq_true rfl)) d_M_step_72 ⟨Nat.le_of_ble_eq_true rfl, Nat.le_of_ble_eq_true rfl⟩).run (fun r2 hr2 => ?_)
                    replace hr2 : r2 = nI y.2.2.1 := by rw [hr2, yhz, lenF_x yhn1 yhn2]
                    subst hr2
                    refine lv_istore (lv' := [(5, .int (nI y.2.2.1)), (2, .int (nI y.2.1)), (3, .int (nI pn)), (4, .int 1), (0, .ref hm), (1, .int (nI x.2.1))]) hx hb d_M_step_75 hl (by decide) rfl (fun ls hl => ?_)
                    refine lv_aload_n hx hb d_M_step_77 rfl (lv_at hl 4 rfl) ?_
                    refine lv_aload_n hx hb d_M_step_78 rfl (lv_at hl 4 rfl) ?_
                    refine va_get (D := D) (ci := 2) (v := .ref qs) (C := R_M) (T := F_M) (N := 10) hx hb hg gi_M hown hK hP 0 rfl rfl 2 (by decide) (hg _ gw_354) (fun _ h9 => h9) rfl d_M_step_79 ?_
                    refine lv_iload_n hx hb d_M_step_82 rfl (lv_at hl 1 rfl) ?_
                    refine va_iald hx hb hK hP 1 0 rfl t0 (vp_in_nI yhb9 (by decide)) d_M_step_83 ?_
                    refine lv_topi (fun y38 ey38 => ?_)
                    obtain rfl : y38 = zb y.2.1 := ey38.trans (congrArg zb (nI_clamp (Nat.lt_trans yhb9 (by decide))))
                    clear ey38
                    refine lv_topi (fun y39 ey39 => ?_)
                    obtain rfl : y39 = szV y := ey39.trans yhz
                    clear ey39
                    refine lv_if_le (tgt := 96) hx hb d_M_step_84 (by decide) (fun c_84 => ?_) (fun c_84 => ?_)
                    · have hyu : y.2.2.2.1 = false := (szV_pos yhn1 yhn2).mp c_84
                      refine lv_aload_n hx hb d_M_step_96 rfl (lv_at hl 4 rfl) ?_
                      refine va_get (D := D) (ci := 2) (v := .int w9) (C := R_M) (T := F_M) (N := 10) hx hb hg gi_M hown hK hP 0 rfl rfl 7 (by decide) (hg _ gw_359) (fun _ h9 => h9) rfl d_M_step_97 ?_
                      refine va_put (D := D) (ci := 2) (v := .int w9) (ty := .int) (C := R_M) (T := F_M) (N := 10) hx hb hg gi_M t_M t_M_ok n_M hown hK hP hD hS 0 rfl rfl 7 (by decide) (hg _ gw_359) (fun _ h9 => h9) rfl (by decide +kernel) rfl rfl (Nat.le_of_ble_eq_true rfl) d_M_step_100 (fun H locs hP hD hS => ?_)
                      replace hP : va_P D classes [(hm, .inr (2, [.int th, .int (nI cn), .ref qs, .ref qt, .ref qm, .int (nI nw), .int v, .int w9, .int z, .int (nI x.2.1)])), (qs, .inl (cI, 16386, .inl zb)), (qt, .inl (cJ, 16386, .inl ta)), (qm, .inl (cZ, 16386, .inl ka))] _ := hP
                      replace hD : va_D A [(hm, .inr (2, [.int th, .int (nI cn), .ref qs, .ref qt, .ref qm, .int (nI nw), .int v, .int w9, .int z, .int (nI x.2.1)])), (qs, .inl (cI, 16386, .inl zb)), (qt, .inl (cJ, 16386, .inl ta)), (qm, .inl (cZ, 16386, .inl ka))] := hD
                      refine lv_aload_n hx hb d_M_step_103 rfl (lv_at hl 4 rfl) ?_
                      refine va_get (D := D) (ci := 2) (v := .ref qs) (C := R_M) (T := F_M) (N := 10) hx hb hg gi_M hown hK hP 0 rfl rfl 2 (by decide) (hg _ gw_354) (fun _ h9 => h9) rfl d_M_step_104 ?_
                      refine lv_iload_n hx hb d_M_step_107 rfl (lv_at hl 1 rfl) ?_
                      refine lv_iload_n hx hb d_M_step_108 rfl (lv_at hl 1 rfl) ?_
                      refine lv_iload_n hx hb d_M_step_109 rfl (lv_at hl 5 rfl) ?_
                      refine lv_icmp_ne (tgt := 122) hx hb d_M_step_110 (by decide) (fun c_110 => ?_) (fun c_110 => ?_)
                      · refine lv_iconst (v := 0) hx hb d_M_step_122 (by decide) ?_
                        refine va_iast hx hb hK hP hD hS 1 0 rfl t0 (vp_in_nI yhb9 (by decide)) d_M_step_123 (fun H locs hP hD hS => ?_)
                        rw [nI_clamp (Nat.lt_trans yhb9 (by decide))] at hP hD
                        replace hP : va_P D classes [(hm, .inr (2, [.int th, .int (nI cn), .ref qs, .ref qt, .ref qm, .int (nI nw), .int v, .int w9, .int z, .int (nI x.2.1)])), (qs, .inl (cI, 16386, .inl (upd zb y.2.1 0))), (qt, .inl (cJ, 16386, .inl ta)), (qm, .inl (cZ, 16386, .inl ka))] _ := hP
                        replace hD : va_D A [(hm, .inr (2, [.int th, .int (nI cn), .ref qs, .ref qt, .ref qm, .int (nI nw), .int v, .int w9, .int z, .int (nI x.2.1)])), (qs, .inl (cI, 16386, .inl (upd zb y.2.1 0))), (qt, .inl (cJ, 16386, .inl ta)), (qm, .inl (cZ, 16386, .inl ka))] := hD
                        obtain ⟨j40, ej40⟩ : ∃ y : Int32, y = (nI pn) + 1 := ⟨_, rfl⟩
                        refine lv_iinc (v := j40) (lv' := [(3, .int j40), (5, .int (nI y.2.2.1)), (2, .int (nI y.2.1)), (4, .int 1), (0, .ref hm), (1, .int (nI x.2.1))]) hx hb d_M_step_124 hl (k := 2) rfl (by rw [ej40]; rfl) (by decide) rfl (fun ls hl => ?_)
                        refine lv_iload_n hx hb d_M_step_127 rfl (lv_at hl 2 rfl) ?_
                        refine lv_iload hx hb d_M_step_128 (lv_at hl 1 rfl) ?_
                        refine lv_iadd hx hb d_M_step_130 ?_
                        refine lv_topi (fun y41 ey41 => ?_)
                        obtain rfl : y41 = nI (y.2.1 + y.2.2.1) := ey41.trans (nI_add _ _)
                        clear ey41
                        refine lv_istore_n (lv' := [(2, .int (nI (y.2.1 + y.2.2.1))), (3, .int j40), (5, .int (nI y.2.2.1)), (4, .int 1), (0, .ref hm), (1, .int (nI x.2.1))]) hx hb d_M_step_131 rfl hl (by decide) rfl (fun ls hl => ?_)
                        refine lv_goto (tgt := 53) hx hb d_M_step_132 (by decide) ?_
                        rw [nI_1] at ej40
                        subst ej40
                        have hq5 : w9 = w + nI (0 + usS (mid ++ [y])) := by rw [usS_app, hm5, show usS [y] = 0 from by simp [usS, hyu]]; rfl
                        have hq6 : ∀ q ∈ mid ++ [y], upd zb y.2.1 0 q.2.1 = 0 := fun q hq => by
                          rcases List.mem_append.mp hq with h9 | h9
                          · rw [upd_n _ _ (hym q h9)]; exact hm6 q h9
                          · cases List.mem_singleton.mp h9; exact upd_s _ _ _
                        have hq7 : ∀ a, (∀ q ∈ mid ++ [y], q.2.1 ≠ a) → upd zb y.2.1 0 a = za a := fun a ha => by
                          rw [upd_n _ _ (Ne.symm (ha y (by simp)))]
                          exact hm7 a (fun q hq => ha q (List.mem_append_left _ hq))
                        exact ih ls (y.2.1 + y.2.2.1) (pn + 1) w9 (upd zb y.2.1 0) _ _ (lv_sub hl [0, 1, 3, 4, 5] rfl) ⟨mid ++ [y], by rw [hm1, List.append_assoc]; rfl, by rw [hm2, gaM, if_neg (by rw [hky]; decide), List.append_assoc]; rfl, by rw [hm3, gaR, if_neg (by rw [hky]; decide)], by rw [hm4, List.length_append]; rfl, hq5, hq6, hq7⟩ hd3 hP hD hS
                      · exact absurd ((nI_eq (by omega) (by omega)).mp c_110) hyx
                    · have hyu : y.2.2.2.1 = true := by cases hu : y.2.2.2.1; exact absurd ((szV_pos yhn1 yhn2).mpr hu) c_84; rfl
                      refine lv_aload_n hx hb d_M_step_87 rfl (lv_at hl 4 rfl) ?_
                      refine va_get (D := D) (ci := 2) (v := .int w9) (C := R_M) (T := F_M) (N := 10) hx hb hg gi_M hown hK hP 0 rfl rfl 7 (by decide) (hg _ gw_359) (fun _ h9 => h9) rfl d_M_step_88 ?_
                      refine lv_iconst (v := 1) hx hb d_M_step_91 (by decide) ?_
                      refine lv_iadd hx hb d_M_step_92 ?_
                      refine lv_goto (tgt := 100) hx hb d_M_step_93 (by decide) ?_
                      refine va_put (D := D) (ci := 2) (v := .int (w9 + 1)) (ty := .int) (C := R_M) (T := F_M) (N := 10) hx hb hg gi_M t_M t_M_ok n_M hown hK hP hD hS 0 rfl rfl 7 (by decide) (hg _ gw_359) (fun _ h9 => h9) rfl (by decide +kernel) rfl rfl (Nat.le_of_ble_eq_true rfl) d_M_step_100 (fun H locs hP hD hS => ?_)
                      replace hP : va_P D classes [(hm, .inr (2, [.int th, .int (nI cn), .ref qs, .ref qt, .ref qm, .int (nI nw), .int v, .int (w9 + 1), .int z, .int (nI x.2.1)])), (qs, .inl (cI, 16386, .inl zb)), (qt, .inl (cJ, 16386, .inl ta)), (qm, .inl (cZ, 16386, .inl ka))] _ := hP
                      replace hD : va_D A [(hm, .inr (2, [.int th, .int (nI cn), .ref qs, .ref qt, .ref qm, .int (nI nw), .int v, .int (w9 + 1), .int z, .int (nI x.2.1)])), (qs, .inl (cI, 16386, .inl zb)), (qt, .inl (cJ, 16386, .inl ta)), (qm, .inl (cZ, 16386, .inl ka))] := hD
                      refine lv_aload_n hx hb d_M_step_103 rfl (lv_at hl 4 rfl) ?_
                      refine va_get (D := D) (ci := 2) (v := .ref qs) (C := R_M) (T := F_M) (N := 10) hx hb hg gi_M hown hK hP 0 rfl rfl 2 (by decide) (hg _ gw_354) (fun _ h9 => h9) rfl d_M_step_104 ?_
                      refine lv_iload_n hx hb d_M_step_107 rfl (lv_at hl 1 rfl) ?_
                      refine lv_iload_n hx hb d_M_step_108 rfl (lv_at hl 1 rfl) ?_
                      refine lv_iload_n hx hb d_M_step_109 rfl (lv_at hl 5 rfl) ?_
                      refine lv_icmp_ne (tgt := 122) hx hb d_M_step_110 (by decide) (fun c_110 => ?_) (fun c_110 => ?_)
                      · refine lv_iconst (v := 0) hx hb d_M_step_122 (by decide) ?_
                        refine va_iast hx hb hK hP hD hS 1 0 rfl t0 (vp_in_nI yhb9 (by decide)) d_M_step_123 (fun H locs hP hD hS => ?_)
                        rw [nI_clamp (Nat.lt_trans yhb9 (by decide))] at hP hD
                        replace hP : va_P D classes [(hm, .inr (2, [.int th, .int (nI cn), .ref qs, .ref qt, .ref qm, .int (nI nw), .int v, .int (w9 + 1), .int z, .int (nI x.2.1)])), (qs, .inl (cI, 16386, .inl (upd zb y.2.1 0))), (qt, .inl (cJ, 16386, .inl ta)), (qm, .inl (cZ, 16386, .inl ka))] _ := hP
                        replace hD : va_D A [(hm, .inr (2, [.int th, .int (nI cn), .ref qs, .ref qt, .ref qm, .int (nI nw), .int v, .int (w9 + 1), .int z, .int (nI x.2.1)])), (qs, .inl (cI, 16386, .inl (upd zb y.2.1 0))), (qt, .inl (cJ, 16386, .inl ta)), (qm, .inl (cZ, 16386, .inl ka))] := hD
                        obtain ⟨j42, ej42⟩ : ∃ y : Int32, y = (nI pn) + 1 := ⟨_, rfl⟩
                        refine lv_iinc (v := j42) (lv' := [(3, .int j42), (5, .int (nI y.2.2.1)), (2, .int (nI y.2.1)), (4, .int 1), (0, .ref hm), (1, .int (nI x.2.1))]) hx hb d_M_step_124 hl (k := 2) rfl (by rw [ej42]; rfl) (by decide) rfl (fun ls hl => ?_)
                        refine lv_iload_n hx hb d_M_step_127 rfl (lv_at hl 2 rfl) ?_
                        refine lv_iload hx hb d_M_step_128 (lv_at hl 1 rfl) ?_
                        refine lv_iadd hx hb d_M_step_130 ?_
                        refine lv_topi (fun y43 ey43 => ?_)
                        obtain rfl : y43 = nI (y.2.1 + y.2.2.1) := ey43.trans (nI_add _ _)
                        clear ey43
                        refine lv_istore_n (lv' := [(2, .int (nI (y.2.1 + y.2.2.1))), (3, .int j42), (5, .int (nI y.2.2.1)), (4, .int 1), (0, .ref hm), (1, .int (nI x.2.1))]) hx hb d_M_step_131 rfl hl (by decide) rfl (fun ls hl => ?_)
                        refine lv_goto (tgt := 53) hx hb d_M_step_132 (by decide) ?_
                        rw [nI_1] at ej42
                        subst ej42
                        have hq5 : (w9 + 1) = w + nI (0 + usS (mid ++ [y])) := by rw [usS_app, hm5, show usS [y] = 1 from by simp [usS, hyu]]; rw [show (1 : Int32) = nI 1 from rfl, Int32.add_assoc, nI_add, Nat.add_assoc]
                        have hq6 : ∀ q ∈ mid ++ [y], upd zb y.2.1 0 q.2.1 = 0 := fun q hq => by
                          rcases List.mem_append.mp hq with h9 | h9
                          · rw [upd_n _ _ (hym q h9)]; exact hm6 q h9
                          · cases List.mem_singleton.mp h9; exact upd_s _ _ _
                        have hq7 : ∀ a, (∀ q ∈ mid ++ [y], q.2.1 ≠ a) → upd zb y.2.1 0 a = za a := fun a ha => by
                          rw [upd_n _ _ (Ne.symm (ha y (by simp)))]
                          exact hm7 a (fun q hq => ha q (List.mem_append_left _ hq))
                        exact ih ls (y.2.1 + y.2.2.1) (pn + 1) (w9 + 1) (upd zb y.2.1 0) _ _ (lv_sub hl [0, 1, 3, 4, 5] rfl) ⟨mid ++ [y], by rw [hm1, List.append_assoc]; rfl, by rw [hm2, gaM, if_neg (by rw [hky]; decide), List.append_assoc]; rfl, by rw [hm3, gaR, if_neg (by rw [hky]; decide)], by rw [hm4, List.length_append]; rfl, hq5, hq6, hq7⟩ hd3 hP hD hS
                      · exact absurd ((nI_eq (by omega) (by omega)).mp c_110) hyx
          · exact absurd ((szV_pos hn1 hn2).mpr hxu) c_84
  · have hxk : x.2.2.2.2.1 = true := bI_n0.mp c_11
    have hxu : x.2.2.2.1 = true := hI.2.2.2.2 x hxL hxk
    have hkx : isKp x = true := by simp [isKp, hxk, hxu]
    refine lv_aload_n hx hb d_M_step_14 rfl (lv_at hl 1 rfl) ?_
    refine va_get (D := D) (ci := 2) (v := .ref qm) (C := R_M) (T := F_M) (N := 10) hx hb hg gi_M hown hK hP 0 rfl rfl 4 (by decide) (hg _ gw_356) (fun _ h9 => h9) rfl d_M_step_15 ?_
    refine lv_iload_n hx hb d_M_step_18 rfl (lv_at hl 0 rfl) ?_
    refine lv_iconst (v := 0) hx hb d_M_step_19 (by decide) ?_
    refine va_zast hx hb hK hP hD hS 3 2 rfl t2 (vp_in_nI hb9 (by decide)) d_M_step_20 (fun H locs hP hD hS => ?_)
    rw [nI_clamp (Nat.lt_trans hb9 (by decide))] at hP hD
    replace hP : va_P D classes [(hm, .inr (2, [.int th, .int (nI cn), .ref qs, .ref qt, .ref qm, .int (nI nw), .int v, .int w, .int z, .int (nI x.2.1)])), (qs, .inl (cI, 16386, .inl za)), (qt, .inl (cJ, 16386, .inl ta)), (qm, .inl (cZ, 16386, .inl (upd ka x.2.1 0)))] _ := hP
    replace hD : va_D A [(hm, .inr (2, [.int th, .int (nI cn), .ref qs, .ref qt, .ref qm, .int (nI nw), .int v, .int w, .int z, .int (nI x.2.1)])), (qs, .inl (cI, 16386, .inl za)), (qt, .inl (cJ, 16386, .inl ta)), (qm, .inl (cZ, 16386, .inl (upd ka x.2.1 0)))] := hD
    refine lv_aload_n hx hb d_M_step_21 rfl (lv_at hl 1 rfl) ?_
    refine lv_iload_n hx hb d_M_step_22 rfl (lv_at hl 0 rfl) ?_
    refine lv_aload_n hx hb d_M_step_23 rfl (lv_at hl 1 rfl) ?_
    refine lv_iload_n hx hb d_M_step_24 rfl (lv_at hl 0 rfl) ?_
    refine vp_callSi (va_runV (As := [.int (nI x.2.1)]) (rest := [.int (nI x.2.1), .ref hm]) ⟨hx, hb, hml, hown, hg⟩ (c_M_length l D ty hm qs qt qm cI cJ cZ th cn nw v w z x.2.1 za ta (upd ka x.2.1 0) x.2.1 t0 t1 t2 hb9) (cwV 1 hg (gw_V gw_409 gw_411 gw_20 gw_28 gw_412) rfl rfl rfl (by decide +kernel) ⟨Nat.le_of_ble_eq_true rfl, Nat.le_of_ble_eq_true rfl⟩) (pre_roV hP hK hN (ci := 2) (k := 0) rfl rfl) rfl rfl hl.1 rfl (lv_room (Nat.le_of_ble_eq_true rfl)) d_M_step_25 ⟨Nat.le_of_ble_eq_true rfl, Nat.le_of_ble_eq_true rfl⟩).run (fun r1 hr1 => ?_)
    replace hr1 : r1 = nI x.2.2.1 := by rw [hr1, hx1, lenF_x hn1 hn2]
    subst hr1
    refine lv_iadd hx hb d_M_step_28 ?_
    refine lv_topi (fun y44 ey44 => ?_)
    obtain rfl : y44 = nI (x.2.1 + x.2.2.1) := ey44.trans (nI_add _ _)
    clear ey44
    refine va_put (D := D) (ci := 2) (v := .int (nI (x.2.1 + x.2.2.1))) (ty := .int) (C := R_M) (T := F_M) (N := 10) hx hb hg gi_M t_M t_M_ok n_M hown hK hP hD hS 0 rfl rfl 9 (by decide) (hg _ gw_361) (fun _ h9 => h9) rfl (by decide +kernel) rfl rfl (Nat.le_of_ble_eq_true rfl) d_M_step_29 (fun H locs hP hD hS => ?_)
    replace hP : va_P D classes [(hm, .inr (2, [.int th, .int (nI cn), .ref qs, .ref qt, .ref qm, .int (nI nw), .int v, .int w, .int z, .int (nI (x.2.1 + x.2.2.1))])), (qs, .inl (cI, 16386, .inl za)), (qt, .inl (cJ, 16386, .inl ta)), (qm, .inl (cZ, 16386, .inl (upd ka x.2.1 0)))] _ := hP
    replace hD : va_D A [(hm, .inr (2, [.int th, .int (nI cn), .ref qs, .ref qt, .ref qm, .int (nI nw), .int v, .int w, .int z, .int (nI (x.2.1 + x.2.2.1))])), (qs, .inl (cI, 16386, .inl za)), (qt, .inl (cJ, 16386, .inl ta)), (qm, .inl (cZ, 16386, .inl (upd ka x.2.1 0)))] := hD
    have e1 : stX f x suf = (x.1, x.2.1, x.2.2.1, x.2.2.2.1, false, x.2.2.2.2.2) := by unfold stX; rw [hkx]; rfl
    have e2 : stS x suf = suf := by unfold stS; rw [hkx]; rfl
    have e3 : stF f x suf = f := by unfold stF; rw [hkx]; rfl
    have e4 : stW x suf = 0 := by unfold stW; rw [hkx]; rfl
    refine W.widen (k := 0) (n := 0) (Nat.le_of_ble_eq_true rfl) (Nat.le_of_ble_eq_true rfl) ?_
    exact W.vret hx hb hr (fun t ht hW => ⟨⟨_, rfl, ⟨nw, za, ta, upd ka x.2.1 0, by rw [e3], Nat.le_succ nw, by rw [e2, e4, Til_hd ht3, nI_0, Int32.add_zero]; rfl, by rw [e1, e2, e3]; exact hI.mark false (fun h9 => by cases h9)⟩, at2.of hP hK hD ht hW⟩, hS.F ht⟩) hS.2.2 d_M_step_32
