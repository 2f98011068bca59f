/-! calls that hand back a piece or throw; the words of the three throws -/
section VXQ
variable {p : Program} {l : Launch} {e : Env} {R : Room} {s : State} {m : MethodId} {args : Array Value} {below : List Frame} {meth : Method} {c : Code} {H : Heap} {locs : List Loc} {cells slots : Nat} {Q : State → Prop}
variable {mc ms : Nat} {free : Addr → Prop} {A0 A1 : Nat → Prop} {H0 : Heap} {a : Array Value} {pc : Nat} {ls : Array Slot} {st0 rest : List Value}
theorem vx_callq {S SX : Type} {post : Option Nat → S → Prop} {px : SX → Prop} {B : S → State → Prop} {BX : String → SX → State → Prop} {AX : Nat → Prop} (hr : vx_Run p l e R s m args below meth c H locs cells slots mc ms (F0 m pc ls st0) rest (va_Qq post B A1 a) (vx_X px BX AX) free) (hS : va_S A0 H0 H locs) (hA : ∀ q, q < H.size → A1 q → A0 q) (hf : ∀ q, free q → A0 q) (hAX : ∀ q, q < H.size → AX q → A0 q)
    (kx : ∀ (E : String) (ce : Cell) (q9 : Addr) (u : SX) (t : State) (H1 : Heap) (locs1 : List Loc), t.heap = H1 → s.vm.Alike t.vm → px u → BX E u t → H.size ≤ H1.size → (∀ q : Nat, q < H.size → ¬ AX q → H1[q]? = H[q]?) → va_S A0 H0 H1 locs1 → H1[q9]? = some ce → ce.vm = .none → s.vm.findClass E = some ce.cls → vx_W p l e R s m args below meth c H1 locs1 (cells + mc) (slots + ms) Q (F0 m pc ls rest) q9)
    (kk : ∀ (r : Option Nat) (u : S) (t : State) (H1 : Heap) (locs1 : List Loc), t.heap = H1 → s.vm.Alike t.vm → post r u → B u t → H.size ≤ H1.size → (∀ q : Nat, q < H.size → ¬ A1 q → H1[q]? = H[q]?) → va_S A0 H0 H1 locs1 → W p l e R s m args below meth c H1 locs1 (cells + mc) (slots + ms) Q (F0 m (pc + 3) ls (va_rf r :: rest))) : W p l e R s m args below meth c H locs cells slots Q (F0 m pc ls st0) := by
  intro T hT X
  rcases hr T hT X with ⟨v, st₀, t, T', L, h0, X', hL, e1, e2, ⟨⟨r, u, hv, hp, hb⟩, hF⟩, st⟩ | ⟨q, st₀, t, T', L, E, ce, h0, X', hL, e1, e2, ⟨u, hp, hb, hF⟩, hce, hcv, hcl, st⟩
  · cases hv
    obtain ⟨k1, k2, k3⟩ := vx_keep h0 e1 hS hA hf hL hF
    obtain ⟨t2, a1, b1⟩ := kk r u t T'.heap (locs ++ L) e1.symm (by rw [← e2]; exact X'.warmed.alike) hp hb k1 k2 k3 T' rfl X'
    exact ⟨t2, st t2 a1, b1⟩
  · obtain ⟨k1, k2, k3⟩ := vx_keep h0 e1 hS hAX hf hL hF
    obtain ⟨t2, a1, b1⟩ := kx E ce q u t T'.heap (locs ++ L) e1.symm (by rw [← e2]; exact X'.warmed.alike) hp hb k1 k2 k3 (by rw [e1]; exact hce) hcv hcl T' rfl X'
    exact ⟨t2, st.trans a1, b1⟩
end VXQ
abbrev xNm : List String := ["java/lang/RuntimeException", "java/lang/Exception"]
abbrev xBd (E : String) : List Cond := [.castable E E, .declares ⟨"java/lang/RuntimeException", "<init>", "(Ljava/lang/String;)V"⟩, .declares ⟨"java/lang/Exception", "<init>", "(Ljava/lang/String;)V"⟩, .declares ⟨"java/lang/Throwable", "<init>", "(Ljava/lang/String;)V"⟩]
theorem xBd_ok {E : String} {A : Array Value} {U : State} (hN : NW U) (h : E ∈ nwC) : ∀ w ∈ xBd E, w.before A U = true :=
  vx_c (va_Nw.use rfl (hN.2.2.1 E h)) (vx_c (va_Nw.use rfl (hN.2.2.2.1 "java/lang/RuntimeException" (by decide))) (vx_c (va_Nw.use rfl (hN.2.2.2.1 "java/lang/Exception" (by decide))) (vx_c (va_Nw.use rfl (hN.2.2.2.1 "java/lang/Throwable" (by decide))) vx_n)))
theorem xg_17 : ∀ w ∈ (vx_atS R_S 17 "java/lang/IllegalArgumentException" xNm).filter goodWord, w ∈ GW := by decide +kernel
theorem xg_121 : ∀ w ∈ (vx_atS R_S 121 "java/lang/IllegalStateException" xNm).filter goodWord, w ∈ GW := by decide +kernel
theorem xb_17 : ∀ w ∈ (vx_atS R_S 17 "java/lang/IllegalArgumentException" xNm).filter (fun w => !goodWord w), w ∈ xBd "java/lang/IllegalArgumentException" := by decide +kernel
theorem xb_121 : ∀ w ∈ (vx_atS R_S 121 "java/lang/IllegalStateException" xNm).filter (fun w => !goodWord w), w ∈ xBd "java/lang/IllegalStateException" := by decide +kernel
theorem xo_17 : ∀ w ∈ Cond.classLink R_S 13 "java/lang/IllegalArgumentException" :: Cond.initialized "java/lang/IllegalArgumentException" :: vx_atS R_S 17 "java/lang/IllegalArgumentException" xNm, vx_ot w = true := by decide +kernel
theorem xo_121 : ∀ w ∈ Cond.classLink R_S 117 "java/lang/IllegalStateException" :: Cond.initialized "java/lang/IllegalStateException" :: vx_atS R_S 121 "java/lang/IllegalStateException" xNm, vx_ot w = true := by decide +kernel
def uAt (a : Int32) (L : List AP) : Option AP := match pAt a L with
  | none => none
  | some x => if x.2.2.2.1 then some x else none
theorem uAt_mem {a : Int32} {L : List AP} {x : AP} (h : uAt a L = some x) : x ∈ L ∧ x.2.2.2.1 = true ∧ pAt a L = some x := by
  unfold uAt at h
  cases hp : pAt a L with
  | none => rw [hp] at h; cases h
  | some y =>
    rw [hp] at h
    by_cases hu : y.2.2.2.1 = true
    · simp [hu] at h
      subst h
      exact ⟨(pAt_mem hp).1, hu, rfl⟩
    · simp [hu] at h
theorem rng {n : Int32} {lo hi : Nat} (h1 : ¬ n < nI lo) (h2 : n ≤ nI hi) (hl : lo < 2 ^ 31) (hh : hi < 2 ^ 31) : ∃ k : Nat, lo ≤ k ∧ k ≤ hi ∧ n = nI k := by
  have h3 : ¬ n.toInt < (nI lo).toInt := fun h => h1 (Int32.lt_iff_toInt_lt.mpr h)
  have h4 : n.toInt ≤ (nI hi).toInt := Int32.le_iff_toInt_le.mp h2
  rw [nI_toInt hl] at h3
  rw [nI_toInt hh] at h4
  refine ⟨n.toInt.toNat, by omega, by omega, ?_⟩
  apply Int32.toInt_inj.mp
  rw [nI_toInt (by omega)]
  omega
