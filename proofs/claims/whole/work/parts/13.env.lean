/-! what a method finds at its start beside its world: words of the tables that aren't good ones, the statics of Throwable, texts -/
abbrev classes : List vw_C := [(R_S, F_S, 7), (R_P, F_P, 6), (R_M, F_M, 10)]
abbrev tyL : Type := List (ClassId × FieldType)
def nwF : List (Nat × String × String) := [(47, "begin", "I"), (60, "size", "I"), (37, "used", "Z"), (50, "marked", "Z"), (114, "freedAt", "J"), (69, "next", "LSweepHand$Piece;")]
def nwM : List (Nat × MethodName) := [(107, y_P_init), (104, y_P_end), (127, y_P_isFreeForTaking), (135, y_P_isKeptBySweep), (145, y_P_isCrumb)]
def nwC : List String := ["java/lang/IllegalArgumentException", "java/util/NoSuchElementException", "java/lang/IllegalStateException"]
def nwD : List String := ["java/lang/RuntimeException", "java/lang/Exception", "java/lang/Throwable"]
def NW (U : State) : Prop := (∀ q ∈ nwF, va_Nw (.fieldLinkNest R_S q.1 "SweepHand$Piece" q.2.1 q.2.2 "SweepHand") U) ∧ (∀ q ∈ nwM, va_Nw (.methodLinkNest R_S q.1 q.2 "SweepHand") U) ∧ (∀ q ∈ nwC, va_Nw (.castable q q) U) ∧ (∀ q ∈ nwD, va_Nw (.declares ⟨q, "<init>", "(Ljava/lang/String;)V"⟩) U) ∧ va_Nc "java/lang/IllegalStateException" "java/util/NoSuchElementException" U
theorem NW.warm {s U : State} (hW : s.WarmedH U.vm) (h : NW s) : NW U :=
  ⟨fun q hq => va_Nw.warmF hW (h.1 q hq), fun q hq => va_Nw.warmM hW (h.2.1 q hq), fun q hq => va_Nw.warmC hW (h.2.2.1 q hq), fun q hq => va_Nw.warmD hW (h.2.2.2.1 q hq), va_Nc.moved hW.alike h.2.2.2.2⟩
def txS : List (Nat × String) := [(15, "the number of cells is not 16 .. 16384"), (24, "the size is not 3 .. 2000"), (124, "no used piece begins there"), (119, "there is a sweep"), (72, "the number of steps is not 0 .. 5000"), (94, "what to count is not 0 .. 10")]
def EV (N0 : Nat) (U : State) (H : Heap) : Prop := vx_Zq Bundle.tN "UNASSIGNED_STACK" Bundle.steD (fun q => N0 ≤ q) U H ∧ vx_Zq Bundle.tN "SUPPRESSED_SENTINEL" Bundle.listD (fun q => N0 ≤ q) U H ∧ ∀ q ∈ txS, ∃ a, vk_R R_S q.1 q.2 a U
theorem EV.warm {N0 : Nat} {s U : State} {H : Heap} (hW : s.WarmedH U.vm) (h : EV N0 s H) : EV N0 U H :=
  ⟨h.1.moved hW.alike, h.2.1.moved hW.alike, fun q hq => (h.2.2 q hq).elim fun a ha => ⟨a, vk_R.warm hW ha⟩⟩
theorem EV.kept {N0 : Nat} {s : State} {H H1 : Heap} (hq : ∀ a : Nat, a < H.size → ¬ N0 ≤ a → H1[a]? = H[a]?) (h : EV N0 s H) : EV N0 s H1 :=
  ⟨h.1.kept hq, h.2.1.kept hq, h.2.2⟩
/-- a reader's start -/
def at0 (D : va_G) (ty : tyL) (ws : va_W) (U : State) : Prop := va_P D classes ws U.heap ∧ va_K D classes ty U ∧ NW U
theorem at0.of {D : va_G} {ty : tyL} {ws : va_W} {s U : State} {H : Heap} (hP : va_P D classes ws H) (hK : va_K D classes ty s) (hN : NW s) (hU : U.heap = H) (hW : s.WarmedH U.vm) : at0 D ty ws U :=
  ⟨by rw [hU]; exact hP, va_K.moved hW.alike hK, hN.warm hW⟩
theorem at0.call {D : va_G} {ty : tyL} {ws : va_W} {U : State} {g : JFrame} {mk : MethodId} {a : Array Value} (h : at0 D ty ws U) : at0 D ty ws (U.calling g mk a) :=
  ⟨h.1, va_K.moved (u := U) (U := U.calling g mk a) (Vm.Alike.refl U.vm) h.2.1, NW.warm (s := U) (U := U.calling g mk a) (State.WarmedH.refl U) h.2.2⟩
/-- a writer's start -/
def at1 (D : va_G) (ty : tyL) (N0 sz : Nat) (ws : va_W) (U : State) : Prop := U.heap.size = sz ∧ N0 ≤ sz ∧ at0 D ty ws U ∧ va_D (fun q => N0 ≤ q) ws ∧ EV N0 U U.heap
/-- a writer's end -/
def at2 (D : va_G) (ty : tyL) (A : Nat → Prop) (ws : va_W) (t : State) : Prop := va_P D classes ws t.heap ∧ va_K D classes ty t ∧ va_D A ws
theorem at2.of {D : va_G} {ty : tyL} {ws : va_W} {A : Nat → Prop} {s t : State} {H : Heap} (hP : va_P D classes ws H) (hK : va_K D classes ty s) (hD : va_D A ws) (ht : t.heap = H) (hW : s.WarmedH t.vm) : at2 D ty A ws t :=
  ⟨by rw [ht]; exact hP, va_K.moved hW.alike hK, hD⟩
/-- where an exception leaves: the class's name, the world as it is -/
def atX (D : va_G) (ty : tyL) (A : Nat → Prop) (E : String) (ws : va_W) (t : State) : Prop := va_P D classes ws t.heap ∧ va_K D classes ty t ∧ va_D A ws
theorem at1.call {D : va_G} {ty : tyL} {N0 sz : Nat} {ws : va_W} {U : State} {g : JFrame} {mk : MethodId} {a : Array Value} (h : at1 D ty N0 sz ws U) : at1 D ty N0 sz ws (U.calling g mk a) :=
  ⟨h.1, h.2.1, h.2.2.1.call, h.2.2.2.1, EV.warm (s := U) (U := U.calling g mk a) (State.WarmedH.refl U) h.2.2.2.2⟩
theorem at1.of {D : va_G} {ty : tyL} {N0 : Nat} {ws : va_W} {A : Nat → Prop} {locs : List Loc} {s U : State} {H : Heap} (hP : va_P D classes ws H) (hK : va_K D classes ty s) (hN : NW s) (hD : va_D A ws) (hS : va_S A s.heap H locs) (hAN : ∀ q, A q → N0 ≤ q) (hN0 : N0 ≤ s.heap.size) (hE : EV N0 s s.heap) (hU : U.heap = H) (hW : s.WarmedH U.vm) : at1 D ty N0 H.size ws U :=
  ⟨by rw [hU], Nat.le_trans hN0 hS.1, at0.of hP hK hN hU hW, hD.weaken (fun _ _ _ h => hAN _ h), by rw [hU]; exact EV.warm hW (EV.kept (fun a h1 h2 => hS.2.1 a h1 (fun h => h2 (hAN a h))) hE)⟩
section PRE
variable {D : va_G} {ty : tyL} {N0 : Nat} {ws : va_W} {A : Nat → Prop} {locs : List Loc} {s : State} {H : Heap} {As : List Value}
theorem pre_roS (hP : va_P D classes ws H) (hK : va_K D classes ty s) (hN : NW s) : PreS s H (va_Pc As (at0 D ty ws)) As :=
  ⟨fun a U g mk q => ⟨q.1, q.2.call⟩, fun U hU hW => ⟨rfl, at0.of hP hK hN hU hW⟩⟩
theorem pre_roV {b k ci : Nat} {q : vw_C} {fs : List Value} (hP : va_P D classes ws H) (hK : va_K D classes ty s) (hN : NW s) (hc : classes[ci]? = some q) (he : ws[k]? = some (b, .inr (ci, fs))) : PreV s H q.1 b (va_Pc (.ref b :: As) (at0 D ty ws)) As :=
  ⟨fun a U g mk q => ⟨q.1, q.2.call⟩, va_recv hK hP hc he, fun U hU hW => ⟨rfl, at0.of hP hK hN hU hW⟩⟩
theorem pre_wrS (hP : va_P D classes ws H) (hK : va_K D classes ty s) (hN : NW s) (hD : va_D A ws) (hS : va_S A s.heap H locs) (hAN : ∀ q, A q → N0 ≤ q) (hN0 : N0 ≤ s.heap.size) (hE : EV N0 s s.heap) : PreS s H (va_Pc As (at1 D ty N0 H.size ws)) As :=
  ⟨fun a U g mk q => ⟨q.1, q.2.call⟩, fun U hU hW => ⟨rfl, at1.of hP hK hN hD hS hAN hN0 hE hU hW⟩⟩
theorem pre_wrV {b k ci : Nat} {q : vw_C} {fs : List Value} (hP : va_P D classes ws H) (hK : va_K D classes ty s) (hN : NW s) (hD : va_D A ws) (hS : va_S A s.heap H locs) (hAN : ∀ q, A q → N0 ≤ q) (hN0 : N0 ≤ s.heap.size) (hE : EV N0 s s.heap) (hc : classes[ci]? = some q) (he : ws[k]? = some (b, .inr (ci, fs))) : PreV s H q.1 b (va_Pc (.ref b :: As) (at1 D ty N0 H.size ws)) As :=
  ⟨fun a U g mk q => ⟨q.1, q.2.call⟩, va_recv hK hP hc he, fun U hU hW => ⟨rfl, at1.of hP hK hN hD hS hAN hN0 hE hU hW⟩⟩
end PRE
theorem sw_AN {N0 : Nat} {ws : va_W} {sz : Nat} (hD : va_D (fun q => N0 ≤ q) ws) (h : N0 ≤ sz) : ∀ q, va_A ws sz q → N0 ≤ q := by
  intro q hq
  rcases hq with ⟨k, e, hk⟩ | hq
  · exact hD.2 k (q, e) hk
  · exact Nat.le_trans h hq
