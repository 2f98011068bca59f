section
-- ===== PART A: goes FIRST, ahead of the names: the tables' words, and 'selects' of the private methods out of them =====
/-- a private method of a class that the tables say can be made, by its rows of tables_1 -/
def lw_okq (q : MethodName × Nat) : Prop := (q.1.cls ≠ "java/lang/invoke/MethodHandle" ∧ q.1.cls ≠ "java/lang/invoke/VarHandle") ∧ Cond.instantiable q.1.cls q.2 ∈ tables_1 ∧ Cond.privateMethod q.1 ∈ tables_1 ∧ Cond.instanceMethod q.1 ∈ tables_1
theorem lw_p0 : lw_okq (⟨"SweepHand", "startAnew", "(I)V"⟩, 7) := ⟨⟨by decide +kernel, by decide +kernel⟩, List.mem_of_getElem? (i := 11) (by decide +kernel), List.mem_of_getElem? (i := 19) (by decide +kernel), List.mem_of_getElem? (i := 20) (by decide +kernel)⟩
theorem lw_p1 : lw_okq (⟨"SweepHand", "comeToBeFree", "(LSweepHand$Piece;)V"⟩, 7) := ⟨⟨by decide +kernel, by decide +kernel⟩, List.mem_of_getElem? (i := 11) (by decide +kernel), List.mem_of_getElem? (i := 53) (by decide +kernel), List.mem_of_getElem? (i := 54) (by decide +kernel)⟩
theorem lw_p2 : lw_okq (⟨"SweepHand", "pieceAt", "(I)LSweepHand$Piece;"⟩, 7) := ⟨⟨by decide +kernel, by decide +kernel⟩, List.mem_of_getElem? (i := 11) (by decide +kernel), List.mem_of_getElem? (i := 87) (by decide +kernel), List.mem_of_getElem? (i := 88) (by decide +kernel)⟩
theorem lw_p3 : lw_okq (⟨"SweepHand", "isTimeRight", "(LSweepHand$Piece;)Z"⟩, 7) := ⟨⟨by decide +kernel, by decide +kernel⟩, List.mem_of_getElem? (i := 11) (by decide +kernel), List.mem_of_getElem? (i := 102) (by decide +kernel), List.mem_of_getElem? (i := 103) (by decide +kernel)⟩
theorem lw_p4 : lw_okq (⟨"SweepHand$Piece", "end", "()I"⟩, 6) := ⟨⟨by decide +kernel, by decide +kernel⟩, List.mem_of_getElem? (i := 23) (by decide +kernel), List.mem_of_getElem? (i := 106) (by decide +kernel), List.mem_of_getElem? (i := 107) (by decide +kernel)⟩
theorem lw_p5 : lw_okq (⟨"java/lang/Throwable", "fillInStackTrace", "(I)Ljava/lang/Throwable;"⟩, 6) := ⟨⟨by decide +kernel, by decide +kernel⟩, List.mem_of_getElem? (i := 156) (by decide +kernel), List.mem_of_getElem? (i := 154) (by decide +kernel), List.mem_of_getElem? (i := 155) (by decide +kernel)⟩
theorem lw_p6 : lw_okq (⟨"SweepHand", "whatIsTakenFor", "(I)LSweepHand$Piece;"⟩, 7) := ⟨⟨by decide +kernel, by decide +kernel⟩, List.mem_of_getElem? (i := 11) (by decide +kernel), List.mem_of_getElem? (i := 194) (by decide +kernel), List.mem_of_getElem? (i := 195) (by decide +kernel)⟩
theorem lw_p7 : lw_okq (⟨"SweepHand$Piece", "isFreeForTaking", "()Z"⟩, 6) := ⟨⟨by decide +kernel, by decide +kernel⟩, List.mem_of_getElem? (i := 23) (by decide +kernel), List.mem_of_getElem? (i := 198) (by decide +kernel), List.mem_of_getElem? (i := 199) (by decide +kernel)⟩
theorem lw_p8 : lw_okq (⟨"SweepHand", "cutTo", "(LSweepHand$Piece;I)V"⟩, 7) := ⟨⟨by decide +kernel, by decide +kernel⟩, List.mem_of_getElem? (i := 11) (by decide +kernel), List.mem_of_getElem? (i := 205) (by decide +kernel), List.mem_of_getElem? (i := 206) (by decide +kernel)⟩
theorem lw_p9 : lw_okq (⟨"SweepHand", "usedPieceAt", "(I)LSweepHand$Piece;"⟩, 7) := ⟨⟨by decide +kernel, by decide +kernel⟩, List.mem_of_getElem? (i := 11) (by decide +kernel), List.mem_of_getElem? (i := 217) (by decide +kernel), List.mem_of_getElem? (i := 218) (by decide +kernel)⟩
theorem lw_p10 : lw_okq (⟨"SweepHand", "refuseDuringSweep", "()V"⟩, 7) := ⟨⟨by decide +kernel, by decide +kernel⟩, List.mem_of_getElem? (i := 11) (by decide +kernel), List.mem_of_getElem? (i := 245) (by decide +kernel), List.mem_of_getElem? (i := 246) (by decide +kernel)⟩
theorem lw_p11 : lw_okq (⟨"SweepHand", "stepFrom", "(LSweepHand$Piece;)V"⟩, 7) := ⟨⟨by decide +kernel, by decide +kernel⟩, List.mem_of_getElem? (i := 11) (by decide +kernel), List.mem_of_getElem? (i := 287) (by decide +kernel), List.mem_of_getElem? (i := 288) (by decide +kernel)⟩
theorem lw_p12 : lw_okq (⟨"SweepHand$Piece", "isKeptBySweep", "()Z"⟩, 6) := ⟨⟨by decide +kernel, by decide +kernel⟩, List.mem_of_getElem? (i := 23) (by decide +kernel), List.mem_of_getElem? (i := 291) (by decide +kernel), List.mem_of_getElem? (i := 292) (by decide +kernel)⟩
theorem lw_p13 : lw_okq (⟨"SweepHand", "gatherFrom", "(LSweepHand$Piece;)V"⟩, 7) := ⟨⟨by decide +kernel, by decide +kernel⟩, List.mem_of_getElem? (i := 11) (by decide +kernel), List.mem_of_getElem? (i := 295) (by decide +kernel), List.mem_of_getElem? (i := 296) (by decide +kernel)⟩
theorem lw_p14 : lw_okq (⟨"SweepHand", "sumOverPieces", "(I)I"⟩, 7) := ⟨⟨by decide +kernel, by decide +kernel⟩, List.mem_of_getElem? (i := 11) (by decide +kernel), List.mem_of_getElem? (i := 306) (by decide +kernel), List.mem_of_getElem? (i := 307) (by decide +kernel)⟩
theorem lw_p15 : lw_okq (⟨"SweepHand$Piece", "isCrumb", "()Z"⟩, 6) := ⟨⟨by decide +kernel, by decide +kernel⟩, List.mem_of_getElem? (i := 23) (by decide +kernel), List.mem_of_getElem? (i := 313) (by decide +kernel), List.mem_of_getElem? (i := 314) (by decide +kernel)⟩
def lw_privs_1 : List (MethodName × Nat) := [(⟨"SweepHand", "startAnew", "(I)V"⟩, 7), (⟨"SweepHand", "comeToBeFree", "(LSweepHand$Piece;)V"⟩, 7), (⟨"SweepHand", "pieceAt", "(I)LSweepHand$Piece;"⟩, 7), (⟨"SweepHand", "isTimeRight", "(LSweepHand$Piece;)Z"⟩, 7), (⟨"SweepHand$Piece", "end", "()I"⟩, 6), (⟨"java/lang/Throwable", "fillInStackTrace", "(I)Ljava/lang/Throwable;"⟩, 6), (⟨"SweepHand", "whatIsTakenFor", "(I)LSweepHand$Piece;"⟩, 7), (⟨"SweepHand$Piece", "isFreeForTaking", "()Z"⟩, 6), (⟨"SweepHand", "cutTo", "(LSweepHand$Piece;I)V"⟩, 7), (⟨"SweepHand", "usedPieceAt", "(I)LSweepHand$Piece;"⟩, 7), (⟨"SweepHand", "refuseDuringSweep", "()V"⟩, 7), (⟨"SweepHand", "stepFrom", "(LSweepHand$Piece;)V"⟩, 7), (⟨"SweepHand$Piece", "isKeptBySweep", "()Z"⟩, 6), (⟨"SweepHand", "gatherFrom", "(LSweepHand$Piece;)V"⟩, 7), (⟨"SweepHand", "sumOverPieces", "(I)I"⟩, 7), (⟨"SweepHand$Piece", "isCrumb", "()Z"⟩, 6)]
theorem lw_r1 : ∀ q ∈ lw_privs_1, lw_okq q := List.forall_mem_cons.mpr ⟨lw_p0, List.forall_mem_cons.mpr ⟨lw_p1, List.forall_mem_cons.mpr ⟨lw_p2, List.forall_mem_cons.mpr ⟨lw_p3, List.forall_mem_cons.mpr ⟨lw_p4, List.forall_mem_cons.mpr ⟨lw_p5, List.forall_mem_cons.mpr ⟨lw_p6, List.forall_mem_cons.mpr ⟨lw_p7, List.forall_mem_cons.mpr ⟨lw_p8, List.forall_mem_cons.mpr ⟨lw_p9, List.forall_mem_cons.mpr ⟨lw_p10, List.forall_mem_cons.mpr ⟨lw_p11, List.forall_mem_cons.mpr ⟨lw_p12, List.forall_mem_cons.mpr ⟨lw_p13, List.forall_mem_cons.mpr ⟨lw_p14, List.forall_mem_cons.mpr ⟨lw_p15, fun _ h => absurd h List.not_mem_nil⟩⟩⟩⟩⟩⟩⟩⟩⟩⟩⟩⟩⟩⟩⟩⟩
theorem lw_p16 : lw_okq (⟨"SweepHand", "greatestFree", "()I"⟩, 7) := ⟨⟨by decide +kernel, by decide +kernel⟩, List.mem_of_getElem? (i := 11) (by decide +kernel), List.mem_of_getElem? (i := 317) (by decide +kernel), List.mem_of_getElem? (i := 318) (by decide +kernel)⟩
theorem lw_p17 : lw_okq (⟨"SweepHandModel", "goes", "(ZZ)Z"⟩, 10) := ⟨⟨by decide +kernel, by decide +kernel⟩, List.mem_of_getElem? (i := 322) (by decide +kernel), List.mem_of_getElem? (i := 369) (by decide +kernel), List.mem_of_getElem? (i := 370) (by decide +kernel)⟩
theorem lw_p18 : lw_okq (⟨"SweepHandModel", "release", "(II)V"⟩, 10) := ⟨⟨by decide +kernel, by decide +kernel⟩, List.mem_of_getElem? (i := 322) (by decide +kernel), List.mem_of_getElem? (i := 373) (by decide +kernel), List.mem_of_getElem? (i := 374) (by decide +kernel)⟩
theorem lw_p19 : lw_okq (⟨"SweepHandModel", "best", "(I)I"⟩, 10) := ⟨⟨by decide +kernel, by decide +kernel⟩, List.mem_of_getElem? (i := 322) (by decide +kernel), List.mem_of_getElem? (i := 381) (by decide +kernel), List.mem_of_getElem? (i := 382) (by decide +kernel)⟩
theorem lw_p20 : lw_okq (⟨"SweepHandModel", "length", "(I)I"⟩, 10) := ⟨⟨by decide +kernel, by decide +kernel⟩, List.mem_of_getElem? (i := 322) (by decide +kernel), List.mem_of_getElem? (i := 385) (by decide +kernel), List.mem_of_getElem? (i := 386) (by decide +kernel)⟩
theorem lw_p21 : lw_okq (⟨"SweepHandModel", "used", "(I)Z"⟩, 10) := ⟨⟨by decide +kernel, by decide +kernel⟩, List.mem_of_getElem? (i := 322) (by decide +kernel), List.mem_of_getElem? (i := 393) (by decide +kernel), List.mem_of_getElem? (i := 394) (by decide +kernel)⟩
theorem lw_p22 : lw_okq (⟨"SweepHandModel", "marks", "()I"⟩, 10) := ⟨⟨by decide +kernel, by decide +kernel⟩, List.mem_of_getElem? (i := 322) (by decide +kernel), List.mem_of_getElem? (i := 405) (by decide +kernel), List.mem_of_getElem? (i := 406) (by decide +kernel)⟩
theorem lw_p23 : lw_okq (⟨"SweepHandModel", "step", "()V"⟩, 10) := ⟨⟨by decide +kernel, by decide +kernel⟩, List.mem_of_getElem? (i := 322) (by decide +kernel), List.mem_of_getElem? (i := 417) (by decide +kernel), List.mem_of_getElem? (i := 418) (by decide +kernel)⟩
theorem lw_p24 : lw_okq (⟨"SweepHandModel", "greatest", "()I"⟩, 10) := ⟨⟨by decide +kernel, by decide +kernel⟩, List.mem_of_getElem? (i := 322) (by decide +kernel), List.mem_of_getElem? (i := 437) (by decide +kernel), List.mem_of_getElem? (i := 438) (by decide +kernel)⟩
def lw_privs_2 : List (MethodName × Nat) := [(⟨"SweepHand", "greatestFree", "()I"⟩, 7), (⟨"SweepHandModel", "goes", "(ZZ)Z"⟩, 10), (⟨"SweepHandModel", "release", "(II)V"⟩, 10), (⟨"SweepHandModel", "best", "(I)I"⟩, 10), (⟨"SweepHandModel", "length", "(I)I"⟩, 10), (⟨"SweepHandModel", "used", "(I)Z"⟩, 10), (⟨"SweepHandModel", "marks", "()I"⟩, 10), (⟨"SweepHandModel", "step", "()V"⟩, 10), (⟨"SweepHandModel", "greatest", "()I"⟩, 10)]
theorem lw_r2 : ∀ q ∈ lw_privs_2, lw_okq q := List.forall_mem_cons.mpr ⟨lw_p16, List.forall_mem_cons.mpr ⟨lw_p17, List.forall_mem_cons.mpr ⟨lw_p18, List.forall_mem_cons.mpr ⟨lw_p19, List.forall_mem_cons.mpr ⟨lw_p20, List.forall_mem_cons.mpr ⟨lw_p21, List.forall_mem_cons.mpr ⟨lw_p22, List.forall_mem_cons.mpr ⟨lw_p23, List.forall_mem_cons.mpr ⟨lw_p24, fun _ h => absurd h List.not_mem_nil⟩⟩⟩⟩⟩⟩⟩⟩⟩
def lw_privs : List (MethodName × Nat) := lw_privs_1 ++ (lw_privs_2)
def lw_tbl : List Cond := k2_sels lw_privs ++ tables_1
theorem lw_privs_ok : ∀ q ∈ lw_privs, lw_okq q := by
  show ∀ q ∈ lw_privs_1 ++ (lw_privs_2), lw_okq q
  exact List.forall_mem_append.mpr ⟨lw_r1, lw_r2⟩
end
section
/-! ===== BEGIN words of one list among another's, by their places ===== -/
theorem goodIn_r {big : List Cond} (ws : List Cond) (ps : List Nat) (hp : ws = ps.filterMap (fun i => big[i]?)) (h : ws.all goodWord = true) : GoodIn big ws := by
  intro w hw
  have h1 := List.all_eq_true.mp h w hw
  rw [hp] at hw
  obtain ⟨i, -, hi⟩ := List.mem_filterMap.mp hw
  have hm : w ∈ big := by first | exact List.mem_of_getElem? hi | exact List.getElem?_mem hi
  exact ⟨hm, good_of_word h1⟩
theorem goodIn_app {big a b : List Cond} (ha : GoodIn big a) (hb : GoodIn big b) : GoodIn big (a ++ b) := fun w h => (List.mem_append.mp h).elim (ha w) (hb w)
theorem goodIn_ca {big a b : List Cond} {c : Cond} (ha : GoodIn big (c :: a)) (hb : GoodIn big b) : GoodIn big (c :: (a ++ b)) := fun w h => (List.mem_cons.mp h).elim (fun e => ha w (List.mem_cons.mpr (Or.inl e))) (fun h => (List.mem_append.mp h).elim (fun h => ha w (List.mem_cons.mpr (Or.inr h))) (hb w))
theorem goodIn_sub {big ws : List Cond} (hm : ∀ w ∈ ws, w ∈ big) (h : ws.all goodWord = true) : GoodIn big ws := fun w hw => ⟨hm w hw, good_of_word (List.all_eq_true.mp h w hw)⟩
/-! ===== END ===== -/

/-! ===== BEGIN exceptions that leave a method, and their catching by the caller (launches without stack traces) ===== -/
section VXA
/-! The laws vx_back, vx_callV, vx_callS, vx_callSW, vx_throw0, vx_throwS follow proofs of the library, with one case more: JvmDerived/Free/Laws.lean (Back.of_free), Shelf42/LK1.lean (callV, callS), Shelf/KitTraced.lean (throwNew0V, throwNewS). -/
/-- where a method has thrown q: the class by its name, the cell, what was written, the world -/
def vx_T (XC : String → State → State → Prop) (st : State) (q : Addr) (t : State) (mc ms : Nat) (free : Addr → Prop) : Prop :=
  ∃ (E : String) (ce : Cell) (L : List Loc), XC E st t ∧ t.heap[q]? = some ce ∧ ce.vm = .none ∧ st.vm.findClass E = some ce.cls ∧ st.WarmedH t.vm ∧ st.sameButNew ({ t with vm := st.vm } : State) L mc ms ∧ ∀ z ∈ L, free z.base
def vx_Q (Qc : Array Value → State → Outcome → State → Prop) (XC : String → State → State → Prop) (mc ms : Nat) (free : Addr → Prop) : Array Value → State → Outcome → State → Prop := fun a st o t =>
  (Qc a st o t ∧ ∃ L, FrameEnd st o t L mc ms ∧ ∀ q ∈ L, free q.base) ∨ ∃ q, o = .threw q ∧ vx_T XC st q t mc ms free
/-- a callee that returns or throws -/
def vx_Met (l : Launch) (y : MethodName) (ws : List Cond) (rm : Room) (Pc : Array Value → State → Prop) (Qc : Array Value → State → Outcome → State → Prop) (XC : String → State → State → Prop) (mc ms : Nat) (free : Addr → Prop) : Prop :=
  MetFree l y (headSpec ws rm) Pc (fun _ _ _ _ _ => True) (vx_Q Qc XC mc ms free)
def vx_Post (XC : String → State → State → Prop) (mc ms : Nat) (free : Addr → Prop) : Pt → Array Value → Addr → Pt → Prop := fun A a q B =>
  ∃ (g : JFrame) (mk : MethodId) (t : State) (L : List Loc) (E : String) (ce : Cell), B.U.heap = t.heap ∧ B.U.vm = t.vm ∧ XC E (A.U.calling g mk a) t ∧ t.heap[q]? = some ce ∧ ce.vm = .none ∧ A.U.vm.findClass E = some ce.cls ∧ B.locs = A.locs ++ L ∧ (∀ z ∈ L, free z.base) ∧ B.cells = A.cells + mc ∧ B.slots = A.slots + ms
def vx_Back (l : Launch) (R : Room) (p : Program) (e : Env) (below : List Frame) (s : State) (sargs : Array Value) (y : MethodName) (len W9 : Nat)
    (Pre : Pt → Array Value → Prop) (Post : Pt → Array Value → Option Value → Pt → Prop) (PostX : Pt → Array Value → Addr → Pt → Prop) : Prop :=
  ∀ (m : MethodId) (meth : Method) (c : Code) (A : Pt) (g : JFrame) (ig : Instr) (mk : MethodId) (a : Array Value),
    Stand p l e R s m sargs below meth c A.U A.locs A.cells A.slots → g.method = m → g.locals.size = c.maxLocals → decode c.code g.pc = .ok (ig, len) →
    2 * g.monitorRoom + (g.stack.map fun v => v.category).sum ≤ W9 → A.U.methodNamed? y = some mk → Pre A a →
    (∃ (v : Option Value) (B : Pt), Stand p l e R s m sargs below meth c B.U B.locs B.cells B.slots ∧ Post A a v B ∧
      Steps p.tables e below (doInvoke e (A.U.setTop g) [] mk a).1 (B.U.setTop { g with pc := g.pc + len, stack := v.toList ++ g.stack })) ∨
    (∃ (q : Addr) (B : Pt), Stand p l e R s m sargs below meth c B.U B.locs B.cells B.slots ∧ PostX A a q B ∧
      Steps p.tables e below (doInvoke e (A.U.setTop g) [] mk a).1 ((B.U.setTop g).pushFrame (.throwing q)))
section Payer
variable {l : Launch} {R : Room} {p : Program} {e : Env} {below : List Frame} {s : State} {sargs : Array Value} {y : MethodName} {len W9 : Nat}
theorem vx_back {ws : List Cond} {rm : Room} {Pc : Array Value → State → Prop} {Qc : Array Value → State → Outcome → State → Prop} {XC : String → State → State → Prop} {mc ms : Nat} {free : Addr → Prop} {bytes : ByteArray} {maxL : Nat} {ret : Option FieldType}
    (hM : vx_Met l y ws rm Pc Qc XC mc ms free) (hblind : FrameBlind Pc) (hrc : rm.cells = mc) (hrs : rm.slots = ms)
    (hframes : rm.frames + 1 ≤ R.frames) (hlocals : W9 + (maxL + 11) + rm.locals ≤ R.locals)
    (hws : ∀ w ∈ ws, ∀ a' U, s.WarmedH U.vm → w.before a' U = true) (hcode : Cond.code y bytes maxL ret ∈ ws) (hinit : ∀ a' U, s.WarmedH U.vm → (Cond.initialized y.cls).before a' U = true) :
    vx_Back l R p e below s sargs y len W9 (PreOf R mc ms Pc) (PostOf Qc mc ms free) (vx_Post XC mc ms free) := by
  intro m meth c A g ig mk a X hg hsize hdg hW hn hp
  have h1 : (headSpec ws rm).pre.before a A.U = true := atoms_intro fun w hw => hws w hw _ _ X.warmed
  have h2 : (Cond.code y bytes maxL ret).before a A.U = true := hws _ hcode _ _ X.warmed
  have h3 : (Cond.initialized y.cls).before a A.U = true := hinit _ _ X.warmed
  have h4 : A.cells + (headSpec ws rm).room.cells ≤ R.cells := by rw [show (headSpec ws rm).room.cells = mc from hrc]; exact hp.1
  have h5 : A.slots + (headSpec ws rm).room.slots ≤ R.slots := by rw [show (headSpec ws rm).room.slots = ms from hrs]; exact hp.2.1
  have hPc : Pc a (A.U.calling g mk a) := hblind _ _ _ _ hp.2.2
  obtain ⟨U, Ls, c0, s0⟩ := A
  dsimp only [Pt.U, Pt.locs, Pt.cells, Pt.slots] at h1 h2 h3 h4 h5 X hn hPc ⊢
  obtain ⟨methY, cY, hmY, hcY, -, hlY, -, -, -, -⟩ := Cond.code_spec hn h2
  obtain ⟨kY, hkY, -⟩ := className_of_methodNamed hn
  have hinitY : kY.init = .initialized := Cond.initialized_spec (findClass_of_methodNamed hn) hkY h3
  have h : At U g.method c below := by rw [hg]; exact X.here
  have hlocals9 : W9 + (maxL + 11) + (headSpec ws rm).room.locals ≤ R.locals := hlocals
  have happ : (headSpec ws rm).appliesLoose y e.platform (U.calling g mk a) = true :=
    Spec.appliesLoose_calling (g := g) h hdg hn hkY hinitY
      (X.room_calling (g := g) (R' := (headSpec ws rm).room) hsize hmY hcY hframes (by rw [hlY]; omega) h4 h5) h1
  obtain ⟨mid, hmid⟩ := h.above
  have hfr : (U.setTop g).frames = (.java g :: mid) ++ below := by rw [State.frames_setTop' g h.top, hmid]; rfl
  obtain ⟨o, s₂, hsteps, -, hend, hq⟩ := Steps.callFree hM p X.admits X.cas X.clock (acts := []) hfr happ hPc trivial
  have hq' : vx_Q Qc XC mc ms free a (U.calling g mk a) o s₂ := hq
  rw [State.frames_setTop' g h.top] at hend
  obtain ⟨g₀, hg0⟩ := Option.isSome_iff_exists.mp h.top
  obtain ⟨r, hr⟩ := State.topJava?_eq_some.mp hg0
  have hr' : (({ U with heap := s₂.heap, slotsUsed := s₂.slotsUsed } : State).setVm s₂.vm).frames = .java g₀ :: r := hr
  rcases hq' with ⟨hqc, L, hfe, hL⟩ | ⟨q, rfl, E, ce, L, hx, hce, hcv, hcl, hW₂, hsm, hL⟩
  · obtain ⟨⟨v, rfl⟩, hW₂, e2, q2, q3, q4, q5, q6⟩ := id hfe
    have e3 : s₂ = ({ (U.calling g mk a).setFrames s₂.frames with heap := s₂.heap, slotsUsed := s₂.slotsUsed } : State).setVm s₂.vm := by
      have : s₂ = ({ s₂ with vm := (U.calling g mk a).vm } : State).setVm s₂.vm := rfl
      rw [e2] at this
      exact this
    obtain ⟨c₂, i₂, len₂, hc₂, hd₂, hf₂⟩ := hend
    have hW' : U.WarmedH s₂.vm := hW₂
    have hcc : c₂ = c := by
      have h1 : s₂.code? g.method = U.code? g.method := by
        rw [State.code?_eq, State.code?_eq, hW'.alike.method?]
      exact Option.some.inj (hc₂.symm.trans (h1.trans h.code))
    subst hcc
    have hlen : len₂ = len := by rw [hdg] at hd₂; cases hd₂; rfl
    subst hlen
    have hs₂ : s₂ = (({ U with heap := s₂.heap, slotsUsed := s₂.slotsUsed } : State).setVm s₂.vm).setTop { g with pc := g.pc + len₂, stack := v.toList ++ g.stack } := by
      refine e3.trans ?_
      rw [hf₂, State.calling_eq h.top, State.setFrames_setFrames, State.setTop_of_frames _ hr', hr]
      rfl
    have hsame : U.sameButNew ({ U with heap := s₂.heap, slotsUsed := s₂.slotsUsed } : State) L mc ms := by
      refine ⟨?_, q2, q3, q4, q5, q6⟩
      obtain ⟨t, ht, -⟩ := State.frames_cons hr
      show ({ U with heap := s₂.heap, slotsUsed := s₂.slotsUsed } : State) = { U.setFrames U.frames with heap := s₂.heap, slotsUsed := s₂.slotsUsed }
      rw [State.setFrames_self ht]
    subst hg
    refine Or.inl ⟨v, ⟨(({ U with heap := s₂.heap, slotsUsed := s₂.slotsUsed } : State).setVm s₂.vm), Ls ++ L, c0 + mc, s0 + ms⟩,
      ⟨X.admits, X.cas, X.clock, X.frames, X.room, X.hears, X.method, X.code, (X.here.setHeapUsed s₂.heap s₂.slotsUsed).setVm hW'.alike, X.tail, State.WarmedH.trans X.warmed hW', X.limits, X.bytes, X.same.trans (hsame.setVm s.vm)⟩,
      ⟨g, mk, s₂, L, rfl, rfl, hqc, rfl, hL, rfl, rfl⟩, ?_⟩
    show Steps p.tables e below _ ((({ U with heap := s₂.heap, slotsUsed := s₂.slotsUsed } : State).setVm s₂.vm).setTop { g with pc := g.pc + len₂, stack := v.toList ++ g.stack })
    rw [← hs₂]
    exact hsteps
  · obtain ⟨e2, q2, q3, q4, q5, q6⟩ := id hsm
    have e3 : s₂ = ({ (U.calling g mk a).setFrames s₂.frames with heap := s₂.heap, slotsUsed := s₂.slotsUsed } : State).setVm s₂.vm := by
      have : s₂ = ({ s₂ with vm := (U.calling g mk a).vm } : State).setVm s₂.vm := rfl
      rw [e2] at this
      exact this
    have hf₂ : s₂.frames = .throwing q :: .java g :: U.frames.tail := hend
    have hW' : U.WarmedH s₂.vm := hW₂
    have hs₂ : s₂ = ((({ U with heap := s₂.heap, slotsUsed := s₂.slotsUsed } : State).setVm s₂.vm).setTop g).pushFrame (.throwing q) := by
      refine e3.trans ?_
      rw [hf₂, State.calling_eq h.top, State.setFrames_setFrames, State.pushFrame, State.frames_setTop _ hr', State.setTop_of_frames _ hr', State.setFrames_setFrames, hr]
      rfl
    have hsame : U.sameButNew ({ U with heap := s₂.heap, slotsUsed := s₂.slotsUsed } : State) L mc ms := by
      refine ⟨?_, q2, q3, q4, q5, q6⟩
      obtain ⟨t, ht, -⟩ := State.frames_cons hr
      show ({ U with heap := s₂.heap, slotsUsed := s₂.slotsUsed } : State) = { U.setFrames U.frames with heap := s₂.heap, slotsUsed := s₂.slotsUsed }
      rw [State.setFrames_self ht]
    subst hg
    refine Or.inr ⟨q, ⟨(({ U with heap := s₂.heap, slotsUsed := s₂.slotsUsed } : State).setVm s₂.vm), Ls ++ L, c0 + mc, s0 + ms⟩,
      ⟨X.admits, X.cas, X.clock, X.frames, X.room, X.hears, X.method, X.code, (X.here.setHeapUsed s₂.heap s₂.slotsUsed).setVm hW'.alike, X.tail, State.WarmedH.trans X.warmed hW', X.limits, X.bytes, X.same.trans (hsame.setVm s.vm)⟩,
      ⟨g, mk, s₂, L, E, ce, rfl, rfl, hx, hce, hcv, hcl, rfl, hL, rfl, rfl⟩, ?_⟩
    show Steps p.tables e below _ (((({ U with heap := s₂.heap, slotsUsed := s₂.slotsUsed } : State).setVm s₂.vm).setTop g).pushFrame (.throwing q))
    rw [← hs₂]
    exact hsteps
end Payer
section Calls
variable {p : Program} {l : Launch} {e : Env} {R : Room} {s : State} {m : MethodId} {args : Array Value} {below : List Frame} {meth : Method} {c : Code} {T : State} {locs : List Loc} {cells slots : Nat}
theorem vx_callV (X : Stand p l e R s m args below meth c T locs cells slots) (hexec : p.tables.exec = Jvm.exec) {own C : String} {index : Nat} {y : MethodName} {bytes : ByteArray} {maxL : Nat} {ret : Option FieldType}
    (hown : s.vm.findClass own = some m.cls) (hlink : (Cond.methodLink own index y).before args s = true) (hinst : (Cond.instanceMethod y).before args s = true) (hsel : (Cond.selects C y y).before args s = true)
    (hcode : (Cond.code y bytes maxL ret).before args s = true) (hy : y.cls ≠ "java/lang/invoke/MethodHandle" ∧ y.cls ≠ "java/lang/invoke/VarHandle")
    {W9 : Nat} {Pre : Pt → Array Value → Prop} {Post : Pt → Array Value → Option Value → Pt → Prop} {PostX : Pt → Array Value → Addr → Pt → Prop} (hK : vx_Back l R p e below s args y 3 W9 Pre Post PostX)
    {b : Addr} {cellB : Cell} (hcell : T.heap[b]? = some cellB) (hobj : cellB.vm.isStatics = false) (hcls : s.vm.findClass C = some cellB.cls)
    {g : JFrame} (hg : g.method = m) (hsize : g.locals.size = c.maxLocals) {argsL rest : List Value} (hlen : ∀ sig, parseMethodDescriptor y.desc = some sig → argsL.length = sig.parameters.length)
    (hstack : g.stack = argsL.reverse ++ .ref b :: rest) (hW : 2 * g.monitorRoom + (rest.map fun v => v.category).sum ≤ W9) (hdg : decode c.code g.pc = .ok (.invokevirtual index, 3))
    (hpre : ∀ vm₁, s.WarmedH vm₁ → Pre ⟨T.setVm vm₁, locs, cells, slots⟩ (Value.ref b :: argsL).toArray) :
    (∃ (v : Option Value) (vm₁ : Vm) (B : Pt), s.WarmedH vm₁ ∧ Stand p l e R s m args below meth c B.U B.locs B.cells B.slots ∧ Post ⟨T.setVm vm₁, locs, cells, slots⟩ (Value.ref b :: argsL).toArray v B ∧
      ∀ target, Steps p.tables e below (B.U.setTop { g with pc := g.pc + 3, stack := v.toList ++ rest }) target → Steps p.tables e below (T.setTop g) target) ∨
    (∃ (q : Addr) (vm₁ : Vm) (B : Pt), s.WarmedH vm₁ ∧ Stand p l e R s m args below meth c B.U B.locs B.cells B.slots ∧ PostX ⟨T.setVm vm₁, locs, cells, slots⟩ (Value.ref b :: argsL).toArray q B ∧
      Steps p.tables e below (T.setTop g) ((B.U.setTop { g with stack := rest }).pushFrame (.throwing q))) := by
  obtain ⟨mk, methM, hnamed, hmethM, hstM, habM⟩ := Cond.instanceMethod_spec hinst
  obtain ⟨methM', cM, hmethM', -, -, -, -, -, -, hsigM⟩ := Cond.code_spec hnamed hcode
  cases hmethM.symm.trans hmethM'
  obtain ⟨c2, r2, m2, q1, q2, q3, q4, kP, hkP, hkPi⟩ := Cond.selects_spec hsel
  cases hcls.symm.trans q1
  cases (State.methodFound?_of_named hnamed hy).symm.trans q2
  cases hnamed.symm.trans q3
  have hselP : selectMethod e.platform s.vm cellB.cls mk = .method mk := by rw [Launch.admits_selectMethod X.admits]; exact q4
  obtain ⟨vm₁, X₁, hstep₁⟩ := X.invokevirtual hexec hown hlink hnamed hmethM hstM hkP hkPi hy (a := b) (cell := cellB) hcell
    (fun z h => by rw [h] at hobj; cases hobj) hselP hmethM habM hkP hkPi (g := g) hg (argsL := argsL) (rest := rest) (hlen _ hsigM) hstack hdg
  rcases hK m meth c ⟨T.setVm vm₁, locs, cells, slots⟩ { g with stack := rest } (.invokevirtual index) mk (Value.ref b :: argsL).toArray X₁ hg hsize hdg hW (X₁.named hnamed) (hpre vm₁ X₁.warmed) with ⟨v, B, X', hpost, hsteps⟩ | ⟨q, B, X', hpost, hsteps⟩
  · exact Or.inl ⟨v, vm₁, B, X₁.warmed, X', hpost, fun target h => hstep₁ _ fun acts => by rw [doInvoke_state]; exact hsteps.trans h⟩
  · exact Or.inr ⟨q, vm₁, B, X₁.warmed, X', hpost, hstep₁ _ fun acts => by rw [doInvoke_state]; exact hsteps⟩
theorem vx_callS (X : Stand p l e R s m args below meth c T locs cells slots) (hexec : p.tables.exec = Jvm.exec) {own : String} {index : Nat} {y : MethodName} {bytes : ByteArray} {maxL : Nat} {ret : Option FieldType}
    (hown : s.vm.findClass own = some m.cls) (hlink : (Cond.methodLink own index y).before args s = true) (hstat : (Cond.static y).before args s = true) (hinit : (Cond.initialized y.cls).before args s = true)
    (hcode : (Cond.code y bytes maxL ret).before args s = true) (hy : y.cls ≠ "java/lang/invoke/MethodHandle" ∧ y.cls ≠ "java/lang/invoke/VarHandle")
    {W9 : Nat} {Pre : Pt → Array Value → Prop} {Post : Pt → Array Value → Option Value → Pt → Prop} {PostX : Pt → Array Value → Addr → Pt → Prop} (hK : vx_Back l R p e below s args y 3 W9 Pre Post PostX)
    {g : JFrame} (hg : g.method = m) (hsize : g.locals.size = c.maxLocals) {argsL rest : List Value} (hlen : ∀ sig, parseMethodDescriptor y.desc = some sig → argsL.length = sig.parameters.length)
    (hstack : g.stack = argsL.reverse ++ rest) (hW : 2 * g.monitorRoom + (rest.map fun v => v.category).sum ≤ W9) (hdg : decode c.code g.pc = .ok (.invokestatic index, 3))
    (hpre : ∀ vm₁, s.WarmedH vm₁ → Pre ⟨T.setVm vm₁, locs, cells, slots⟩ argsL.toArray) :
    (∃ (v : Option Value) (vm₁ : Vm) (B : Pt), s.WarmedH vm₁ ∧ Stand p l e R s m args below meth c B.U B.locs B.cells B.slots ∧ Post ⟨T.setVm vm₁, locs, cells, slots⟩ argsL.toArray v B ∧
      ∀ target, Steps p.tables e below (B.U.setTop { g with pc := g.pc + 3, stack := v.toList ++ rest }) target → Steps p.tables e below (T.setTop g) target) ∨
    (∃ (q : Addr) (vm₁ : Vm) (B : Pt), s.WarmedH vm₁ ∧ Stand p l e R s m args below meth c B.U B.locs B.cells B.slots ∧ PostX ⟨T.setVm vm₁, locs, cells, slots⟩ argsL.toArray q B ∧
      Steps p.tables e below (T.setTop g) ((B.U.setTop { g with stack := rest }).pushFrame (.throwing q))) := by
  obtain ⟨mk, hnamed⟩ := Cond.code_named hcode
  obtain ⟨methM, cM, hmethM, -, -, -, -, -, -, hsigM⟩ := Cond.code_spec hnamed hcode
  have hstatic : methM.isStatic = true := Cond.static_spec hnamed hmethM hstat
  obtain ⟨kP, hkP, -⟩ := className_of_methodNamed hnamed
  have hinitP : kP.init = .initialized := Cond.initialized_spec (findClass_of_methodNamed hnamed) hkP hinit
  obtain ⟨vm₁, X₁, hstep₁⟩ := X.invokestatic hexec hown hlink hnamed hmethM hstatic hkP hinitP hy (g := g) hg (argsL := argsL) (rest := rest) (hlen _ hsigM) hstack hdg
  rcases hK m meth c ⟨T.setVm vm₁, locs, cells, slots⟩ { g with stack := rest } (.invokestatic index) mk argsL.toArray X₁ hg hsize hdg hW (X₁.named hnamed) (hpre vm₁ X₁.warmed) with ⟨v, B, X', hpost, hsteps⟩ | ⟨q, B, X', hpost, hsteps⟩
  · exact Or.inl ⟨v, vm₁, B, X₁.warmed, X', hpost, fun target h => hstep₁ _ fun acts => by rw [doInvoke_state]; exact hsteps.trans h⟩
  · exact Or.inr ⟨q, vm₁, B, X₁.warmed, X', hpost, hstep₁ _ fun acts => by rw [doInvoke_state]; exact hsteps⟩
end Calls
theorem vx_cls {s : State} {T : State} {vm₁ : Vm} {E : String} {k : ClassId} (hW : s.WarmedH vm₁) (h : (T.setVm vm₁).vm.findClass E = some k) : s.vm.findClass E = some k := by
  have h1 : vm₁.findClass E = some k := h
  rw [hW.alike.findClass] at h1
  exact h1
/-- the method's frame g, with q thrown over it -/
def vx_W (p : Program) (l : Launch) (e : Env) (R : Room) (s : State) (m : MethodId) (args : Array Value) (below : List Frame) (meth : Method) (c : Code) (H : Heap) (locs : List Loc) (cells slots : Nat) (Q : State → Prop) (g : JFrame) (q : Addr) : Prop :=
  ∀ T : State, T.heap = H → Stand p l e R s m args below meth c T locs cells slots → ∃ t, Steps p.tables e below ((T.setTop g).pushFrame (.throwing q)) t ∧ Q t
def vx_Run (p : Program) (l : Launch) (e : Env) (R : Room) (s : State) (m : MethodId) (args : Array Value) (below : List Frame) (meth : Method) (c : Code) (H : Heap) (locs : List Loc) (cells slots mc ms : Nat) (g : JFrame) (rest : List Value) (Qa : State → Outcome → State → Prop) (XC : String → State → State → Prop) (free : Addr → Prop) : Prop :=
  ∀ T : State, T.heap = H → Stand p l e R s m args below meth c T locs cells slots →
    (∃ (v : Option Value) (st₀ t T' : State) (L : List Loc), st₀.heap = H ∧ Stand p l e R s m args below meth c T' (locs ++ L) (cells + mc) (slots + ms) ∧ (∀ q ∈ L, free q.base) ∧ T'.heap = t.heap ∧ T'.vm = t.vm ∧ Qa st₀ (.returned v) t ∧
      Goes p e below T g T' { g with pc := g.pc + 3, stack := v.toList ++ rest }) ∨
    (∃ (q : Addr) (st₀ t T' : State) (L : List Loc) (E : String) (ce : Cell), st₀.heap = H ∧ Stand p l e R s m args below meth c T' (locs ++ L) (cells + mc) (slots + ms) ∧ (∀ z ∈ L, free z.base) ∧ T'.heap = t.heap ∧ T'.vm = t.vm ∧ XC E st₀ t ∧ t.heap[q]? = some ce ∧ ce.vm = .none ∧ s.vm.findClass E = some ce.cls ∧
      Steps p.tables e below (T.setTop g) ((T'.setTop { g with stack := rest }).pushFrame (.throwing q)))
def vx_X {S : Type} (px : S → Prop) (B : String → S → State → Prop) (A : Nat → Prop) : String → State → State → Prop := fun E st t => ∃ u : S, px u ∧ B E u t ∧ va_F A st t
section Runs
variable {p : Program} {l : Launch} {e : Env} {R : Room} {s : State} {m : MethodId} {args : Array Value} {below : List Frame} {meth : Method} {c : Code} {H : Heap} {locs : List Loc} {cells slots : Nat}
variable {y : MethodName} {bytes cc : ByteArray} {maxL nL mc ms n index : Nat} {ret : Option FieldType} {ws : List Cond} {rm : Room} {Pc : Array Value → State → Prop} {Qc : Array Value → State → Outcome → State → Prop} {XC : String → State → State → Prop} {free : Addr → Prop} {Ts : List Cond} {own C : String} {b : Addr} {As rest : List Value} {g : JFrame}
theorem vx_callBack (cb : CallB R s args own index y bytes maxL ret ws rm mc ms n) (hM : vx_Met l y ws rm Pc Qc XC mc ms free) (hbl : FrameBlind Pc) : vx_Back l R p e below s args y 3 8 (PreOf R mc ms Pc) (PostOf Qc mc ms free) (vx_Post XC mc ms free) := by
  obtain ⟨hrc, hrs, hfr, hlo, hws, hcw, -, hini, -⟩ := cb
  exact vx_back (bytes := bytes) (maxL := maxL) (ret := ret) hM hbl hrc hrs hfr hlo hws hcw (fun a' U hW => word_at hW (Or.inl (by first | rfl | simp [Cond.onTables, Cond.keeps, Cond.steady])) hini)
theorem vx_runV (S : CallFix p m c cc nL s args Ts own) (hM : vx_Met l y ws rm Pc Qc XC mc ms free) (cw : CallW R s args own C index y bytes maxL ret ws rm mc ms n) (hp : PreV s H C b Pc As)
    (hg : g.method = m) (hn : As.length = n) (hsize : g.locals.size = nL) (hstack : g.stack = As.reverse ++ .ref b :: rest) (hW : 2 * g.monitorRoom + (rest.map fun v => v.category).sum ≤ 8) (hdg : decode cc g.pc = .ok (.invokevirtual index, 3)) (hf : cells + mc ≤ R.cells ∧ slots + ms ≤ R.slots) :
    vx_Run p l e R s m args below meth c H locs cells slots mc ms g rest (Qc (Value.ref b :: As).toArray) XC free := by
  have hK : vx_Back l R p e below s args y 3 8 (PreOf R mc ms Pc) (PostOf Qc mc ms free) (vx_Post XC mc ms free) := vx_callBack cw.1 hM hp.1
  obtain ⟨⟨-, -, -, -, -, -, hcode, -, hy, hlen, hl⟩, hin, hse⟩ := cw
  obtain ⟨hx, hb, hml, ho, -⟩ := S
  obtain ⟨-, ⟨cellB, hcB, hoB, hclB⟩, hPc⟩ := hp
  intro T hT X
  rcases vx_callV X hx (C := C) (bytes := bytes) (maxL := maxL) (ret := ret) ho hl hin hse hcode hy hK (by rw [hT]; exact hcB) hoB hclB hg (hsize.trans hml.symm) (argsL := As) (rest := rest) (fun sig h => hn.trans (hlen sig h)) hstack hW (by rw [hb]; exact hdg)
    (fun vm₁ hW₁ => ⟨hf.1, hf.2, hPc (T.setVm vm₁) hT hW₁⟩) with ⟨v, vm₁, ⟨U', l2, c2, s2⟩, hW₁, X', ⟨g', mk, t, L, e1, e2, hq, h1, hL, h2, h3⟩, st⟩ | ⟨q, vm₁, ⟨U', l2, c2, s2⟩, hW₁, X', ⟨g', mk, t, L, E, ce, e1, e2, hq, hce, hcv, hcl, h1, hL, h2, h3⟩, st⟩
  · dsimp only [Pt.U, Pt.locs, Pt.cells, Pt.slots] at X' e1 e2 h1 h2 h3 st
    subst h1; subst h2; subst h3
    exact Or.inl ⟨v, (T.setVm vm₁).calling g' mk (Value.ref b :: As).toArray, t, U', L, hT, X', hL, e1, e2, hq, st⟩
  · dsimp only [Pt.U, Pt.locs, Pt.cells, Pt.slots] at X' e1 e2 h1 h2 h3 st hcl
    subst h1; subst h2; subst h3
    exact Or.inr ⟨q, (T.setVm vm₁).calling g' mk (Value.ref b :: As).toArray, t, U', L, E, ce, hT, X', hL, e1, e2, hq, hce, hcv, vx_cls hW₁ hcl, st⟩
theorem vx_runS (S : CallFix p m c cc nL s args Ts own) (hM : vx_Met l y ws rm Pc Qc XC mc ms free) (cw : CallB R s args own index y bytes maxL ret ws rm mc ms n ∧ (Cond.static y).before args s = true) (hp : PreS s H Pc As)
    (hg : g.method = m) (hn : As.length = n) (hsize : g.locals.size = nL) (hstack : g.stack = As.reverse ++ rest) (hW : 2 * g.monitorRoom + (rest.map fun v => v.category).sum ≤ 8) (hdg : decode cc g.pc = .ok (.invokestatic index, 3)) (hf : cells + mc ≤ R.cells ∧ slots + ms ≤ R.slots) :
    vx_Run p l e R s m args below meth c H locs cells slots mc ms g rest (Qc As.toArray) XC free := by
  have hK : vx_Back l R p e below s args y 3 8 (PreOf R mc ms Pc) (PostOf Qc mc ms free) (vx_Post XC mc ms free) := vx_callBack cw.1 hM hp.1
  obtain ⟨⟨-, -, -, -, -, -, hcode, hini, hy, hlen, hl⟩, hstt⟩ := cw
  obtain ⟨hx, hb, hml, ho, -⟩ := S
  intro T hT X
  rcases vx_callS X hx (bytes := bytes) (maxL := maxL) (ret := ret) ho hl hstt hini hcode hy hK hg (hsize.trans hml.symm) (argsL := As) (rest := rest) (fun sig h => hn.trans (hlen sig h)) hstack hW (by rw [hb]; exact hdg)
    (fun vm₁ hW₁ => ⟨hf.1, hf.2, hp.2 (T.setVm vm₁) hT hW₁⟩) with ⟨v, vm₁, ⟨U', l2, c2, s2⟩, hW₁, X', ⟨g', mk, t, L, e1, e2, hq, h1, hL, h2, h3⟩, st⟩ | ⟨q, vm₁, ⟨U', l2, c2, s2⟩, hW₁, X', ⟨g', mk, t, L, E, ce, e1, e2, hq, hce, hcv, hcl, h1, hL, h2, h3⟩, st⟩
  · dsimp only [Pt.U, Pt.locs, Pt.cells, Pt.slots] at X' e1 e2 h1 h2 h3 st
    subst h1; subst h2; subst h3
    exact Or.inl ⟨v, (T.setVm vm₁).calling g' mk As.toArray, t, U', L, hT, X', hL, e1, e2, hq, st⟩
  · dsimp only [Pt.U, Pt.locs, Pt.cells, Pt.slots] at X' e1 e2 h1 h2 h3 st hcl
    subst h1; subst h2; subst h3
    exact Or.inr ⟨q, (T.setVm vm₁).calling g' mk As.toArray, t, U', L, E, ce, hT, X', hL, e1, e2, hq, hce, hcv, vx_cls hW₁ hcl, st⟩
end Runs
section Rows
variable {p : Program} {l : Launch} {e : Env} {R : Room} {s : State} {m : MethodId} {args : Array Value} {below : List Frame} {meth : Method} {c : Code} {H : Heap} {locs : List Loc} {cells slots : Nat} {Q : State → Prop}
variable {mc ms : Nat} {free : Addr → Prop} {A0 A1 : Nat → Prop} {H0 : Heap} {a : Array Value} {pc : Nat} {ls : Array Slot} {st0 rest : List Value}
theorem vx_keep {st₀ t T' : State} {L : List Loc} (h0 : st₀.heap = H) (e1 : T'.heap = t.heap) (hS : va_S A0 H0 H locs) (hA : ∀ q, q < H.size → A1 q → A0 q) (hf : ∀ q, free q → A0 q) (hL : ∀ q ∈ L, free q.base) (hF : va_F A1 st₀ t) :
    H.size ≤ T'.heap.size ∧ (∀ q : Nat, q < H.size → ¬ A1 q → T'.heap[q]? = H[q]?) ∧ va_S A0 H0 T'.heap (locs ++ L) := by
  obtain ⟨hz, hk⟩ := hF
  rw [h0] at hz hk
  exact ⟨by rw [e1]; exact hz, fun q h1 h2 => by rw [e1]; exact hk q h1 h2,
    ⟨Nat.le_trans hS.1 (by rw [e1]; exact hz), fun q h1 h2 => by rw [e1, hk q (Nat.lt_of_lt_of_le h1 hS.1) (fun z => h2 (hA q (Nat.lt_of_lt_of_le h1 hS.1) z))]; exact hS.2.1 q h1 h2, fun q hq => by
      rcases List.mem_append.mp hq with h | h
      · exact hS.2.2 q h
      · exact hf _ (hL q h)⟩⟩
theorem vx_calli {S SX : Type} {post : Int32 → S → Prop} {px : SX → Prop} {B : S → State → Prop} {BX : String → SX → State → Prop} {AX : Nat → Prop} (hr : vx_Run p l e R s m args below meth c H locs cells slots mc ms (F0 m pc ls st0) rest (va_Qi post B A1 a) (vx_X px BX AX) free) (hS : va_S A0 H0 H locs) (hA : ∀ q, q < H.size → A1 q → A0 q) (hf : ∀ q, free q → A0 q) (hAX : ∀ q, q < H.size → AX q → A0 q)
    (kx : ∀ (E : String) (ce : Cell) (q9 : Addr) (u : SX) (t : State) (H1 : Heap) (locs1 : List Loc), t.heap = H1 → s.vm.Alike t.vm → px u → BX E u t → H.size ≤ H1.size → (∀ q : Nat, q < H.size → ¬ AX q → H1[q]? = H[q]?) → va_S A0 H0 H1 locs1 → H1[q9]? = some ce → ce.vm = .none → s.vm.findClass E = some ce.cls → vx_W p l e R s m args below meth c H1 locs1 (cells + mc) (slots + ms) Q (F0 m pc ls rest) q9)
    (kk : ∀ (r : Int32) (u : S) (t : State) (H1 : Heap) (locs1 : List Loc), t.heap = H1 → s.vm.Alike t.vm → post r u → B u t → H.size ≤ H1.size → (∀ q : Nat, q < H.size → ¬ A1 q → H1[q]? = H[q]?) → va_S A0 H0 H1 locs1 → W p l e R s m args below meth c H1 locs1 (cells + mc) (slots + ms) Q (F0 m (pc + 3) ls (.int r :: rest))) : W p l e R s m args below meth c H locs cells slots Q (F0 m pc ls st0) := by
  intro T hT X
  rcases hr T hT X with ⟨v, st₀, t, T', L, h0, X', hL, e1, e2, ⟨⟨r, u, hv, hp, hb⟩, hF⟩, st⟩ | ⟨q, st₀, t, T', L, E, ce, h0, X', hL, e1, e2, ⟨u, hp, hb, hF⟩, hce, hcv, hcl, st⟩
  · cases hv
    obtain ⟨k1, k2, k3⟩ := vx_keep h0 e1 hS hA hf hL hF
    obtain ⟨t2, a1, b1⟩ := kk r u t T'.heap (locs ++ L) e1.symm (by rw [← e2]; exact X'.warmed.alike) hp hb k1 k2 k3 T' rfl X'
    exact ⟨t2, st t2 a1, b1⟩
  · obtain ⟨k1, k2, k3⟩ := vx_keep h0 e1 hS hAX hf hL hF
    obtain ⟨t2, a1, b1⟩ := kx E ce q u t T'.heap (locs ++ L) e1.symm (by rw [← e2]; exact X'.warmed.alike) hp hb k1 k2 k3 (by rw [e1]; exact hce) hcv hcl T' rfl X'
    exact ⟨t2, st.trans a1, b1⟩
theorem vx_calll {S SX : Type} {post : Int64 → S → Prop} {px : SX → Prop} {B : S → State → Prop} {BX : String → SX → State → Prop} {AX : Nat → Prop} (hr : vx_Run p l e R s m args below meth c H locs cells slots mc ms (F0 m pc ls st0) rest (va_Ql post B A1 a) (vx_X px BX AX) free) (hS : va_S A0 H0 H locs) (hA : ∀ q, q < H.size → A1 q → A0 q) (hf : ∀ q, free q → A0 q) (hAX : ∀ q, q < H.size → AX q → A0 q)
    (kx : ∀ (E : String) (ce : Cell) (q9 : Addr) (u : SX) (t : State) (H1 : Heap) (locs1 : List Loc), t.heap = H1 → s.vm.Alike t.vm → px u → BX E u t → H.size ≤ H1.size → (∀ q : Nat, q < H.size → ¬ AX q → H1[q]? = H[q]?) → va_S A0 H0 H1 locs1 → H1[q9]? = some ce → ce.vm = .none → s.vm.findClass E = some ce.cls → vx_W p l e R s m args below meth c H1 locs1 (cells + mc) (slots + ms) Q (F0 m pc ls rest) q9)
    (kk : ∀ (r : Int64) (u : S) (t : State) (H1 : Heap) (locs1 : List Loc), t.heap = H1 → s.vm.Alike t.vm → post r u → B u t → H.size ≤ H1.size → (∀ q : Nat, q < H.size → ¬ A1 q → H1[q]? = H[q]?) → va_S A0 H0 H1 locs1 → W p l e R s m args below meth c H1 locs1 (cells + mc) (slots + ms) Q (F0 m (pc + 3) ls (.long r :: rest))) : W p l e R s m args below meth c H locs cells slots Q (F0 m pc ls st0) := by
  intro T hT X
  rcases hr T hT X with ⟨v, st₀, t, T', L, h0, X', hL, e1, e2, ⟨⟨r, u, hv, hp, hb⟩, hF⟩, st⟩ | ⟨q, st₀, t, T', L, E, ce, h0, X', hL, e1, e2, ⟨u, hp, hb, hF⟩, hce, hcv, hcl, st⟩
  · cases hv
    obtain ⟨k1, k2, k3⟩ := vx_keep h0 e1 hS hA hf hL hF
    obtain ⟨t2, a1, b1⟩ := kk r u t T'.heap (locs ++ L) e1.symm (by rw [← e2]; exact X'.warmed.alike) hp hb k1 k2 k3 T' rfl X'
    exact ⟨t2, st t2 a1, b1⟩
  · obtain ⟨k1, k2, k3⟩ := vx_keep h0 e1 hS hAX hf hL hF
    obtain ⟨t2, a1, b1⟩ := kx E ce q u t T'.heap (locs ++ L) e1.symm (by rw [← e2]; exact X'.warmed.alike) hp hb k1 k2 k3 (by rw [e1]; exact hce) hcv hcl T' rfl X'
    exact ⟨t2, st.trans a1, b1⟩
theorem vx_callf {S SX : Type} {post : UInt32 → S → Prop} {px : SX → Prop} {B : S → State → Prop} {BX : String → SX → State → Prop} {AX : Nat → Prop} (hr : vx_Run p l e R s m args below meth c H locs cells slots mc ms (F0 m pc ls st0) rest (va_Qf post B A1 a) (vx_X px BX AX) free) (hS : va_S A0 H0 H locs) (hA : ∀ q, q < H.size → A1 q → A0 q) (hf : ∀ q, free q → A0 q) (hAX : ∀ q, q < H.size → AX q → A0 q)
    (kx : ∀ (E : String) (ce : Cell) (q9 : Addr) (u : SX) (t : State) (H1 : Heap) (locs1 : List Loc), t.heap = H1 → s.vm.Alike t.vm → px u → BX E u t → H.size ≤ H1.size → (∀ q : Nat, q < H.size → ¬ AX q → H1[q]? = H[q]?) → va_S A0 H0 H1 locs1 → H1[q9]? = some ce → ce.vm = .none → s.vm.findClass E = some ce.cls → vx_W p l e R s m args below meth c H1 locs1 (cells + mc) (slots + ms) Q (F0 m pc ls rest) q9)
    (kk : ∀ (r : UInt32) (u : S) (t : State) (H1 : Heap) (locs1 : List Loc), t.heap = H1 → s.vm.Alike t.vm → post r u → B u t → H.size ≤ H1.size → (∀ q : Nat, q < H.size → ¬ A1 q → H1[q]? = H[q]?) → va_S A0 H0 H1 locs1 → W p l e R s m args below meth c H1 locs1 (cells + mc) (slots + ms) Q (F0 m (pc + 3) ls (.float r :: rest))) : W p l e R s m args below meth c H locs cells slots Q (F0 m pc ls st0) := by
  intro T hT X
  rcases hr T hT X with ⟨v, st₀, t, T', L, h0, X', hL, e1, e2, ⟨⟨r, u, hv, hp, hb⟩, hF⟩, st⟩ | ⟨q, st₀, t, T', L, E, ce, h0, X', hL, e1, e2, ⟨u, hp, hb, hF⟩, hce, hcv, hcl, st⟩
  · cases hv
    obtain ⟨k1, k2, k3⟩ := vx_keep h0 e1 hS hA hf hL hF
    obtain ⟨t2, a1, b1⟩ := kk r u t T'.heap (locs ++ L) e1.symm (by rw [← e2]; exact X'.warmed.alike) hp hb k1 k2 k3 T' rfl X'
    exact ⟨t2, st t2 a1, b1⟩
  · obtain ⟨k1, k2, k3⟩ := vx_keep h0 e1 hS hAX hf hL hF
    obtain ⟨t2, a1, b1⟩ := kx E ce q u t T'.heap (locs ++ L) e1.symm (by rw [← e2]; exact X'.warmed.alike) hp hb k1 k2 k3 (by rw [e1]; exact hce) hcv hcl T' rfl X'
    exact ⟨t2, st.trans a1, b1⟩
theorem vx_calld {S SX : Type} {post : UInt64 → S → Prop} {px : SX → Prop} {B : S → State → Prop} {BX : String → SX → State → Prop} {AX : Nat → Prop} (hr : vx_Run p l e R s m args below meth c H locs cells slots mc ms (F0 m pc ls st0) rest (va_Qd post B A1 a) (vx_X px BX AX) free) (hS : va_S A0 H0 H locs) (hA : ∀ q, q < H.size → A1 q → A0 q) (hf : ∀ q, free q → A0 q) (hAX : ∀ q, q < H.size → AX q → A0 q)
    (kx : ∀ (E : String) (ce : Cell) (q9 : Addr) (u : SX) (t : State) (H1 : Heap) (locs1 : List Loc), t.heap = H1 → s.vm.Alike t.vm → px u → BX E u t → H.size ≤ H1.size → (∀ q : Nat, q < H.size → ¬ AX q → H1[q]? = H[q]?) → va_S A0 H0 H1 locs1 → H1[q9]? = some ce → ce.vm = .none → s.vm.findClass E = some ce.cls → vx_W p l e R s m args below meth c H1 locs1 (cells + mc) (slots + ms) Q (F0 m pc ls rest) q9)
    (kk : ∀ (r : UInt64) (u : S) (t : State) (H1 : Heap) (locs1 : List Loc), t.heap = H1 → s.vm.Alike t.vm → post r u → B u t → H.size ≤ H1.size → (∀ q : Nat, q < H.size → ¬ A1 q → H1[q]? = H[q]?) → va_S A0 H0 H1 locs1 → W p l e R s m args below meth c H1 locs1 (cells + mc) (slots + ms) Q (F0 m (pc + 3) ls (.double r :: rest))) : W p l e R s m args below meth c H locs cells slots Q (F0 m pc ls st0) := by
  intro T hT X
  rcases hr T hT X with ⟨v, st₀, t, T', L, h0, X', hL, e1, e2, ⟨⟨r, u, hv, hp, hb⟩, hF⟩, st⟩ | ⟨q, st₀, t, T', L, E, ce, h0, X', hL, e1, e2, ⟨u, hp, hb, hF⟩, hce, hcv, hcl, st⟩
  · cases hv
    obtain ⟨k1, k2, k3⟩ := vx_keep h0 e1 hS hA hf hL hF
    obtain ⟨t2, a1, b1⟩ := kk r u t T'.heap (locs ++ L) e1.symm (by rw [← e2]; exact X'.warmed.alike) hp hb k1 k2 k3 T' rfl X'
    exact ⟨t2, st t2 a1, b1⟩
  · obtain ⟨k1, k2, k3⟩ := vx_keep h0 e1 hS hAX hf hL hF
    obtain ⟨t2, a1, b1⟩ := kx E ce q u t T'.heap (locs ++ L) e1.symm (by rw [← e2]; exact X'.warmed.alike) hp hb k1 k2 k3 (by rw [e1]; exact hce) hcv hcl T' rfl X'
    exact ⟨t2, st.trans a1, b1⟩
theorem vx_callv {S SX : Type} {post : S → Prop} {px : SX → Prop} {B : S → State → Prop} {BX : String → SX → State → Prop} {AX : Nat → Prop} (hr : vx_Run p l e R s m args below meth c H locs cells slots mc ms (F0 m pc ls st0) rest (va_Qv post B A1 a) (vx_X px BX AX) free) (hS : va_S A0 H0 H locs) (hA : ∀ q, q < H.size → A1 q → A0 q) (hf : ∀ q, free q → A0 q) (hAX : ∀ q, q < H.size → AX q → A0 q)
    (kx : ∀ (E : String) (ce : Cell) (q9 : Addr) (u : SX) (t : State) (H1 : Heap) (locs1 : List Loc), t.heap = H1 → s.vm.Alike t.vm → px u → BX E u t → H.size ≤ H1.size → (∀ q : Nat, q < H.size → ¬ AX q → H1[q]? = H[q]?) → va_S A0 H0 H1 locs1 → H1[q9]? = some ce → ce.vm = .none → s.vm.findClass E = some ce.cls → vx_W p l e R s m args below meth c H1 locs1 (cells + mc) (slots + ms) Q (F0 m pc ls rest) q9)
    (kk : ∀ (u : S) (t : State) (H1 : Heap) (locs1 : List Loc), t.heap = H1 → s.vm.Alike t.vm → post u → B u t → H.size ≤ H1.size → (∀ q : Nat, q < H.size → ¬ A1 q → H1[q]? = H[q]?) → va_S A0 H0 H1 locs1 → W p l e R s m args below meth c H1 locs1 (cells + mc) (slots + ms) Q (F0 m (pc + 3) ls (rest))) : W p l e R s m args below meth c H locs cells slots Q (F0 m pc ls st0) := by
  intro T hT X
  rcases hr T hT X with ⟨v, st₀, t, T', L, h0, X', hL, e1, e2, ⟨⟨u, hv, hp, hb⟩, hF⟩, st⟩ | ⟨q, st₀, t, T', L, E, ce, h0, X', hL, e1, e2, ⟨u, hp, hb, hF⟩, hce, hcv, hcl, st⟩
  · cases hv
    obtain ⟨k1, k2, k3⟩ := vx_keep h0 e1 hS hA hf hL hF
    obtain ⟨t2, a1, b1⟩ := kk u t T'.heap (locs ++ L) e1.symm (by rw [← e2]; exact X'.warmed.alike) hp hb k1 k2 k3 T' rfl X'
    exact ⟨t2, st t2 a1, b1⟩
  · obtain ⟨k1, k2, k3⟩ := vx_keep h0 e1 hS hAX hf hL hF
    obtain ⟨t2, a1, b1⟩ := kx E ce q u t T'.heap (locs ++ L) e1.symm (by rw [← e2]; exact X'.warmed.alike) hp hb k1 k2 k3 (by rw [e1]; exact hce) hcv hcl T' rfl X'
    exact ⟨t2, st.trans a1, b1⟩
/-- caught by the row x of this method's table; the rows ahead don't take it -/
theorem vx_catch {own name : String} {E : String} {ce : Cell} {q : Addr} (hown : s.vm.findClass own = some m.cls) (pre : List ExceptionTableEntry) (x : ExceptionTableEntry) (suf : List ExceptionTableEntry) (hsplit : c.exceptionTable.toList = pre ++ x :: suf)
    (hpass : ∀ z ∈ pre, covers z pc = false ∨ (z.catchType ≠ 0 ∧ ∃ nm : String, (Cond.classLink own z.catchType nm).before args s = true ∧ va_Nc E nm s)) (hx : covers x pc = true) (h0 : x.catchType ≠ 0)
    (hlink : (Cond.classLink own x.catchType name).before args s = true) (hcast : (Cond.castable E name).before args s = true) (hcell : H[q]? = some ce) (hv : ce.vm = .none) (hcl : s.vm.findClass E = some ce.cls)
    (kk : W p l e R s m args below meth c H locs cells slots Q (F0 m x.handlerPc ls [.ref q])) : vx_W p l e R s m args below meth c H locs cells slots Q (F0 m pc ls rest) q := by
  intro T hT X
  have hpl : e.platform.magicAccessors = ({} : Platform).magicAccessors := by rw [X.admits.platform]
  obtain ⟨c3, c4, hc3, hc4, hasg⟩ := Cond.castable_spec hcast
  cases Option.some.inj (hc3.symm.trans hcl)
  obtain ⟨c5, hc5, hcl5⟩ := Cond.classLink_spec hown hlink e.platform hpl
  cases Option.some.inj (hc4.symm.trans hc5)
  obtain ⟨vm', X', st⟩ := X.thenCaughtThrough q (g := F0 m pc ls rest) rfl (Steps.refl _) (by rw [hT]; exact hcell) (by rw [hv]; rfl) (by obtain ⟨k9, h9, -⟩ := Vm.findClass_spec hcl; exact ⟨k9, h9⟩) pre x suf hsplit
    (fun z hz => by
      rcases hpass z hz with h | ⟨hz0, nm, hl1, hn1⟩
      · exact Or.inl h
      · obtain ⟨c6, hc6, hcl6⟩ := Cond.classLink_spec hown hl1 e.platform hpl
        obtain ⟨a8, b8, h1, h2, h3⟩ := hn1
        cases Option.some.inj (h1.symm.trans hcl)
        cases Option.some.inj (h2.symm.trans hc6)
        exact Or.inr ⟨hz0, _, hcl6, h3⟩) hx (Or.inr ⟨h0, c4, hcl5, hasg⟩)
  obtain ⟨t, a1, b1⟩ := kk (T.setVm vm') hT X'
  exact ⟨t, st.trans a1, b1⟩
end Rows
section Ends
variable {p : Program} {l : Launch} {e : Env} {R : Room} {s : State} {m : MethodId} {args : Array Value} {below : List Frame} {meth : Method} {c : Code} {H : Heap} {locs : List Loc} {cells slots : Nat} {Q : State → Prop}
variable {mc ms : Nat} {free : Addr → Prop} {A0 A1 : Nat → Prop} {H0 : Heap} {a : Array Value} {ls : Array Slot} {st0 rest : List Value}
variable {Qc : Array Value → State → Outcome → State → Prop} {XC : String → State → State → Prop}
/-- what a body that may throw owes at its end -/
def vx_MQ (below : List Frame) (Qc : Array Value → State → Outcome → State → Prop) (XC : String → State → State → Prop) (a : Array Value) (s : State) (mc ms : Nat) (free : Addr → Prop) : State → Prop := fun t =>
  ∃ o, t.status = .running ∧ Ended t below o ∧ vx_Q Qc XC mc ms free a s o t
theorem vx_ret {g : JFrame} {mc ms : Nat} (k : W p l e R s m args below meth c H locs cells slots (MQ below Qc args s mc ms free) g) : W p l e R s m args below meth c H locs cells slots (vx_MQ below Qc XC args s mc ms free) g := by
  intro T hT X
  obtain ⟨t, a1, o, b1, b2, b3, b4⟩ := k T hT X
  exact ⟨t, a1, o, b1, b2, Or.inl ⟨b3, b4⟩⟩
/-- not caught here: it goes on to the caller -/
theorem vx_widen {g : JFrame} {q : Addr} {k n : Nat} (h1 : cells ≤ k) (h2 : slots ≤ n) (kk : vx_W p l e R s m args below meth c H locs k n Q g q) : vx_W p l e R s m args below meth c H locs cells slots Q g q := fun T hT X => kk T hT (stand_widen X h1 h2)
theorem vx_out {pc : Nat} {E : String} {ce : Cell} {q : Addr} {mc ms : Nat} (hout : ∀ x ∈ c.exceptionTable.toList, covers x pc = false) (hlocks : meth.locks = false) (hcell : H[q]? = some ce) (hv : ce.vm = .none) (hcl : s.vm.findClass E = some ce.cls)
    (hx : ∀ t : State, t.heap = H → s.vm.Alike t.vm → XC E s t) (hf : ∀ z ∈ locs, free z.base) (hc : cells ≤ mc) (hs : slots ≤ ms) :
    vx_W p l e R s m args below meth c H locs cells slots (vx_MQ below Qc XC args s mc ms free) (F0 m pc ls rest) q := by
  intro T hT X
  obtain ⟨st1, hrun, hend, hW, hsm⟩ := X.leaveThrown q (g := F0 m pc ls rest) rfl rfl rfl hout hlocks
  have hcell9 : (T.setFrames (.throwing q :: below)).heap[q]? = some ce := by
    show T.heap[q]? = some ce
    rw [hT]; exact hcell
  exact ⟨_, st1, .threw q, hrun, hend, Or.inr ⟨q, rfl, E, ce, locs, hx _ hT hW.alike, hcell9, hv, hcl, hW, hsm.mono hc hs, hf⟩⟩
theorem vx_frame {U : State} {k n : Nat} (h : s.sameButNew ({ U with vm := s.vm } : State) locs k n) : s.heap.size ≤ U.heap.size ∧ ∀ q : Nat, q < s.heap.size → (∀ z ∈ locs, z.base ≠ q) → U.heap[q]? = s.heap[q]? := by
  obtain ⟨-, h2, -, -, -, h6⟩ := h
  refine ⟨h2, fun q hq hz => ?_⟩
  obtain ⟨c9, e1, e2, e3, e4⟩ := h6 q _ (Array.getElem?_eq_getElem hq)
  have hs : c9.slots = (s.heap[q]).slots := Array.ext_getElem? fun i => e4 i fun hm => hz _ hm rfl
  have h9 : c9 = s.heap[q] := by
    rw [hs] at e2
    exact e2
  have e5 : U.heap[q]? = some c9 := e1
  rw [e5, h9, Array.getElem?_eq_getElem hq]
/-- the words of a throw but the four that speak of the heap -/
def vx_no (w : Cond) : Bool := decide (w ≠ .isRef (.static Bundle.tN "UNASSIGNED_STACK" Bundle.steD)) && decide (w ≠ .isRef (.static Bundle.tN "SUPPRESSED_SENTINEL" Bundle.listD)) && decide (w ≠ .laysStatic Bundle.tN "UNASSIGNED_STACK" Bundle.steD) && decide (w ≠ .laysStatic Bundle.tN "SUPPRESSED_SENTINEL" Bundle.listD)
def vx_at0 (own : String) (ic : Nat) (X : String) (names : List String) : List Cond := (Bundle.ownAtoms0 own ic X names).filter vx_no
def vx_atS (own : String) (ic : Nat) (X : String) (names : List String) : List Cond := (Bundle.ownAtoms own ic X names).filter vx_no
/-- a word that the tables alone decide, or a good one -/
def vx_ot (w : Cond) : Bool := w.onTables || goodWord w
theorem vx_ot_at {args a' : Array Value} {s U : State} {w : Cond} (hW : s.WarmedH U.vm) (hvm : s.vm = U.vm) (hg : vx_ot w = true) (h : w.before args s = true) : w.before a' U = true := by
  simp only [vx_ot, Bool.or_eq_true] at hg
  rcases hg with hg | hg
  · exact va_tabs hg hvm h
  · exact word_at hW (good_of_word hg) h
/-- a list's words: the good ones out of the method's own list, the others by premises of their own -/
theorem vx_hat {args : Array Value} {s : State} {L B : List Cond} (h1 : ∀ w ∈ L.filter goodWord, w.before args s = true) (h2 : ∀ w ∈ L.filter (fun w => !goodWord w), w ∈ B) (h3 : ∀ w ∈ B, w.before args s = true) : ∀ w ∈ L, w.before args s = true := by
  intro w hw
  by_cases g : goodWord w = true
  · exact h1 w (List.mem_filter.mpr ⟨hw, g⟩)
  · refine h3 w (h2 w (List.mem_filter.mpr ⟨hw, ?_⟩))
    show (!goodWord w) = true
    cases hgw : goodWord w
    · rfl
    · exact absurd hgw g
theorem vx_c {args : Array Value} {s : State} {w : Cond} {B : List Cond} (h : w.before args s = true) (t : ∀ w ∈ B, w.before args s = true) : ∀ w' ∈ w :: B, w'.before args s = true := fun w' h' => (List.mem_cons.mp h').elim (fun e => by rw [e]; exact h) (t w')
theorem vx_n {args : Array Value} {s : State} : ∀ w ∈ ([] : List Cond), w.before args s = true := fun _ h => nomatch h
theorem vx_own {args : Array Value} {s : State} {L : List Cond} (h1 : ∀ w ∈ L.filter vx_no, w.before args s = true)
    (hU : (Cond.isRef (.static Bundle.tN "UNASSIGNED_STACK" Bundle.steD)).before args s = true) (hN : (Cond.isRef (.static Bundle.tN "SUPPRESSED_SENTINEL" Bundle.listD)).before args s = true)
    (lU : (Cond.laysStatic Bundle.tN "UNASSIGNED_STACK" Bundle.steD).before args s = true) (lN : (Cond.laysStatic Bundle.tN "SUPPRESSED_SENTINEL" Bundle.listD).before args s = true) : ∀ w ∈ L, w.before args s = true := by
  intro w hw
  by_cases e1 : w = .isRef (.static Bundle.tN "UNASSIGNED_STACK" Bundle.steD)
  · rw [e1]; exact hU
  · by_cases e2 : w = .isRef (.static Bundle.tN "SUPPRESSED_SENTINEL" Bundle.listD)
    · rw [e2]; exact hN
    · by_cases e3 : w = .laysStatic Bundle.tN "UNASSIGNED_STACK" Bundle.steD
      · rw [e3]; exact lU
      · by_cases e4 : w = .laysStatic Bundle.tN "SUPPRESSED_SENTINEL" Bundle.listD
        · rw [e4]; exact lN
        · exact h1 w (List.mem_filter.mpr ⟨hw, by unfold vx_no; rw [decide_eq_true e1, decide_eq_true e2, decide_eq_true e3, decide_eq_true e4]; rfl⟩)
/-- where a static field lies, its class's statics cell in H -/
def vx_L (C n d : String) (A : Nat → Prop) (U : State) (H : Heap) : Prop := ∃ (c : ClassId) (k : Class) (i : Nat) (f : Field) (a : Nat) (cell : Cell), U.vm.findClass C = some c ∧ U.fieldFound? C n d = some (c, k, i, f) ∧ f.isStatic = true ∧ k.statics = some a ∧ H[a]? = some cell ∧ cell.vm.isStatics = true ∧ cell.cls = c ∧ f.slot < cell.slots.size ∧ k.staticTypes[f.slot]? = some f.type ∧ ¬ A a
theorem vx_L.moved {C n d : String} {A : Nat → Prop} {u U : State} {H : Heap} (hvm : u.vm.Alike U.vm) (h : vx_L C n d A u H) : vx_L C n d A U H := by
  obtain ⟨c, k, i, f, a, cell, h1, h2, h3, h4, h5, h6, h7, h8, h9, h10⟩ := h
  obtain ⟨k', hi', he⟩ := State.fieldFound?_setVm hvm h2
  exact ⟨c, k', i, f, a, cell, by rw [hvm.findClass]; exact h1, hi', h3, by rw [he]; exact h4, h5, h6, h7, h8, by rw [he]; exact h9, h10⟩
theorem vx_L.kept {C n d : String} {A : Nat → Prop} {U : State} {H H1 : Heap} (h : vx_L C n d A U H) (hq : ∀ a : Nat, a < H.size → ¬ A a → H1[a]? = H[a]?) : vx_L C n d A U H1 := by
  obtain ⟨c, k, i, f, a, cell, h1, h2, h3, h4, h5, h6, h7, h8, h9, h10⟩ := h
  exact ⟨c, k, i, f, a, cell, h1, h2, h3, h4, by rw [hq a (Array.getElem?_eq_some_iff.mp h5).1 h10]; exact h5, h6, h7, h8, h9, h10⟩
theorem vx_L.narrow {C n d : String} {A B : Nat → Prop} {U : State} {H : Heap} (h : vx_L C n d A U H) (hAB : ∀ q, B q → A q) : vx_L C n d B U H := by
  obtain ⟨c, k, i, f, a, cell, h1, h2, h3, h4, h5, h6, h7, h8, h9, h10⟩ := h
  exact ⟨c, k, i, f, a, cell, h1, h2, h3, h4, h5, h6, h7, h8, h9, fun z => h10 (hAB _ z)⟩
theorem vx_L.word {C n d : String} {A : Nat → Prop} {s : State} {args : Array Value} (h : vx_L C n d A s s.heap) : (Cond.laysStatic C n d).before args s = true := by
  obtain ⟨c, k, i, f, a, cell, h1, h2, h3, h4, h5, h6, h7, h8, h9, -⟩ := h
  show (Cond.laysStatic C n d).holds args s none s [] = true
  exact Cond.laysStatic_of h1 h2 h3 h4 h5 h6 h7 h8 h9
/-- .. and what it holds: null or some reference -/
def vx_Zq (C n d : String) (A : Nat → Prop) (U : State) (H : Heap) : Prop := va_Zq C n d A U H ∧ vx_L C n d A U H
theorem vx_Zq.moved {C n d : String} {A : Nat → Prop} {u U : State} {H : Heap} (hvm : u.vm.Alike U.vm) (h : vx_Zq C n d A u H) : vx_Zq C n d A U H := ⟨va_Zq.moved hvm h.1, vx_L.moved hvm h.2⟩
theorem vx_Zq.kept {C n d : String} {A : Nat → Prop} {U : State} {H H1 : Heap} (h : vx_Zq C n d A U H) (hq : ∀ a : Nat, a < H.size → ¬ A a → H1[a]? = H[a]?) : vx_Zq C n d A U H1 := ⟨va_Zq.kept h.1 hq, vx_L.kept h.2 hq⟩
theorem vx_Zq.narrow {C n d : String} {A B : Nat → Prop} {U : State} {H : Heap} (h : vx_Zq C n d A U H) (hAB : ∀ q, B q → A q) : vx_Zq C n d B U H := ⟨va_Zq.narrow h.1 hAB, vx_L.narrow h.2 hAB⟩
theorem vx_Zqof {args : Array Value} {s : State} {C n d : String} {A : Nat → Prop} (hl : (Cond.laysStatic C n d).before args s = true) (hini : (Cond.initialized C).before args s = true) (h : (Cond.isRef (.static C n d)).before args s = true) (hA : ∀ a : Nat, a < s.heap.size → ¬ A a) : vx_Zq C n d A s s.heap := by
  refine ⟨va_Zqof hl hini h hA, ?_⟩
  obtain ⟨c, k, i, f, a, cell, h1, h2, h3, h4, h5, h6, h7, h8, h9⟩ := Cond.laysStatic_spec hl
  exact ⟨c, k, i, f, a, cell, h1, h2, h3, h4, h5, h6, h7, h8, h9, hA a (Array.getElem?_eq_some_iff.mp h5).1⟩
theorem vx_isRef {C n d : String} {v : Value} {A : Nat → Prop} {s : State} {args : Array Value} (h : va_Z C n d v A s s.heap) (hv : v.isRef = true) : (Cond.isRef (.static C n d)).before args s = true := by
  obtain ⟨cf, kf, fi, f, a, cell, h1, h2, h3, h4, h5, h6, h7, -⟩ := h
  have he : (Term.static C n d).eval args s none [] s = some v := by
    simp [Term.eval, State.fieldNamed?, h1, h2, h4, h5, h6, h7]
  simp only [Cond.before, Cond.holds, Cond.value, he]
  cases v <;> simp_all [Value.isRef]
theorem vx_isRefq {C n d : String} {A : Nat → Prop} {s : State} {args : Array Value} (h : va_Zq C n d A s s.heap) : (Cond.isRef (.static C n d)).before args s = true := by
  rcases h with h | ⟨t, h⟩
  · exact vx_isRef h rfl
  · exact vx_isRef h rfl
/-- the same frame, seen from here: as if the method were called anew in this heap -/
theorem vx_rebase {T : State} (X : Stand p l e R s m args below meth c T locs cells slots) {R' : Room} (hf : R'.frames ≤ R.frames) (hl : R'.locals ≤ R.locals) (hc : cells + R'.cells ≤ R.cells) (hs : slots + R'.slots ≤ R.slots) :
    Stand p l e R' ((T.setVm s.vm).setFrames (.invoking m args :: below)) m args below meth c T [] 0 0 := by
  have htop : (T.setVm s.vm).topJava?.isSome := X.here.top
  have hF : ((T.setVm s.vm).setFrames (.invoking m args :: below)).frames = .invoking m args :: below := State.frames_setFrames _ (State.cur_lt_of_top htop)
  obtain ⟨g₀, hg0⟩ := Option.isSome_iff_exists.mp htop
  obtain ⟨r, hr⟩ := State.topJava?_eq_some.mp hg0
  have hl9 : e.platform.stackLimits (T.setVm s.vm).me = e.platform.stackLimits s.me := X.limits
  have hb9 : (T.setVm s.vm).me.stackBytes = s.me.stackBytes := X.bytes
  refine ⟨X.admits, X.cas, X.clock, hF, ?_, X.hears, X.method, X.code, X.here, X.tail, X.warmed, ?_, ?_, ?_⟩
  · have h := X.room
    have hU : ((T.setVm s.vm).setFrames (.invoking m args :: below)).localsInUse = s.localsInUse := by
      rw [State.localsInUse_invoking hF (meth := meth) (c := c) X.method X.code, State.localsInUse_invoking X.frames X.method X.code]
    simp only [State.hasRoom, Bool.and_eq_true, decide_eq_true_eq] at h ⊢
    obtain ⟨⟨⟨⟨h1, h2, h3, h4, h5, h6⟩, h7⟩, h8⟩, h9⟩ := h
    rw [X.frames, List.length_cons] at h2 h3
    have q1 := X.heapSize
    have q2 := X.used
    simp only [hF, hU, List.length_cons, State.stackLimits_setFrames, State.stackBytes_setFrames, hl9, hb9]
    refine ⟨⟨⟨⟨by omega, by omega, by omega, by omega, by omega, h6⟩, ?_⟩, ?_⟩, X.book⟩
    · show T.heap.size + R'.cells ≤ e.platform.maxCells
      omega
    · show T.slotsUsed + R'.slots ≤ e.platform.maxSlots
      omega
  · rw [State.stackLimits_setFrames]; rfl
  · rw [State.stackBytes_setFrames]; rfl
  · refine ⟨?_, Nat.le_refl _, Nat.le_refl _, ?_, ?_, fun a c9 h9 => ⟨c9, h9, rfl, rfl, fun _ _ => rfl⟩⟩
    · obtain ⟨t, ht, -⟩ := State.frames_cons hr
      show T.setVm s.vm = { ((T.setVm s.vm).setFrames (.invoking m args :: below)).setFrames (T.setVm s.vm).frames with heap := T.heap, slotsUsed := T.slotsUsed }
      rw [State.setFrames_setFrames, State.setFrames_self ht]
      rfl
    · show T.slotsUsed = T.slotsUsed + ((T.heap.toList.drop T.heap.size).map (·.slots.size)).sum
      rw [List.drop_eq_nil_of_le (Nat.le_of_eq Array.length_toList)]
      rfl
    · show ((T.heap.toList.drop T.heap.size).map (·.slots.size)).sum ≤ 0
      rw [List.drop_eq_nil_of_le (Nat.le_of_eq Array.length_toList)]
      exact Nat.le_refl _
/-- 'throw new E()': new; dup; invokespecial; athrow -/
theorem vx_throw0 {cc : ByteArray} {pc : Nat} (hexec : p.tables.exec = Jvm.exec) (hb : c.code = cc) (hl : l.stackTraces = false) {own cls : String} {names : List String} {ik ic mc ms : Nat} {A : Nat → Prop}
    (hown : s.vm.findClass own = some m.cls) (hcls : Bundle.fit cls = true) (hnames : ∀ n ∈ names, Bundle.fit n = true)
    (hk : (Cond.classLink own ik cls).before args s = true) (hini : (Cond.initialized cls).before args s = true) (hat : ∀ w ∈ vx_at0 own ic cls names, w.before args s = true)
    (hgood : ∀ w ∈ Cond.classLink own ik cls :: Cond.initialized cls :: vx_at0 own ic cls names, vx_ot w = true)
    (hU : vx_Zq Bundle.tN "UNASSIGNED_STACK" Bundle.steD A s s.heap) (hN : vx_Zq Bundle.tN "SUPPRESSED_SENTINEL" Bundle.listD A s s.heap) (hS : va_S A s.heap H locs) (hsize : ls.size = c.maxLocals)
    (d0 : decode cc pc = .ok (.new ik, 3)) (d3 : decode cc (pc + 3) = .ok (.dup, 1)) (d4 : decode cc (pc + 4) = .ok (.invokespecial ic, 3)) (d7 : decode cc (pc + 7) = .ok (.athrow, 1))
    (hout : ∀ x ∈ c.exceptionTable.toList, covers x (pc + 7) = false)
    (hRframes : names.length + 3 < R.frames) (hRlocals : (rest.map fun v => v.category).sum + (13 * (names.length + 1) + 42) ≤ R.locals) (hRcells : cells + 1 ≤ R.cells) (hRslots : slots + 6 ≤ R.slots) (hlocks : meth.locks = false)
    (hx : ∀ t : State, s.vm.Alike t.vm → H.size ≤ t.heap.size → (∀ q : Nat, q < H.size → t.heap[q]? = H[q]?) → XC cls s t)
    (hf : ∀ z ∈ locs, free z.base) (hc : cells + 1 ≤ mc) (hs : slots + 6 ≤ ms) :
    W p l e R s m args below meth c H locs cells slots (vx_MQ below Qc XC args s mc ms free) (F0 m pc ls rest) := by
  intro T hT X
  have htr : e.platform.stackTraces = false := (show e.platform.stackTraces = l.stackTraces by rw [X.admits.platform]).trans hl
  have Y := vx_rebase X (R' := { frames := R.frames, locals := R.locals, cells := 1, slots := 6 }) (Nat.le_refl _) (Nat.le_refl _) hRcells hRslots
  obtain ⟨s', hA⟩ : ∃ z, z = (T.setVm s.vm).setFrames (.invoking m args :: below) := ⟨_, rfl⟩
  rw [← hA] at Y
  have hvm : s'.vm = s.vm := by rw [hA]; rfl
  have hhp : s'.heap = H := by rw [hA]; exact hT
  have hW0 : s.WarmedH s'.vm := by rw [hvm]; exact State.WarmedH.refl s
  have hat' : ∀ w ∈ vx_at0 own ic cls names, w.before args s' = true := fun w hw => vx_ot_at hW0 hvm.symm (hgood w (List.mem_cons_of_mem _ (List.mem_cons_of_mem _ hw))) (hat w hw)
  have hk' : (Cond.classLink own ik cls).before args s' = true := vx_ot_at hW0 hvm.symm (hgood _ List.mem_cons_self) hk
  have hini' : (Cond.initialized cls).before args s' = true := vx_ot_at hW0 hvm.symm (hgood _ (List.mem_cons_of_mem _ List.mem_cons_self)) hini
  have hU' : vx_Zq Bundle.tN "UNASSIGNED_STACK" Bundle.steD A s' s'.heap := by rw [hhp]; exact vx_Zq.moved hW0.alike (hU.kept hS.2.1)
  have hN' : vx_Zq Bundle.tN "SUPPRESSED_SENTINEL" Bundle.listD A s' s'.heap := by rw [hhp]; exact vx_Zq.moved hW0.alike (hN.kept hS.2.1)
  have h : ∀ w ∈ Bundle.ownAtoms0 own ic cls names, w.before args s' = true := vx_own hat' (vx_isRefq hU'.1) (vx_isRefq hN'.1) hU'.2.word hN'.2.word
  have hown' : s'.vm.findClass own = some m.cls := by rw [hvm]; exact hown
  have hins : (Cond.instantiable cls 6).before args s' = true := h _ (by simp [Bundle.ownAtoms0])
  obtain ⟨vm₁, cX, kX, hfX, hkX, -, -, X₁, st1⟩ := Y.newCold hexec (own := own) (C := cls) (index := ik) (n := 6) hown' hk' hins hini'
    (g := F0 m pc ls rest) rfl (by rw [hb]; exact d0) (Nat.le_refl _) (Nat.le_refl _)
  generalize hT1 : (T.setVm vm₁).pushCell { cls := cX, slots := kX.instanceTypes.map defaultValue, vm := .none } = T1 at X₁ st1
  have hcat : (Value.ref T.heap.size).category = 1 := rfl
  have hcellA : T1.heap[T.heap.size]? = some (freshCell cX kX) := by rw [← hT1]; exact State.heap_pushCell_size _ _
  have d3' : decode c.code (pc + 3) = .ok (.dup, 1) := by rw [hb]; exact d3
  obtain ⟨U, hsteps, hrun, hend, hW, hsame, ce, hce, hO⟩ := X₁.ctorThrow0 hexec htr (own := own) (cls := cls) (names := names) (ic := ic) hown' hcls hnames h (fun x hx => nomatch hx) hfX hkX hcellA (by rw [hhp, hT]; exact Nat.le_refl _)
    (g := { method := m, pc := pc + 4, locals := ls, stack := .ref T.heap.size :: .ref T.heap.size :: rest, locked := none }) rfl hsize rfl rfl (rest := rest) rfl
    (by rw [hb]; exact d4) (by rw [hb]; exact d7) hout hRframes (by simp only [List.map_cons, List.sum_cons, hcat]; omega) hlocks
  obtain ⟨f1, f2⟩ := vx_frame hsame
  rw [hhp] at f1 f2
  have hWs : s.WarmedH U.vm := State.WarmedH.trans hW0 hW
  have hcl : s.vm.findClass cls = some ce.cls := by
    have h9 := hO.cls
    rw [hvm] at h9
    exact h9
  have hall : s.sameButNew ({ U with vm := s.vm } : State) locs mc ms := by
    subst hA
    obtain ⟨e1, e2⟩ := hsame
    rw [State.setFrames_setFrames] at e1
    have h2 : (T.setVm s.vm).sameButNew ({ U with vm := s.vm } : State) [] (0 + 1) (0 + 6) := ⟨e1, e2⟩
    have h3 := X.same.trans h2
    rw [List.append_nil] at h3
    exact h3.mono hc hs
  refine ⟨U, ?_, .threw T.heap.size, hrun, hend, Or.inr ⟨T.heap.size, rfl, cls, ce, locs, hx U hWs.alike f1 (fun q hq => f2 q hq (fun z hz => nomatch hz)), hce, hO.vm, hcl, hWs, hall, hf⟩⟩
  refine st1 _ ?_
  show Steps p.tables e below (T1.setTop { method := m, pc := pc + 3, locals := ls, stack := .ref T.heap.size :: rest, locked := none }) _
  jvm_step X₁.here [X₁.here.top, hexec, d3', Value.category]
  exact hsteps
/-- 'throw new E("text")': new; dup; ldc; invokespecial; athrow -/
theorem vx_throwS {cc : ByteArray} {pc : Nat} (hexec : p.tables.exec = Jvm.exec) (hb : c.code = cc) (hl : l.stackTraces = false) {own cls text : String} {names : List String} {ik is ic mc ms sa : Nat} {A : Nat → Prop}
    (hown : s.vm.findClass own = some m.cls) (hcls : Bundle.fit cls = true) (hnames : ∀ n ∈ names, Bundle.fit n = true)
    (hk : (Cond.classLink own ik cls).before args s = true) (hini : (Cond.initialized cls).before args s = true) (hstr : vk_R own is text sa s) (hat : ∀ w ∈ vx_atS own ic cls names, w.before args s = true)
    (hgood : ∀ w ∈ Cond.classLink own ik cls :: Cond.initialized cls :: vx_atS own ic cls names, vx_ot w = true)
    (hU : vx_Zq Bundle.tN "UNASSIGNED_STACK" Bundle.steD A s s.heap) (hN : vx_Zq Bundle.tN "SUPPRESSED_SENTINEL" Bundle.listD A s s.heap) (hS : va_S A s.heap H locs) (hsize : ls.size = c.maxLocals)
    (d0 : decode cc pc = .ok (.new ik, 3)) (d3 : decode cc (pc + 3) = .ok (.dup, 1)) (d4 : decode cc (pc + 4) = .ok (.ldc is, 2)) (d6 : decode cc (pc + 6) = .ok (.invokespecial ic, 3)) (d9 : decode cc (pc + 9) = .ok (.athrow, 1))
    (hout : ∀ x ∈ c.exceptionTable.toList, covers x (pc + 9) = false)
    (hRframes : names.length + 3 < R.frames) (hRlocals : (rest.map fun v => v.category).sum + (13 * (names.length + 1) + 43) ≤ R.locals) (hRcells : cells + 1 ≤ R.cells) (hRslots : slots + 6 ≤ R.slots) (hlocks : meth.locks = false)
    (hx : ∀ t : State, s.vm.Alike t.vm → H.size ≤ t.heap.size → (∀ q : Nat, q < H.size → t.heap[q]? = H[q]?) → XC cls s t)
    (hf : ∀ z ∈ locs, free z.base) (hc : cells + 1 ≤ mc) (hs : slots + 6 ≤ ms) :
    W p l e R s m args below meth c H locs cells slots (vx_MQ below Qc XC args s mc ms free) (F0 m pc ls rest) := by
  intro T hT X
  have htr : e.platform.stackTraces = false := (show e.platform.stackTraces = l.stackTraces by rw [X.admits.platform]).trans hl
  have Y := vx_rebase X (R' := { frames := R.frames, locals := R.locals, cells := 1, slots := 6 }) (Nat.le_refl _) (Nat.le_refl _) hRcells hRslots
  obtain ⟨s', hA⟩ : ∃ z, z = (T.setVm s.vm).setFrames (.invoking m args :: below) := ⟨_, rfl⟩
  rw [← hA] at Y
  have hvm : s'.vm = s.vm := by rw [hA]; rfl
  have hhp : s'.heap = H := by rw [hA]; exact hT
  have hW0 : s.WarmedH s'.vm := by rw [hvm]; exact State.WarmedH.refl s
  have hat' : ∀ w ∈ vx_atS own ic cls names, w.before args s' = true := fun w hw => vx_ot_at hW0 hvm.symm (hgood w (List.mem_cons_of_mem _ (List.mem_cons_of_mem _ hw))) (hat w hw)
  have hk' : (Cond.classLink own ik cls).before args s' = true := vx_ot_at hW0 hvm.symm (hgood _ List.mem_cons_self) hk
  have hini' : (Cond.initialized cls).before args s' = true := vx_ot_at hW0 hvm.symm (hgood _ (List.mem_cons_of_mem _ List.mem_cons_self)) hini
  have hU' : vx_Zq Bundle.tN "UNASSIGNED_STACK" Bundle.steD A s' s'.heap := by rw [hhp]; exact vx_Zq.moved hW0.alike (hU.kept hS.2.1)
  have hN' : vx_Zq Bundle.tN "SUPPRESSED_SENTINEL" Bundle.listD A s' s'.heap := by rw [hhp]; exact vx_Zq.moved hW0.alike (hN.kept hS.2.1)
  have h : ∀ w ∈ Bundle.ownAtoms own ic cls names, w.before args s' = true := vx_own hat' (vx_isRefq hU'.1) (vx_isRefq hN'.1) hU'.2.word hN'.2.word
  have hown' : s'.vm.findClass own = some m.cls := by rw [hvm]; exact hown
  have hins : (Cond.instantiable cls 6).before args s' = true := h _ (by simp [Bundle.ownAtoms])
  obtain ⟨vm₁, cX, kX, hfX, hkX, -, -, X₁, st1⟩ := Y.newCold hexec (own := own) (C := cls) (index := ik) (n := 6) hown' hk' hins hini'
    (g := F0 m pc ls rest) rfl (by rw [hb]; exact d0) (Nat.le_refl _) (Nat.le_refl _)
  generalize hT1 : (T.setVm vm₁).pushCell { cls := cX, slots := kX.instanceTypes.map defaultValue, vm := .none } = T1 at X₁ st1
  have hcat : (Value.ref T.heap.size).category = 1 := rfl
  have hcellA : T1.heap[T.heap.size]? = some (freshCell cX kX) := by rw [← hT1]; exact State.heap_pushCell_size _ _
  have d3' : decode c.code (pc + 3) = .ok (.dup, 1) := by rw [hb]; exact d3
  have d4' : decode c.code (pc + 4) = .ok (.ldc is, 2) := by rw [hb]; exact d4
  have hstr' : vk_R own is text sa s' := vk_R.warm hW0 hstr
  obtain ⟨U, hsteps, hrun, hend, hW, hsame, ce, hce, hO⟩ := X₁.ctorThrowS hexec htr (own := own) (cls := cls) (names := names) (ic := ic) hown' hcls hnames h (fun x hx => nomatch hx) hfX hkX hcellA (by rw [hhp, hT]; exact Nat.le_refl _) (msg := .ref sa) rfl
    (g := { method := m, pc := pc + 6, locals := ls, stack := .ref sa :: .ref T.heap.size :: .ref T.heap.size :: rest, locked := none }) rfl hsize rfl rfl (rest := rest) rfl
    (by rw [hb]; exact d6) (by rw [hb]; exact d9) hout hRframes (by simp only [List.map_cons, List.sum_cons, hcat]; omega) hlocks
  obtain ⟨f1, f2⟩ := vx_frame hsame
  rw [hhp] at f1 f2
  have hWs : s.WarmedH U.vm := State.WarmedH.trans hW0 hW
  have hcl : s.vm.findClass cls = some ce.cls := by
    have h9 := hO.cls
    rw [hvm] at h9
    exact h9
  have hall : s.sameButNew ({ U with vm := s.vm } : State) locs mc ms := by
    subst hA
    obtain ⟨e1, e2⟩ := hsame
    rw [State.setFrames_setFrames] at e1
    have h2 : (T.setVm s.vm).sameButNew ({ U with vm := s.vm } : State) [] (0 + 1) (0 + 6) := ⟨e1, e2⟩
    have h3 := X.same.trans h2
    rw [List.append_nil] at h3
    exact h3.mono hc hs
  refine ⟨U, ?_, .threw T.heap.size, hrun, hend, Or.inr ⟨T.heap.size, rfl, cls, ce, locs, hx U hWs.alike f1 (fun q hq => f2 q hq (fun z hz => nomatch hz)), hce, hO.vm, hcl, hWs, hall, hf⟩⟩
  refine st1 _ ?_
  show Steps p.tables e below (T1.setTop { method := m, pc := pc + 3, locals := ls, stack := .ref T.heap.size :: rest, locked := none }) _
  jvm_step X₁.here [X₁.here.top, hexec, d3', Value.category]
  exact X₁.ldcString hexec (own := own) (text := text) (index := is) (a := sa) hown' hstr'.1 hstr'.2
    (g := { method := m, pc := pc + 4, locals := ls, stack := .ref T.heap.size :: .ref T.heap.size :: rest, locked := none }) rfl d4' _ hsteps
/-- 'throw new E("text")', the text by a wide index -/
theorem vx_throwSW {cc : ByteArray} {pc : Nat} (hexec : p.tables.exec = Jvm.exec) (hb : c.code = cc) (hl : l.stackTraces = false) {own cls text : String} {names : List String} {ik is ic mc ms sa : Nat} {A : Nat → Prop}
    (hown : s.vm.findClass own = some m.cls) (hcls : Bundle.fit cls = true) (hnames : ∀ n ∈ names, Bundle.fit n = true)
    (hk : (Cond.classLink own ik cls).before args s = true) (hini : (Cond.initialized cls).before args s = true) (hstr : vk_R own is text sa s) (hat : ∀ w ∈ vx_atS own ic cls names, w.before args s = true)
    (hgood : ∀ w ∈ Cond.classLink own ik cls :: Cond.initialized cls :: vx_atS own ic cls names, vx_ot w = true)
    (hU : vx_Zq Bundle.tN "UNASSIGNED_STACK" Bundle.steD A s s.heap) (hN : vx_Zq Bundle.tN "SUPPRESSED_SENTINEL" Bundle.listD A s s.heap) (hS : va_S A s.heap H locs) (hsize : ls.size = c.maxLocals)
    (d0 : decode cc pc = .ok (.new ik, 3)) (d3 : decode cc (pc + 3) = .ok (.dup, 1)) (d4 : decode cc (pc + 4) = .ok (.ldc_w is, 3)) (d7 : decode cc (pc + 7) = .ok (.invokespecial ic, 3)) (d10 : decode cc (pc + 10) = .ok (.athrow, 1))
    (hout : ∀ x ∈ c.exceptionTable.toList, covers x (pc + 10) = false)
    (hRframes : names.length + 3 < R.frames) (hRlocals : (rest.map fun v => v.category).sum + (13 * (names.length + 1) + 43) ≤ R.locals) (hRcells : cells + 1 ≤ R.cells) (hRslots : slots + 6 ≤ R.slots) (hlocks : meth.locks = false)
    (hx : ∀ t : State, s.vm.Alike t.vm → H.size ≤ t.heap.size → (∀ q : Nat, q < H.size → t.heap[q]? = H[q]?) → XC cls s t)
    (hf : ∀ z ∈ locs, free z.base) (hc : cells + 1 ≤ mc) (hs : slots + 6 ≤ ms) :
    W p l e R s m args below meth c H locs cells slots (vx_MQ below Qc XC args s mc ms free) (F0 m pc ls rest) := by
  intro T hT X
  have htr : e.platform.stackTraces = false := (show e.platform.stackTraces = l.stackTraces by rw [X.admits.platform]).trans hl
  have Y := vx_rebase X (R' := { frames := R.frames, locals := R.locals, cells := 1, slots := 6 }) (Nat.le_refl _) (Nat.le_refl _) hRcells hRslots
  obtain ⟨s', hA⟩ : ∃ z, z = (T.setVm s.vm).setFrames (.invoking m args :: below) := ⟨_, rfl⟩
  rw [← hA] at Y
  have hvm : s'.vm = s.vm := by rw [hA]; rfl
  have hhp : s'.heap = H := by rw [hA]; exact hT
  have hW0 : s.WarmedH s'.vm := by rw [hvm]; exact State.WarmedH.refl s
  have hat' : ∀ w ∈ vx_atS own ic cls names, w.before args s' = true := fun w hw => vx_ot_at hW0 hvm.symm (hgood w (List.mem_cons_of_mem _ (List.mem_cons_of_mem _ hw))) (hat w hw)
  have hk' : (Cond.classLink own ik cls).before args s' = true := vx_ot_at hW0 hvm.symm (hgood _ List.mem_cons_self) hk
  have hini' : (Cond.initialized cls).before args s' = true := vx_ot_at hW0 hvm.symm (hgood _ (List.mem_cons_of_mem _ List.mem_cons_self)) hini
  have hU' : vx_Zq Bundle.tN "UNASSIGNED_STACK" Bundle.steD A s' s'.heap := by rw [hhp]; exact vx_Zq.moved hW0.alike (hU.kept hS.2.1)
  have hN' : vx_Zq Bundle.tN "SUPPRESSED_SENTINEL" Bundle.listD A s' s'.heap := by rw [hhp]; exact vx_Zq.moved hW0.alike (hN.kept hS.2.1)
  have h : ∀ w ∈ Bundle.ownAtoms own ic cls names, w.before args s' = true := vx_own hat' (vx_isRefq hU'.1) (vx_isRefq hN'.1) hU'.2.word hN'.2.word
  have hown' : s'.vm.findClass own = some m.cls := by rw [hvm]; exact hown
  have hins : (Cond.instantiable cls 6).before args s' = true := h _ (by simp [Bundle.ownAtoms])
  obtain ⟨vm₁, cX, kX, hfX, hkX, -, -, X₁, st1⟩ := Y.newCold hexec (own := own) (C := cls) (index := ik) (n := 6) hown' hk' hins hini'
    (g := F0 m pc ls rest) rfl (by rw [hb]; exact d0) (Nat.le_refl _) (Nat.le_refl _)
  generalize hT1 : (T.setVm vm₁).pushCell { cls := cX, slots := kX.instanceTypes.map defaultValue, vm := .none } = T1 at X₁ st1
  have hcat : (Value.ref T.heap.size).category = 1 := rfl
  have hcellA : T1.heap[T.heap.size]? = some (freshCell cX kX) := by rw [← hT1]; exact State.heap_pushCell_size _ _
  have d3' : decode c.code (pc + 3) = .ok (.dup, 1) := by rw [hb]; exact d3
  have d4' : decode c.code (pc + 4) = .ok (.ldc_w is, 3) := by rw [hb]; exact d4
  have hstr' : vk_R own is text sa s' := vk_R.warm hW0 hstr
  obtain ⟨U, hsteps, hrun, hend, hW, hsame, ce, hce, hO⟩ := X₁.ctorThrowS hexec htr (own := own) (cls := cls) (names := names) (ic := ic) hown' hcls hnames h (fun x hx => nomatch hx) hfX hkX hcellA (by rw [hhp, hT]; exact Nat.le_refl _) (msg := .ref sa) rfl
    (g := { method := m, pc := pc + 7, locals := ls, stack := .ref sa :: .ref T.heap.size :: .ref T.heap.size :: rest, locked := none }) rfl hsize rfl rfl (rest := rest) rfl
    (by rw [hb]; exact d7) (by rw [hb]; exact d10) hout hRframes (by simp only [List.map_cons, List.sum_cons, hcat]; omega) hlocks
  obtain ⟨f1, f2⟩ := vx_frame hsame
  rw [hhp] at f1 f2
  have hWs : s.WarmedH U.vm := State.WarmedH.trans hW0 hW
  have hcl : s.vm.findClass cls = some ce.cls := by
    have h9 := hO.cls
    rw [hvm] at h9
    exact h9
  have hall : s.sameButNew ({ U with vm := s.vm } : State) locs mc ms := by
    subst hA
    obtain ⟨e1, e2⟩ := hsame
    rw [State.setFrames_setFrames] at e1
    have h2 : (T.setVm s.vm).sameButNew ({ U with vm := s.vm } : State) [] (0 + 1) (0 + 6) := ⟨e1, e2⟩
    have h3 := X.same.trans h2
    rw [List.append_nil] at h3
    exact h3.mono hc hs
  refine ⟨U, ?_, .threw T.heap.size, hrun, hend, Or.inr ⟨T.heap.size, rfl, cls, ce, locs, hx U hWs.alike f1 (fun q hq => f2 q hq (fun z hz => nomatch hz)), hce, hO.vm, hcl, hWs, hall, hf⟩⟩
  refine st1 _ ?_
  show Steps p.tables e below (T1.setTop { method := m, pc := pc + 3, locals := ls, stack := .ref T.heap.size :: rest, locked := none }) _
  jvm_step X₁.here [X₁.here.top, hexec, d3', Value.category]
  exact X₁.ldcStringW hexec (own := own) (text := text) (index := is) (a := sa) hown' hstr'.1 hstr'.2
    (g := { method := m, pc := pc + 4, locals := ls, stack := .ref T.heap.size :: .ref T.heap.size :: rest, locked := none }) rfl d4' _ hsteps
end Ends
section Bodies
variable {l : Launch}
theorem vx_ofW {y : MethodName} {ws ws' : List Cond} {rm : Room} {Pc : Array Value → State → Prop} {Qc : Array Value → State → Outcome → State → Prop} {XC : String → State → State → Prop} {mc ms : Nat} {free : Addr → Prop} {cc : ByteArray} {maxL : Nat} {ret : Option FieldType}
    (hy : plainName y.cls = true) (hw : ws = Cond.code y cc maxL ret :: ws')
    (body : ∀ p e s m args below meth c s₁, BodyLoose p l y (headSpec ws rm) cc maxL ret e s m args below meth c s₁ → c.maxLocals = maxL → (∀ x ∈ c.exceptionTable.toList, False) → Pc args s →
      W p l e (headSpec ws rm).room s m args below meth c s.heap [] 0 0 (vx_MQ below Qc XC args s mc ms free) (entryFrame m args maxL)) : vx_Met l y ws rm Pc Qc XC mc ms free := by
  refine MetFree.of_bodyS (code := cc) (maxLocals := maxL) (ret := ret) hy ?_ ?_
  · intro args s m h hn
    obtain ⟨meth, c, h1, h2, h3, h4, h5, h6, -, -⟩ := Cond.code_spec hn (atoms_spec (ws := ws) h _ (by rw [hw]; exact List.mem_cons_self))
    exact ⟨meth, c, h1, h2, h3, h4, h5, h6⟩
  · intro p e s m args below meth c s₁ B hml hP _
    have hh0 : s₁.heap = s.heap := by rw [B.state]; rfl
    have ht : ∀ x ∈ c.exceptionTable.toList, False := by
      obtain ⟨meth9, c9, h1, h2, -, -, -, -, h7, -⟩ := Cond.code_spec B.named (atoms_spec (ws := ws) B.pre _ (by rw [hw]; exact List.mem_cons_self))
      cases Option.some.inj (h1.symm.trans B.method)
      cases Option.some.inj (h2.symm.trans (Stand.of_body B).code)
      intro x hx
      rw [Array.isEmpty_iff.mp h7] at hx
      cases hx
    obtain ⟨t, a1, o, b1, b2, b3⟩ := body p e s m args below meth c s₁ B hml ht hP s₁ hh0 (Stand.of_body B)
    exact ⟨t, o, a1, b1, b2, b3⟩
/-- the table of a body with handlers -/
theorem vx_table {p : Program} {x y : MethodName} {S : Spec} {cc bytes : ByteArray} {maxL maxL' : Nat} {ret ret' : Option FieldType} {e : Env} {s s₁ : State} {m : MethodId} {args : Array Value} {below : List Frame} {meth : Method} {c : Code} {hh : List (Nat × Nat × Nat × Nat)}
    (B : BodyLoose p l y S cc maxL ret e s m args below meth c s₁) (h : (Cond.codeWith y bytes maxL' ret' hh).before args s = true) : c.exceptionTable.toList = tableOf hh := by
  obtain ⟨m9, meth9, c9, hn9, h1, h2, -, -, h6, -⟩ := Cond.codeWith_spec h
  cases Option.some.inj (hn9.symm.trans B.named)
  cases Option.some.inj (h1.symm.trans B.method)
  cases Option.some.inj (h2.symm.trans (Stand.of_body B).code)
  rw [← h6, table_eq]
end Bodies
end VXA
/-! ===== END ===== -/
/-! ===== BEGIN a static call of a method with an exception table ===== -/
section VXS
variable {p : Program} {l : Launch} {e : Env} {R : Room} {s : State} {m : MethodId} {args : Array Value} {below : List Frame} {meth : Method} {c : Code} {T : State} {H : Heap} {locs : List Loc} {cells slots : Nat}
abbrev vx_CSW (R : Room) (s : State) (args : Array Value) (own : String) (index : Nat) (y : MethodName) (bytes : ByteArray) (maxL : Nat) (ret : Option FieldType) (hh : List (Nat × Nat × Nat × Nat)) (ws : List Cond) (rm : Room) (mc ms n : Nat) : Prop :=
  (rm.cells = mc ∧ rm.slots = ms ∧ rm.frames + 1 ≤ R.frames ∧ 8 + (maxL + 11) + rm.locals ≤ R.locals ∧ (∀ w ∈ ws, ∀ (a' : Array Value) (U : State), s.WarmedH U.vm → w.before a' U = true) ∧ Cond.codeWith y bytes maxL ret hh ∈ ws) ∧
  (Cond.codeWith y bytes maxL ret hh).before args s = true ∧ (Cond.initialized y.cls).before args s = true ∧ (y.cls ≠ "java/lang/invoke/MethodHandle" ∧ y.cls ≠ "java/lang/invoke/VarHandle") ∧
  (∀ sig, parseMethodDescriptor y.desc = some sig → n = sig.parameters.length) ∧ (Cond.methodLink own index y).before args s = true ∧ (Cond.static y).before args s = true
theorem vx_cwSW {own : String} {index maxL mc ms : Nat} {y : MethodName} {bytes : ByteArray} {ret : Option FieldType} {hh : List (Nat × Nat × Nat × Nat)} {Ts ws ws' : List Cond} {rm : Room} (n : Nat) (ht : ∀ w ∈ Ts, w.before args s = true) (hT : GoodIn Ts (va_wsS own index y ws)) (hw : ws = Cond.codeWith y bytes maxL ret hh :: ws') (hrc : rm.cells = mc) (hrs : rm.slots = ms)
    (hd : y.cls ≠ "java/lang/invoke/MethodHandle" ∧ y.cls ≠ "java/lang/invoke/VarHandle" ∧ (parseMethodDescriptor y.desc).map (fun d => d.parameters.length) = some n) (hR : rm.frames + 1 ≤ R.frames ∧ 8 + (maxL + 11) + rm.locals ≤ R.locals) :
    vx_CSW R s args own index y bytes maxL ret hh ws rm mc ms n := by
  have ok : ∀ w ∈ va_wsS own index y ws, w.before args s = true := fun w h => ht w (hT w h).1
  have hG : GoodIn Ts ws := fun w h => hT w (by unfold va_wsS; exact List.mem_append_right _ h)
  have hc : Cond.codeWith y bytes maxL ret hh ∈ ws := by rw [hw]; exact List.mem_cons_self
  refine ⟨⟨hrc, hrs, hR.1, hR.2, pay_in ht hG, hc⟩, ht _ (hG _ hc).1, ok _ (by simp [va_wsS]), ⟨hd.1, hd.2.1⟩, fun sig h => ?_, ok _ (by simp [va_wsS]), ok _ (by simp [va_wsS])⟩
  have h2 := hd.2.2
  rw [h] at h2
  exact (Option.some.inj h2).symm
theorem vx_callSW (X : Stand p l e R s m args below meth c T locs cells slots) (hexec : p.tables.exec = Jvm.exec) {own : String} {index : Nat} {y : MethodName} {bytes : ByteArray} {maxL : Nat} {ret : Option FieldType} {hh : List (Nat × Nat × Nat × Nat)}
    (hown : s.vm.findClass own = some m.cls) (hlink : (Cond.methodLink own index y).before args s = true) (hstat : (Cond.static y).before args s = true) (hinit : (Cond.initialized y.cls).before args s = true)
    (hcode : (Cond.codeWith y bytes maxL ret hh).before args s = true) (hy : y.cls ≠ "java/lang/invoke/MethodHandle" ∧ y.cls ≠ "java/lang/invoke/VarHandle")
    {W9 : Nat} {Pre : Pt → Array Value → Prop} {Post : Pt → Array Value → Option Value → Pt → Prop} (hK : Back l R p e below s args y 3 W9 Pre Post)
    {g : JFrame} (hg : g.method = m) (hsize : g.locals.size = c.maxLocals) {argsL rest : List Value} (hlen : ∀ sig, parseMethodDescriptor y.desc = some sig → argsL.length = sig.parameters.length)
    (hstack : g.stack = argsL.reverse ++ rest) (hW : 2 * g.monitorRoom + (rest.map fun v => v.category).sum ≤ W9) (hdg : decode c.code g.pc = .ok (.invokestatic index, 3))
    (hpre : ∀ vm₁, s.WarmedH vm₁ → Pre ⟨T.setVm vm₁, locs, cells, slots⟩ argsL.toArray) :
    ∃ (v : Option Value) (vm₁ : Vm) (B : Pt), s.WarmedH vm₁ ∧ Stand p l e R s m args below meth c B.U B.locs B.cells B.slots ∧ Post ⟨T.setVm vm₁, locs, cells, slots⟩ argsL.toArray v B ∧
      ∀ target, Steps p.tables e below (B.U.setTop { g with pc := g.pc + 3, stack := v.toList ++ rest }) target → Steps p.tables e below (T.setTop g) target := by
  obtain ⟨mk, methM, cM, hnamed, hmethM, -, -, -, -, -, -, hsigM⟩ := Cond.codeWith_spec hcode
  have hstatic : methM.isStatic = true := Cond.static_spec hnamed hmethM hstat
  obtain ⟨kP, hkP, -⟩ := className_of_methodNamed hnamed
  have hinitP : kP.init = .initialized := Cond.initialized_spec (findClass_of_methodNamed hnamed) hkP hinit
  obtain ⟨vm₁, X₁, hstep₁⟩ := X.invokestatic hexec hown hlink hnamed hmethM hstatic hkP hinitP hy (g := g) hg (argsL := argsL) (rest := rest) (hlen _ hsigM) hstack hdg
  obtain ⟨v, B, X', hpost, hsteps⟩ := hK m meth c ⟨T.setVm vm₁, locs, cells, slots⟩ { g with stack := rest } (.invokestatic index) mk argsL.toArray X₁ hg hsize hdg hW (X₁.named hnamed) (hpre vm₁ X₁.warmed)
  exact ⟨v, vm₁, B, X₁.warmed, X', hpost, fun target h => hstep₁ _ fun acts => by rw [doInvoke_state]; exact hsteps.trans h⟩
theorem vx_runSW {y : MethodName} {bytes cc : ByteArray} {maxL nL mc ms n index : Nat} {ret : Option FieldType} {hh : List (Nat × Nat × Nat × Nat)} {ws : List Cond} {rm : Room} {Pc : Array Value → State → Prop} {Qc : Array Value → State → Outcome → State → Prop} {free : Addr → Prop} {Ts : List Cond} {own : String} {As rest : List Value} {g : JFrame}
    (S : CallFix p m c cc nL s args Ts own) (hM : Met l y ws rm Pc Qc mc ms free) (cw : vx_CSW R s args own index y bytes maxL ret hh ws rm mc ms n) (hp : PreS s H Pc As)
    (hg : g.method = m) (hn : As.length = n) (hsize : g.locals.size = nL) (hstack : g.stack = As.reverse ++ rest) (hW : 2 * g.monitorRoom + (rest.map fun v => v.category).sum ≤ 8) (hdg : decode cc g.pc = .ok (.invokestatic index, 3)) (hf : cells + mc ≤ R.cells ∧ slots + ms ≤ R.slots) :
    va_Run p l e R s m args below meth c H locs cells slots mc ms g rest (Qc As.toArray) (free) := by
  obtain ⟨⟨hrc, hrs, hfr, hlo, hws, hcw⟩, hcode, hini, hy, hlen, hl, hstt⟩ := cw
  have hK : Back l R p e below s args y 3 8 (PreOf R mc ms Pc) (PostOf Qc mc ms free) := va_backW (hh := hh) (bytes := bytes) (maxL := maxL) (ret := ret) hM hp.1 hrc hrs hfr hlo hws hcw (fun a' U hW => word_at hW (Or.inl (by first | rfl | simp [Cond.onTables, Cond.keeps, Cond.steady])) hini)
  obtain ⟨hx, hb, hml, ho, -⟩ := S
  intro T hT X
  obtain ⟨v, vm₁, ⟨U', l2, c2, s2⟩, hW₁, X', ⟨g', mk, t, L, e1, e2, hq, h1, hL, h2, h3⟩, st⟩ := vx_callSW X hx (hh := hh) (bytes := bytes) (maxL := maxL) (ret := ret) ho hl hstt hini hcode hy hK hg (hsize.trans hml.symm) (argsL := As) (rest := rest) (fun sig h => hn.trans (hlen sig h)) hstack hW (by rw [hb]; exact hdg)
    (fun vm₁ hW₁ => ⟨hf.1, hf.2, hp.2 (T.setVm vm₁) hT hW₁⟩)
  dsimp only [Pt.U, Pt.locs, Pt.cells, Pt.slots] at X' e1 e2 h1 h2 h3 st
  subst h1; subst h2; subst h3
  exact ⟨v, (T.setVm vm₁).calling g' mk As.toArray, t, U', L, hT, X', hL, e1, e2, hq, st⟩
/-- not caught here, past rows that name other classes: it goes on to the caller -/
theorem vx_outP {p : Program} {l : Launch} {e : Env} {R : Room} {s : State} {m : MethodId} {args : Array Value} {below : List Frame} {meth : Method} {c : Code} {H : Heap} {locs : List Loc} {cells slots : Nat} {free : Addr → Prop} {ls : Array Slot} {rest : List Value} {Qc : Array Value → State → Outcome → State → Prop} {XC : String → State → State → Prop}
    {pc : Nat} {own E : String} {ce : Cell} {q : Addr} {mc ms : Nat} (hown : s.vm.findClass own = some m.cls) (hlocks : meth.locks = false)
    (hpass : ∀ z ∈ c.exceptionTable.toList, covers z pc = false ∨ (z.catchType ≠ 0 ∧ ∃ nm : String, (Cond.classLink own z.catchType nm).before args s = true ∧ va_Nc E nm s)) (hcell : H[q]? = some ce) (hv : ce.vm = .none) (hcl : s.vm.findClass E = some ce.cls)
    (hx : ∀ t : State, t.heap = H → s.vm.Alike t.vm → XC E s t) (hf : ∀ z ∈ locs, free z.base) (hc : cells ≤ mc) (hs : slots ≤ ms) :
    vx_W p l e R s m args below meth c H locs cells slots (vx_MQ below Qc XC args s mc ms free) (F0 m pc ls rest) q := by
  intro T hT X
  have hpl : e.platform.magicAccessors = ({} : Platform).magicAccessors := by rw [X.admits.platform]
  obtain ⟨vm', hW', X', st⟩ := X.outThrough hlocks q (g := F0 m pc ls rest) rfl rfl rfl (cell := ce) (by rw [hT]; exact hcell) (by rw [hv]; rfl)
    (by obtain ⟨k9, h9, -⟩ := Vm.findClass_spec hcl; exact ⟨k9, h9⟩) (fun z hz => by
      rcases hpass z hz with h | ⟨hz0, nm, hl1, hn1⟩
      · exact Or.inl h
      · obtain ⟨c6, hc6, hcl6⟩ := Cond.classLink_spec hown hl1 e.platform hpl
        obtain ⟨a8, b8, h1, h2, h3⟩ := hn1
        cases Option.some.inj (h1.symm.trans hcl)
        cases Option.some.inj (h2.symm.trans hc6)
        exact Or.inr ⟨hz0, _, hcl6, h3⟩)
  obtain ⟨g₀, hfr⟩ := X'.frames_eq
  have hcell9 : ((T.setVm vm').setFrames (.throwing q :: below)).heap[q]? = some ce := by
    show T.heap[q]? = some ce
    rw [hT]; exact hcell
  have hend : Ended ((T.setVm vm').setFrames (.throwing q :: below)) below (.threw q) := State.frames_setFrames _ (State.cur_lt_of_frames hfr)
  refine ⟨(T.setVm vm').setFrames (.throwing q :: below), ?_, .threw q, X'.here.running, hend, Or.inr ⟨q, rfl, E, ce, locs, hx _ hT (X'.ends _).1.alike, hcell9, hv, hcl, (X'.ends _).1, (X'.ends _).2.mono hc hs, hf⟩⟩
  rw [X.pushThrowing_eq]
  exact st
/-- a thing of a world lies in the heap -/
theorem vx_lt {D : va_G} {cl : List vw_C} {ws : va_W} {H1 : Heap} (h : va_P D cl ws H1) {k : Nat} {q : Nat × va_E} (hk : ws[k]? = some q) : q.1 < H1.size := (h k q hk).lt
end VXS
/-! ===== END ===== -/
/-! ===== BEGIN methods with a table of their own: called by a name, returning or throwing ===== -/
section VXH
/-! vx_backW, vx_callVX, vx_callSX, vx_callVW, vx_runVW, vx_runVX, vx_runSX, vx_ofWH follow the same proofs as their sisters above (Free/Laws.lean, Shelf42/LK1.lean); vx_outP calls Shelf42/NT130.lean (outThrough). -/
section
variable {l : Launch} {R : Room} {p : Program} {e : Env} {below : List Frame} {s : State} {sargs : Array Value} {y : MethodName} {len W9 : Nat}
theorem vx_backW {ws : List Cond} {rm : Room} {Pc : Array Value → State → Prop} {Qc : Array Value → State → Outcome → State → Prop} {XC : String → State → State → Prop} {mc ms : Nat} {free : Addr → Prop} {bytes : ByteArray} {maxL : Nat} {ret : Option FieldType} {hh : List (Nat × Nat × Nat × Nat)}
    (hM : vx_Met l y ws rm Pc Qc XC mc ms free) (hblind : FrameBlind Pc) (hrc : rm.cells = mc) (hrs : rm.slots = ms)
    (hframes : rm.frames + 1 ≤ R.frames) (hlocals : W9 + (maxL + 11) + rm.locals ≤ R.locals)
    (hws : ∀ w ∈ ws, ∀ a' U, s.WarmedH U.vm → w.before a' U = true) (hcode : Cond.codeWith y bytes maxL ret hh ∈ ws) (hinit : ∀ a' U, s.WarmedH U.vm → (Cond.initialized y.cls).before a' U = true) :
    vx_Back l R p e below s sargs y len W9 (PreOf R mc ms Pc) (PostOf Qc mc ms free) (vx_Post XC mc ms free) := by
  intro m meth c A g ig mk a X hg hsize hdg hW hn hp
  have h1 : (headSpec ws rm).pre.before a A.U = true := atoms_intro fun w hw => hws w hw _ _ X.warmed
  have h2 : (Cond.codeWith y bytes maxL ret hh).before a A.U = true := hws _ hcode _ _ X.warmed
  have h3 : (Cond.initialized y.cls).before a A.U = true := hinit _ _ X.warmed
  have h4 : A.cells + (headSpec ws rm).room.cells ≤ R.cells := by rw [show (headSpec ws rm).room.cells = mc from hrc]; exact hp.1
  have h5 : A.slots + (headSpec ws rm).room.slots ≤ R.slots := by rw [show (headSpec ws rm).room.slots = ms from hrs]; exact hp.2.1
  have hPc : Pc a (A.U.calling g mk a) := hblind _ _ _ _ hp.2.2
  obtain ⟨U, Ls, c0, s0⟩ := A
  dsimp only [Pt.U, Pt.locs, Pt.cells, Pt.slots] at h1 h2 h3 h4 h5 X hn hPc ⊢
  obtain ⟨m9, methY, cY, hn9, hmY, hcY, -, hlY, -⟩ := Cond.codeWith_spec h2
  cases Option.some.inj (hn9.symm.trans hn)
  obtain ⟨kY, hkY, -⟩ := className_of_methodNamed hn
  have hinitY : kY.init = .initialized := Cond.initialized_spec (findClass_of_methodNamed hn) hkY h3
  have h : At U g.method c below := by rw [hg]; exact X.here
  have hlocals9 : W9 + (maxL + 11) + (headSpec ws rm).room.locals ≤ R.locals := hlocals
  have happ : (headSpec ws rm).appliesLoose y e.platform (U.calling g mk a) = true :=
    Spec.appliesLoose_calling (g := g) h hdg hn hkY hinitY
      (X.room_calling (g := g) (R' := (headSpec ws rm).room) hsize hmY hcY hframes (by rw [hlY]; omega) h4 h5) h1
  obtain ⟨mid, hmid⟩ := h.above
  have hfr : (U.setTop g).frames = (.java g :: mid) ++ below := by rw [State.frames_setTop' g h.top, hmid]; rfl
  obtain ⟨o, s₂, hsteps, -, hend, hq⟩ := Steps.callFree hM p X.admits X.cas X.clock (acts := []) hfr happ hPc trivial
  have hq' : vx_Q Qc XC mc ms free a (U.calling g mk a) o s₂ := hq
  rw [State.frames_setTop' g h.top] at hend
  obtain ⟨g₀, hg0⟩ := Option.isSome_iff_exists.mp h.top
  obtain ⟨r, hr⟩ := State.topJava?_eq_some.mp hg0
  have hr' : (({ U with heap := s₂.heap, slotsUsed := s₂.slotsUsed } : State).setVm s₂.vm).frames = .java g₀ :: r := hr
  rcases hq' with ⟨hqc, L, hfe, hL⟩ | ⟨q, rfl, E, ce, L, hx, hce, hcv, hcl, hW₂, hsm, hL⟩
  · obtain ⟨⟨v, rfl⟩, hW₂, e2, q2, q3, q4, q5, q6⟩ := id hfe
    have e3 : s₂ = ({ (U.calling g mk a).setFrames s₂.frames with heap := s₂.heap, slotsUsed := s₂.slotsUsed } : State).setVm s₂.vm := by
      have : s₂ = ({ s₂ with vm := (U.calling g mk a).vm } : State).setVm s₂.vm := rfl
      rw [e2] at this
      exact this
    obtain ⟨c₂, i₂, len₂, hc₂, hd₂, hf₂⟩ := hend
    have hW' : U.WarmedH s₂.vm := hW₂
    have hcc : c₂ = c := by
      have h1 : s₂.code? g.method = U.code? g.method := by
        rw [State.code?_eq, State.code?_eq, hW'.alike.method?]
      exact Option.some.inj (hc₂.symm.trans (h1.trans h.code))
    subst hcc
    have hlen : len₂ = len := by rw [hdg] at hd₂; cases hd₂; rfl
    subst hlen
    have hs₂ : s₂ = (({ U with heap := s₂.heap, slotsUsed := s₂.slotsUsed } : State).setVm s₂.vm).setTop { g with pc := g.pc + len₂, stack := v.toList ++ g.stack } := by
      refine e3.trans ?_
      rw [hf₂, State.calling_eq h.top, State.setFrames_setFrames, State.setTop_of_frames _ hr', hr]
      rfl
    have hsame : U.sameButNew ({ U with heap := s₂.heap, slotsUsed := s₂.slotsUsed } : State) L mc ms := by
      refine ⟨?_, q2, q3, q4, q5, q6⟩
      obtain ⟨t, ht, -⟩ := State.frames_cons hr
      show ({ U with heap := s₂.heap, slotsUsed := s₂.slotsUsed } : State) = { U.setFrames U.frames with heap := s₂.heap, slotsUsed := s₂.slotsUsed }
      rw [State.setFrames_self ht]
    subst hg
    refine Or.inl ⟨v, ⟨(({ U with heap := s₂.heap, slotsUsed := s₂.slotsUsed } : State).setVm s₂.vm), Ls ++ L, c0 + mc, s0 + ms⟩,
      ⟨X.admits, X.cas, X.clock, X.frames, X.room, X.hears, X.method, X.code, (X.here.setHeapUsed s₂.heap s₂.slotsUsed).setVm hW'.alike, X.tail, State.WarmedH.trans X.warmed hW', X.limits, X.bytes, X.same.trans (hsame.setVm s.vm)⟩,
      ⟨g, mk, s₂, L, rfl, rfl, hqc, rfl, hL, rfl, rfl⟩, ?_⟩
    show Steps p.tables e below _ ((({ U with heap := s₂.heap, slotsUsed := s₂.slotsUsed } : State).setVm s₂.vm).setTop { g with pc := g.pc + len₂, stack := v.toList ++ g.stack })
    rw [← hs₂]
    exact hsteps
  · obtain ⟨e2, q2, q3, q4, q5, q6⟩ := id hsm
    have e3 : s₂ = ({ (U.calling g mk a).setFrames s₂.frames with heap := s₂.heap, slotsUsed := s₂.slotsUsed } : State).setVm s₂.vm := by
      have : s₂ = ({ s₂ with vm := (U.calling g mk a).vm } : State).setVm s₂.vm := rfl
      rw [e2] at this
      exact this
    have hf₂ : s₂.frames = .throwing q :: .java g :: U.frames.tail := hend
    have hW' : U.WarmedH s₂.vm := hW₂
    have hs₂ : s₂ = ((({ U with heap := s₂.heap, slotsUsed := s₂.slotsUsed } : State).setVm s₂.vm).setTop g).pushFrame (.throwing q) := by
      refine e3.trans ?_
      rw [hf₂, State.calling_eq h.top, State.setFrames_setFrames, State.pushFrame, State.frames_setTop _ hr', State.setTop_of_frames _ hr', State.setFrames_setFrames, hr]
      rfl
    have hsame : U.sameButNew ({ U with heap := s₂.heap, slotsUsed := s₂.slotsUsed } : State) L mc ms := by
      refine ⟨?_, q2, q3, q4, q5, q6⟩
      obtain ⟨t, ht, -⟩ := State.frames_cons hr
      show ({ U with heap := s₂.heap, slotsUsed := s₂.slotsUsed } : State) = { U.setFrames U.frames with heap := s₂.heap, slotsUsed := s₂.slotsUsed }
      rw [State.setFrames_self ht]
    subst hg
    refine Or.inr ⟨q, ⟨(({ U with heap := s₂.heap, slotsUsed := s₂.slotsUsed } : State).setVm s₂.vm), Ls ++ L, c0 + mc, s0 + ms⟩,
      ⟨X.admits, X.cas, X.clock, X.frames, X.room, X.hears, X.method, X.code, (X.here.setHeapUsed s₂.heap s₂.slotsUsed).setVm hW'.alike, X.tail, State.WarmedH.trans X.warmed hW', X.limits, X.bytes, X.same.trans (hsame.setVm s.vm)⟩,
      ⟨g, mk, s₂, L, E, ce, rfl, rfl, hx, hce, hcv, hcl, rfl, hL, rfl, rfl⟩, ?_⟩
    show Steps p.tables e below _ (((({ U with heap := s₂.heap, slotsUsed := s₂.slotsUsed } : State).setVm s₂.vm).setTop g).pushFrame (.throwing q))
    rw [← hs₂]
    exact hsteps
end
variable {p : Program} {l : Launch} {e : Env} {R : Room} {s : State} {m : MethodId} {args : Array Value} {below : List Frame} {meth : Method} {c : Code} {T : State} {H : Heap} {locs : List Loc} {cells slots : Nat}
theorem vx_callVX (X : Stand p l e R s m args below meth c T locs cells slots) (hexec : p.tables.exec = Jvm.exec) {own C : String} {index : Nat} {y : MethodName} {bytes : ByteArray} {maxL : Nat} {ret : Option FieldType} {hh : List (Nat × Nat × Nat × Nat)}
    (hown : s.vm.findClass own = some m.cls) (hlink : (Cond.methodLink own index y).before args s = true) (hinst : (Cond.instanceMethod y).before args s = true) (hsel : (Cond.selects C y y).before args s = true)
    (hcode : (Cond.codeWith y bytes maxL ret hh).before args s = true) (hy : y.cls ≠ "java/lang/invoke/MethodHandle" ∧ y.cls ≠ "java/lang/invoke/VarHandle")
    {W9 : Nat} {Pre : Pt → Array Value → Prop} {Post : Pt → Array Value → Option Value → Pt → Prop} {PostX : Pt → Array Value → Addr → Pt → Prop} (hK : vx_Back l R p e below s args y 3 W9 Pre Post PostX)
    {b : Addr} {cellB : Cell} (hcell : T.heap[b]? = some cellB) (hobj : cellB.vm.isStatics = false) (hcls : s.vm.findClass C = some cellB.cls)
    {g : JFrame} (hg : g.method = m) (hsize : g.locals.size = c.maxLocals) {argsL rest : List Value} (hlen : ∀ sig, parseMethodDescriptor y.desc = some sig → argsL.length = sig.parameters.length)
    (hstack : g.stack = argsL.reverse ++ .ref b :: rest) (hW : 2 * g.monitorRoom + (rest.map fun v => v.category).sum ≤ W9) (hdg : decode c.code g.pc = .ok (.invokevirtual index, 3))
    (hpre : ∀ vm₁, s.WarmedH vm₁ → Pre ⟨T.setVm vm₁, locs, cells, slots⟩ (Value.ref b :: argsL).toArray) :
    (∃ (v : Option Value) (vm₁ : Vm) (B : Pt), s.WarmedH vm₁ ∧ Stand p l e R s m args below meth c B.U B.locs B.cells B.slots ∧ Post ⟨T.setVm vm₁, locs, cells, slots⟩ (Value.ref b :: argsL).toArray v B ∧
      ∀ target, Steps p.tables e below (B.U.setTop { g with pc := g.pc + 3, stack := v.toList ++ rest }) target → Steps p.tables e below (T.setTop g) target) ∨
    (∃ (q : Addr) (vm₁ : Vm) (B : Pt), s.WarmedH vm₁ ∧ Stand p l e R s m args below meth c B.U B.locs B.cells B.slots ∧ PostX ⟨T.setVm vm₁, locs, cells, slots⟩ (Value.ref b :: argsL).toArray q B ∧
      Steps p.tables e below (T.setTop g) ((B.U.setTop { g with stack := rest }).pushFrame (.throwing q))) := by
  obtain ⟨mk, methM, hnamed, hmethM, hstM, habM⟩ := Cond.instanceMethod_spec hinst
  obtain ⟨m8, methM', cM, hn8, hmethM', -, -, -, -, -, -, hsigM⟩ := Cond.codeWith_spec hcode
  cases Option.some.inj (hn8.symm.trans hnamed)
  cases hmethM.symm.trans hmethM'
  obtain ⟨c2, r2, m2, q1, q2, q3, q4, kP, hkP, hkPi⟩ := Cond.selects_spec hsel
  cases hcls.symm.trans q1
  cases (State.methodFound?_of_named hnamed hy).symm.trans q2
  cases hnamed.symm.trans q3
  have hselP : selectMethod e.platform s.vm cellB.cls mk = .method mk := by rw [Launch.admits_selectMethod X.admits]; exact q4
  obtain ⟨vm₁, X₁, hstep₁⟩ := X.invokevirtual hexec hown hlink hnamed hmethM hstM hkP hkPi hy (a := b) (cell := cellB) hcell
    (fun z h => by rw [h] at hobj; cases hobj) hselP hmethM habM hkP hkPi (g := g) hg (argsL := argsL) (rest := rest) (hlen _ hsigM) hstack hdg
  rcases hK m meth c ⟨T.setVm vm₁, locs, cells, slots⟩ { g with stack := rest } (.invokevirtual index) mk (Value.ref b :: argsL).toArray X₁ hg hsize hdg hW (X₁.named hnamed) (hpre vm₁ X₁.warmed) with ⟨v, B, X', hpost, hsteps⟩ | ⟨q, B, X', hpost, hsteps⟩
  · exact Or.inl ⟨v, vm₁, B, X₁.warmed, X', hpost, fun target h => hstep₁ _ fun acts => by rw [doInvoke_state]; exact hsteps.trans h⟩
  · exact Or.inr ⟨q, vm₁, B, X₁.warmed, X', hpost, hstep₁ _ fun acts => by rw [doInvoke_state]; exact hsteps⟩
theorem vx_callSX (X : Stand p l e R s m args below meth c T locs cells slots) (hexec : p.tables.exec = Jvm.exec) {own : String} {index : Nat} {y : MethodName} {bytes : ByteArray} {maxL : Nat} {ret : Option FieldType} {hh : List (Nat × Nat × Nat × Nat)}
    (hown : s.vm.findClass own = some m.cls) (hlink : (Cond.methodLink own index y).before args s = true) (hstat : (Cond.static y).before args s = true) (hinit : (Cond.initialized y.cls).before args s = true)
    (hcode : (Cond.codeWith y bytes maxL ret hh).before args s = true) (hy : y.cls ≠ "java/lang/invoke/MethodHandle" ∧ y.cls ≠ "java/lang/invoke/VarHandle")
    {W9 : Nat} {Pre : Pt → Array Value → Prop} {Post : Pt → Array Value → Option Value → Pt → Prop} {PostX : Pt → Array Value → Addr → Pt → Prop} (hK : vx_Back l R p e below s args y 3 W9 Pre Post PostX)
    {g : JFrame} (hg : g.method = m) (hsize : g.locals.size = c.maxLocals) {argsL rest : List Value} (hlen : ∀ sig, parseMethodDescriptor y.desc = some sig → argsL.length = sig.parameters.length)
    (hstack : g.stack = argsL.reverse ++ rest) (hW : 2 * g.monitorRoom + (rest.map fun v => v.category).sum ≤ W9) (hdg : decode c.code g.pc = .ok (.invokestatic index, 3))
    (hpre : ∀ vm₁, s.WarmedH vm₁ → Pre ⟨T.setVm vm₁, locs, cells, slots⟩ argsL.toArray) :
    (∃ (v : Option Value) (vm₁ : Vm) (B : Pt), s.WarmedH vm₁ ∧ Stand p l e R s m args below meth c B.U B.locs B.cells B.slots ∧ Post ⟨T.setVm vm₁, locs, cells, slots⟩ argsL.toArray v B ∧
      ∀ target, Steps p.tables e below (B.U.setTop { g with pc := g.pc + 3, stack := v.toList ++ rest }) target → Steps p.tables e below (T.setTop g) target) ∨
    (∃ (q : Addr) (vm₁ : Vm) (B : Pt), s.WarmedH vm₁ ∧ Stand p l e R s m args below meth c B.U B.locs B.cells B.slots ∧ PostX ⟨T.setVm vm₁, locs, cells, slots⟩ argsL.toArray q B ∧
      Steps p.tables e below (T.setTop g) ((B.U.setTop { g with stack := rest }).pushFrame (.throwing q))) := by
  obtain ⟨mk, methM, cM, hnamed, hmethM, -, -, -, -, -, -, hsigM⟩ := Cond.codeWith_spec hcode
  have hstatic : methM.isStatic = true := Cond.static_spec hnamed hmethM hstat
  obtain ⟨kP, hkP, -⟩ := className_of_methodNamed hnamed
  have hinitP : kP.init = .initialized := Cond.initialized_spec (findClass_of_methodNamed hnamed) hkP hinit
  obtain ⟨vm₁, X₁, hstep₁⟩ := X.invokestatic hexec hown hlink hnamed hmethM hstatic hkP hinitP hy (g := g) hg (argsL := argsL) (rest := rest) (hlen _ hsigM) hstack hdg
  rcases hK m meth c ⟨T.setVm vm₁, locs, cells, slots⟩ { g with stack := rest } (.invokestatic index) mk argsL.toArray X₁ hg hsize hdg hW (X₁.named hnamed) (hpre vm₁ X₁.warmed) with ⟨v, B, X', hpost, hsteps⟩ | ⟨q, B, X', hpost, hsteps⟩
  · exact Or.inl ⟨v, vm₁, B, X₁.warmed, X', hpost, fun target h => hstep₁ _ fun acts => by rw [doInvoke_state]; exact hsteps.trans h⟩
  · exact Or.inr ⟨q, vm₁, B, X₁.warmed, X', hpost, hstep₁ _ fun acts => by rw [doInvoke_state]; exact hsteps⟩
theorem vx_callVW (X : Stand p l e R s m args below meth c T locs cells slots) (hexec : p.tables.exec = Jvm.exec) {own C : String} {index : Nat} {y : MethodName} {bytes : ByteArray} {maxL : Nat} {ret : Option FieldType} {hh : List (Nat × Nat × Nat × Nat)}
    (hown : s.vm.findClass own = some m.cls) (hlink : (Cond.methodLink own index y).before args s = true) (hinst : (Cond.instanceMethod y).before args s = true) (hsel : (Cond.selects C y y).before args s = true)
    (hcode : (Cond.codeWith y bytes maxL ret hh).before args s = true) (hy : y.cls ≠ "java/lang/invoke/MethodHandle" ∧ y.cls ≠ "java/lang/invoke/VarHandle")
    {W9 : Nat} {Pre : Pt → Array Value → Prop} {Post : Pt → Array Value → Option Value → Pt → Prop} (hK : Back l R p e below s args y 3 W9 Pre Post)
    {b : Addr} {cellB : Cell} (hcell : T.heap[b]? = some cellB) (hobj : cellB.vm.isStatics = false) (hcls : s.vm.findClass C = some cellB.cls)
    {g : JFrame} (hg : g.method = m) (hsize : g.locals.size = c.maxLocals) {argsL rest : List Value} (hlen : ∀ sig, parseMethodDescriptor y.desc = some sig → argsL.length = sig.parameters.length)
    (hstack : g.stack = argsL.reverse ++ .ref b :: rest) (hW : 2 * g.monitorRoom + (rest.map fun v => v.category).sum ≤ W9) (hdg : decode c.code g.pc = .ok (.invokevirtual index, 3))
    (hpre : ∀ vm₁, s.WarmedH vm₁ → Pre ⟨T.setVm vm₁, locs, cells, slots⟩ (Value.ref b :: argsL).toArray) :
    ∃ (v : Option Value) (vm₁ : Vm) (B : Pt), s.WarmedH vm₁ ∧ Stand p l e R s m args below meth c B.U B.locs B.cells B.slots ∧ Post ⟨T.setVm vm₁, locs, cells, slots⟩ (Value.ref b :: argsL).toArray v B ∧
      ∀ target, Steps p.tables e below (B.U.setTop { g with pc := g.pc + 3, stack := v.toList ++ rest }) target → Steps p.tables e below (T.setTop g) target := by
  obtain ⟨mk, methM, hnamed, hmethM, hstM, habM⟩ := Cond.instanceMethod_spec hinst
  obtain ⟨m8, methM', cM, hn8, hmethM', -, -, -, -, -, -, hsigM⟩ := Cond.codeWith_spec hcode
  cases Option.some.inj (hn8.symm.trans hnamed)
  cases hmethM.symm.trans hmethM'
  obtain ⟨c2, r2, m2, q1, q2, q3, q4, kP, hkP, hkPi⟩ := Cond.selects_spec hsel
  cases hcls.symm.trans q1
  cases (State.methodFound?_of_named hnamed hy).symm.trans q2
  cases hnamed.symm.trans q3
  have hselP : selectMethod e.platform s.vm cellB.cls mk = .method mk := by rw [Launch.admits_selectMethod X.admits]; exact q4
  obtain ⟨vm₁, X₁, hstep₁⟩ := X.invokevirtual hexec hown hlink hnamed hmethM hstM hkP hkPi hy (a := b) (cell := cellB) hcell
    (fun z h => by rw [h] at hobj; cases hobj) hselP hmethM habM hkP hkPi (g := g) hg (argsL := argsL) (rest := rest) (hlen _ hsigM) hstack hdg
  obtain ⟨v, B, X', hpost, hsteps⟩ := hK m meth c ⟨T.setVm vm₁, locs, cells, slots⟩ { g with stack := rest } (.invokevirtual index) mk (Value.ref b :: argsL).toArray X₁ hg hsize hdg hW (X₁.named hnamed) (hpre vm₁ X₁.warmed)
  exact ⟨v, vm₁, B, X₁.warmed, X', hpost, fun target h => hstep₁ _ fun acts => by rw [doInvoke_state]; exact hsteps.trans h⟩
abbrev vx_CVW (R : Room) (s : State) (args : Array Value) (own C : String) (index : Nat) (y : MethodName) (bytes : ByteArray) (maxL : Nat) (ret : Option FieldType) (hh : List (Nat × Nat × Nat × Nat)) (ws : List Cond) (rm : Room) (mc ms n : Nat) : Prop :=
  (rm.cells = mc ∧ rm.slots = ms ∧ rm.frames + 1 ≤ R.frames ∧ 8 + (maxL + 11) + rm.locals ≤ R.locals ∧ (∀ w ∈ ws, ∀ (a' : Array Value) (U : State), s.WarmedH U.vm → w.before a' U = true) ∧ Cond.codeWith y bytes maxL ret hh ∈ ws) ∧
  (Cond.codeWith y bytes maxL ret hh).before args s = true ∧ (Cond.initialized y.cls).before args s = true ∧ (y.cls ≠ "java/lang/invoke/MethodHandle" ∧ y.cls ≠ "java/lang/invoke/VarHandle") ∧
  (∀ sig, parseMethodDescriptor y.desc = some sig → n = sig.parameters.length) ∧ (Cond.methodLink own index y).before args s = true ∧ (Cond.instanceMethod y).before args s = true ∧ (Cond.selects C y y).before args s = true
theorem vx_cwVW {own C : String} {index maxL mc ms : Nat} {y : MethodName} {bytes : ByteArray} {ret : Option FieldType} {hh : List (Nat × Nat × Nat × Nat)} {Ts ws ws' : List Cond} {rm : Room} (n : Nat) (ht : ∀ w ∈ Ts, w.before args s = true) (hT : GoodIn Ts (wsV own index C y ws)) (hw : ws = Cond.codeWith y bytes maxL ret hh :: ws') (hrc : rm.cells = mc) (hrs : rm.slots = ms)
    (hd : y.cls = C ∧ y.cls ≠ "java/lang/invoke/MethodHandle" ∧ y.cls ≠ "java/lang/invoke/VarHandle" ∧ (parseMethodDescriptor y.desc).map (fun d => d.parameters.length) = some n) (hR : rm.frames + 1 ≤ R.frames ∧ 8 + (maxL + 11) + rm.locals ≤ R.locals) :
    vx_CVW R s args own C index y bytes maxL ret hh ws rm mc ms n := by
  obtain ⟨hC, hd⟩ := hd
  subst hC
  have ok : ∀ w ∈ wsV own index y.cls y ws, w.before args s = true := fun w h => ht w (hT w h).1
  have hG : GoodIn Ts ws := fun w h => hT w (by unfold wsV; exact List.mem_append_right _ h)
  have hc : Cond.codeWith y bytes maxL ret hh ∈ ws := by rw [hw]; exact List.mem_cons_self
  refine ⟨⟨hrc, hrs, hR.1, hR.2, pay_in ht hG, hc⟩, ht _ (hG _ hc).1, ok _ (by simp [wsV]), ⟨hd.1, hd.2.1⟩, fun sig h => ?_, ok _ (by simp [wsV]), ok _ (by simp [wsV]), ok _ (by simp [wsV])⟩
  have h2 := hd.2.2
  rw [h] at h2
  exact (Option.some.inj h2).symm
theorem vx_runVW {y : MethodName} {bytes cc : ByteArray} {maxL nL mc ms n index : Nat} {ret : Option FieldType} {hh : List (Nat × Nat × Nat × Nat)} {ws : List Cond} {rm : Room} {Pc : Array Value → State → Prop} {Qc : Array Value → State → Outcome → State → Prop} {free : Addr → Prop} {Ts : List Cond} {own C : String} {b : Addr} {As rest : List Value} {g : JFrame}
    (S : CallFix p m c cc nL s args Ts own) (hM : Met l y ws rm Pc Qc mc ms free) (cw : vx_CVW R s args own C index y bytes maxL ret hh ws rm mc ms n) (hp : PreV s H C b Pc As)
    (hg : g.method = m) (hn : As.length = n) (hsize : g.locals.size = nL) (hstack : g.stack = As.reverse ++ .ref b :: rest) (hW : 2 * g.monitorRoom + (rest.map fun v => v.category).sum ≤ 8) (hdg : decode cc g.pc = .ok (.invokevirtual index, 3)) (hf : cells + mc ≤ R.cells ∧ slots + ms ≤ R.slots) :
    va_Run p l e R s m args below meth c H locs cells slots mc ms g rest (Qc (Value.ref b :: As).toArray) free := by
  obtain ⟨⟨hrc, hrs, hfr, hlo, hws, hcw⟩, hcode, hini, hy, hlen, hl, hin, hse⟩ := cw
  have hK : Back l R p e below s args y 3 8 (PreOf R mc ms Pc) (PostOf Qc mc ms free) := va_backW (hh := hh) (bytes := bytes) (maxL := maxL) (ret := ret) hM hp.1 hrc hrs hfr hlo hws hcw (fun a' U hW => word_at hW (Or.inl (by first | rfl | simp [Cond.onTables, Cond.keeps, Cond.steady])) hini)
  obtain ⟨hx, hb, hml, ho, -⟩ := S
  obtain ⟨-, ⟨cellB, hcB, hoB, hclB⟩, hPc⟩ := hp
  intro T hT X
  obtain ⟨v, vm₁, ⟨U', l2, c2, s2⟩, hW₁, X', ⟨g', mk, t, L, e1, e2, hq, h1, hL, h2, h3⟩, st⟩ := vx_callVW X hx (C := C) (hh := hh) (bytes := bytes) (maxL := maxL) (ret := ret) ho hl hin hse hcode hy hK (by rw [hT]; exact hcB) hoB hclB hg (hsize.trans hml.symm) (argsL := As) (rest := rest) (fun sig h => hn.trans (hlen sig h)) hstack hW (by rw [hb]; exact hdg)
    (fun vm₁ hW₁ => ⟨hf.1, hf.2, hPc (T.setVm vm₁) hT hW₁⟩)
  dsimp only [Pt.U, Pt.locs, Pt.cells, Pt.slots] at X' e1 e2 h1 h2 h3 st
  subst h1; subst h2; subst h3
  exact ⟨v, (T.setVm vm₁).calling g' mk (Value.ref b :: As).toArray, t, U', L, hT, X', hL, e1, e2, hq, st⟩
section
variable {y : MethodName} {bytes cc : ByteArray} {maxL nL mc ms n index : Nat} {ret : Option FieldType} {ws : List Cond} {rm : Room} {Pc : Array Value → State → Prop} {Qc : Array Value → State → Outcome → State → Prop} {XC : String → State → State → Prop} {free : Addr → Prop} {Ts : List Cond} {own C : String} {b : Addr} {As rest : List Value} {g : JFrame}
theorem vx_runVX {hh : List (Nat × Nat × Nat × Nat)} (S : CallFix p m c cc nL s args Ts own) (hM : vx_Met l y ws rm Pc Qc XC mc ms free) (cw : vx_CVW R s args own C index y bytes maxL ret hh ws rm mc ms n) (hp : PreV s H C b Pc As)
    (hg : g.method = m) (hn : As.length = n) (hsize : g.locals.size = nL) (hstack : g.stack = As.reverse ++ .ref b :: rest) (hW : 2 * g.monitorRoom + (rest.map fun v => v.category).sum ≤ 8) (hdg : decode cc g.pc = .ok (.invokevirtual index, 3)) (hf : cells + mc ≤ R.cells ∧ slots + ms ≤ R.slots) :
    vx_Run p l e R s m args below meth c H locs cells slots mc ms g rest (Qc (Value.ref b :: As).toArray) XC free := by
  obtain ⟨⟨hrc, hrs, hfr, hlo, hws, hcw⟩, hcode, hini, hy, hlen, hl, hin, hse⟩ := cw
  have hK : vx_Back l R p e below s args y 3 8 (PreOf R mc ms Pc) (PostOf Qc mc ms free) (vx_Post XC mc ms free) := vx_backW (hh := hh) (bytes := bytes) (maxL := maxL) (ret := ret) hM hp.1 hrc hrs hfr hlo hws hcw (fun a' U hW => word_at hW (Or.inl (by first | rfl | simp [Cond.onTables, Cond.keeps, Cond.steady])) hini)
  obtain ⟨hx, hb, hml, ho, -⟩ := S
  obtain ⟨-, ⟨cellB, hcB, hoB, hclB⟩, hPc⟩ := hp
  intro T hT X
  rcases vx_callVX X hx (C := C) (hh := hh) (bytes := bytes) (maxL := maxL) (ret := ret) ho hl hin hse hcode hy hK (by rw [hT]; exact hcB) hoB hclB hg (hsize.trans hml.symm) (argsL := As) (rest := rest) (fun sig h => hn.trans (hlen sig h)) hstack hW (by rw [hb]; exact hdg)
    (fun vm₁ hW₁ => ⟨hf.1, hf.2, hPc (T.setVm vm₁) hT hW₁⟩) with ⟨v, vm₁, ⟨U', l2, c2, s2⟩, hW₁, X', ⟨g', mk, t, L, e1, e2, hq, h1, hL, h2, h3⟩, st⟩ | ⟨q, vm₁, ⟨U', l2, c2, s2⟩, hW₁, X', ⟨g', mk, t, L, E, ce, e1, e2, hq, hce, hcv, hcl, h1, hL, h2, h3⟩, st⟩
  · dsimp only [Pt.U, Pt.locs, Pt.cells, Pt.slots] at X' e1 e2 h1 h2 h3 st
    subst h1; subst h2; subst h3
    exact Or.inl ⟨v, (T.setVm vm₁).calling g' mk (Value.ref b :: As).toArray, t, U', L, hT, X', hL, e1, e2, hq, st⟩
  · dsimp only [Pt.U, Pt.locs, Pt.cells, Pt.slots] at X' e1 e2 h1 h2 h3 st hcl
    subst h1; subst h2; subst h3
    exact Or.inr ⟨q, (T.setVm vm₁).calling g' mk (Value.ref b :: As).toArray, t, U', L, E, ce, hT, X', hL, e1, e2, hq, hce, hcv, vx_cls hW₁ hcl, st⟩
theorem vx_runSX {hh : List (Nat × Nat × Nat × Nat)} (S : CallFix p m c cc nL s args Ts own) (hM : vx_Met l y ws rm Pc Qc XC mc ms free) (cw : vx_CSW R s args own index y bytes maxL ret hh ws rm mc ms n) (hp : PreS s H Pc As)
    (hg : g.method = m) (hn : As.length = n) (hsize : g.locals.size = nL) (hstack : g.stack = As.reverse ++ rest) (hW : 2 * g.monitorRoom + (rest.map fun v => v.category).sum ≤ 8) (hdg : decode cc g.pc = .ok (.invokestatic index, 3)) (hf : cells + mc ≤ R.cells ∧ slots + ms ≤ R.slots) :
    vx_Run p l e R s m args below meth c H locs cells slots mc ms g rest (Qc As.toArray) XC free := by
  obtain ⟨⟨hrc, hrs, hfr, hlo, hws, hcw⟩, hcode, hini, hy, hlen, hl, hstt⟩ := cw
  have hK : vx_Back l R p e below s args y 3 8 (PreOf R mc ms Pc) (PostOf Qc mc ms free) (vx_Post XC mc ms free) := vx_backW (hh := hh) (bytes := bytes) (maxL := maxL) (ret := ret) hM hp.1 hrc hrs hfr hlo hws hcw (fun a' U hW => word_at hW (Or.inl (by first | rfl | simp [Cond.onTables, Cond.keeps, Cond.steady])) hini)
  obtain ⟨hx, hb, hml, ho, -⟩ := S
  intro T hT X
  rcases vx_callSX X hx (hh := hh) (bytes := bytes) (maxL := maxL) (ret := ret) ho hl hstt hini hcode hy hK hg (hsize.trans hml.symm) (argsL := As) (rest := rest) (fun sig h => hn.trans (hlen sig h)) hstack hW (by rw [hb]; exact hdg)
    (fun vm₁ hW₁ => ⟨hf.1, hf.2, hp.2 (T.setVm vm₁) hT hW₁⟩) with ⟨v, vm₁, ⟨U', l2, c2, s2⟩, hW₁, X', ⟨g', mk, t, L, e1, e2, hq, h1, hL, h2, h3⟩, st⟩ | ⟨q, vm₁, ⟨U', l2, c2, s2⟩, hW₁, X', ⟨g', mk, t, L, E, ce, e1, e2, hq, hce, hcv, hcl, h1, hL, h2, h3⟩, st⟩
  · dsimp only [Pt.U, Pt.locs, Pt.cells, Pt.slots] at X' e1 e2 h1 h2 h3 st
    subst h1; subst h2; subst h3
    exact Or.inl ⟨v, (T.setVm vm₁).calling g' mk As.toArray, t, U', L, hT, X', hL, e1, e2, hq, st⟩
  · dsimp only [Pt.U, Pt.locs, Pt.cells, Pt.slots] at X' e1 e2 h1 h2 h3 st hcl
    subst h1; subst h2; subst h3
    exact Or.inr ⟨q, (T.setVm vm₁).calling g' mk As.toArray, t, U', L, E, ce, hT, X', hL, e1, e2, hq, hce, hcv, vx_cls hW₁ hcl, st⟩
end
end VXH
theorem vx_ofWH {l : Launch} {y : MethodName} {ws ws' : List Cond} {rm : Room} {Pc : Array Value → State → Prop} {Qc : Array Value → State → Outcome → State → Prop} {XC : String → State → State → Prop} {mc ms : Nat} {free : Addr → Prop} {cc : ByteArray} {maxL : Nat} {ret : Option FieldType} {hh : List (Nat × Nat × Nat × Nat)}
    (hy : plainName y.cls = true) (hw : ws = Cond.codeWith y cc maxL ret hh :: ws')
    (body : ∀ p e s m args below meth c s₁, BodyLoose p l y (headSpec ws rm) cc maxL ret e s m args below meth c s₁ → c.maxLocals = maxL → Pc args s →
      W p l e (headSpec ws rm).room s m args below meth c s.heap [] 0 0 (vx_MQ below Qc XC args s mc ms free) (entryFrame m args maxL)) : vx_Met l y ws rm Pc Qc XC mc ms free := by
  refine MetFree.of_bodyS (code := cc) (maxLocals := maxL) (ret := ret) hy ?_ ?_
  · intro args s m h hn
    obtain ⟨m9, meth, c, hn9, h1, h2, h3, h4, -, h5, h6, -⟩ := Cond.codeWith_spec (atoms_spec (ws := ws) h _ (by rw [hw]; exact List.mem_cons_self))
    cases hn.symm.trans hn9
    exact ⟨meth, c, h1, h2, h3, h4, h5, h6⟩
  · intro p e s m args below meth c s₁ B hml hP _
    have hh0 : s₁.heap = s.heap := by rw [B.state]; rfl
    obtain ⟨t, a1, o, b1, b2, b3⟩ := body p e s m args below meth c s₁ B hml hP s₁ hh0 (Stand.of_body B)
    exact ⟨t, o, a1, b1, b2, b3⟩
/-! ===== END ===== -/
end
section
def R_P : String := "SweepHand$Piece"
def R_S : String := "SweepHand"
def R_M : String := "SweepHandModel"
def R_L : String := "SweepHandLaw"
def F_P : u_T := fun k => match k with
  | 0 => ("SweepHand$Piece", "begin", "I", true)
  | 1 => ("SweepHand$Piece", "size", "I", false)
  | 2 => ("SweepHand$Piece", "used", "Z", false)
  | 3 => ("SweepHand$Piece", "marked", "Z", false)
  | 4 => ("SweepHand$Piece", "freedAt", "J", false)
  | _ => ("SweepHand$Piece", "next", "LSweepHand$Piece;", false)
def t_P : Nat → FieldType := fun k => match k with
  | 0 => .int
  | 1 => .int
  | 2 => .boolean
  | 3 => .boolean
  | 4 => .long
  | _ => .object "SweepHand$Piece"
theorem n_P : ∀ a, a < 6 → ∀ b, b < 6 → a ≠ b → (F_P a).2.1 ≠ (F_P b).2.1 := by decide +kernel
theorem t_P_ok : ∀ k, k < 6 → parseFieldDescriptor (F_P k).2.2.1 = some (t_P k) := by decide +kernel
def F_S : u_T := fun k => match k with
  | 0 => ("SweepHand", "cells", "I", false)
  | 1 => ("SweepHand", "first", "LSweepHand$Piece;", false)
  | 2 => ("SweepHand", "atHand", "LSweepHand$Piece;", false)
  | 3 => ("SweepHand", "freeings", "J", false)
  | 4 => ("SweepHand", "takesInVain", "I", false)
  | 5 => ("SweepHand", "sweptPieces", "I", false)
  | _ => ("SweepHand", "endedSweeps", "I", false)
def t_S : Nat → FieldType := fun k => match k with
  | 0 => .int
  | 1 => .object "SweepHand$Piece"
  | 2 => .object "SweepHand$Piece"
  | 3 => .long
  | 4 => .int
  | 5 => .int
  | _ => .int
theorem n_S : ∀ a, a < 7 → ∀ b, b < 7 → a ≠ b → (F_S a).2.1 ≠ (F_S b).2.1 := by decide +kernel
theorem t_S_ok : ∀ k, k < 7 → parseFieldDescriptor (F_S k).2.2.1 = some (t_S k) := by decide +kernel
def F_M : u_T := fun k => match k with
  | 0 => ("SweepHandModel", "thrown", "I", false)
  | 1 => ("SweepHandModel", "cells", "I", false)
  | 2 => ("SweepHandModel", "sizes", "[I", true)
  | 3 => ("SweepHandModel", "times", "[I", true)
  | 4 => ("SweepHandModel", "marks", "[Z", true)
  | 5 => ("SweepHandModel", "now", "I", false)
  | 6 => ("SweepHandModel", "failures", "I", false)
  | 7 => ("SweepHandModel", "swept", "I", false)
  | 8 => ("SweepHandModel", "sweeps", "I", false)
  | _ => ("SweepHandModel", "hand", "I", false)
def t_M : Nat → FieldType := fun k => match k with
  | 0 => .int
  | 1 => .int
  | 2 => .array .int
  | 3 => .array .int
  | 4 => .array .boolean
  | 5 => .int
  | 6 => .int
  | 7 => .int
  | 8 => .int
  | _ => .int
theorem n_M : ∀ a, a < 10 → ∀ b, b < 10 → a ≠ b → (F_M a).2.1 ≠ (F_M b).2.1 := by decide +kernel
theorem t_M_ok : ∀ k, k < 10 → parseFieldDescriptor (F_M k).2.2.1 = some (t_M k) := by decide +kernel
abbrev b_S_init : ByteArray := prog_1_method_1_code
def y_S_init : MethodName := ⟨R_S, "<init>", "()V"⟩
abbrev b_S_space : ByteArray := prog_1_method_2_code
def y_S_space : MethodName := ⟨R_S, "space", "(I)I"⟩
abbrev b_S_take : ByteArray := prog_1_method_3_code
def y_S_take : MethodName := ⟨R_S, "take", "(I)I"⟩
abbrev b_S_give : ByteArray := prog_1_method_4_code
def y_S_give : MethodName := ⟨R_S, "give", "(I)I"⟩
abbrev b_S_mark : ByteArray := prog_1_method_5_code
def y_S_mark : MethodName := ⟨R_S, "mark", "(I)Z"⟩
abbrev b_S_unmark : ByteArray := prog_1_method_6_code
def y_S_unmark : MethodName := ⟨R_S, "unmark", "()I"⟩
abbrev b_S_begin : ByteArray := prog_1_method_7_code
def y_S_begin : MethodName := ⟨R_S, "begin", "()V"⟩
abbrev b_S_sweep : ByteArray := prog_1_method_8_code
def y_S_sweep : MethodName := ⟨R_S, "sweep", "(I)I"⟩
abbrev b_S_hand : ByteArray := prog_1_method_9_code
def y_S_hand : MethodName := ⟨R_S, "hand", "()I"⟩
abbrev b_S_piece : ByteArray := prog_1_method_10_code
def y_S_piece : MethodName := ⟨R_S, "piece", "(I)I"⟩
abbrev b_S_marked : ByteArray := prog_1_method_11_code
def y_S_marked : MethodName := ⟨R_S, "marked", "(I)Z"⟩
abbrev b_S_count : ByteArray := prog_1_method_12_code
def y_S_count : MethodName := ⟨R_S, "count", "(I)I"⟩
abbrev b_S_faults : ByteArray := prog_1_method_13_code
def y_S_faults : MethodName := ⟨R_S, "faults", "()I"⟩
abbrev b_S_startAnew : ByteArray := prog_1_method_14_code
def y_S_startAnew : MethodName := ⟨R_S, "startAnew", "(I)V"⟩
abbrev b_S_comeToBeFree : ByteArray := prog_1_method_15_code
def y_S_comeToBeFree : MethodName := ⟨R_S, "comeToBeFree", "(LSweepHand$Piece;)V"⟩
abbrev b_S_refuseDuringSweep : ByteArray := prog_1_method_16_code
def y_S_refuseDuringSweep : MethodName := ⟨R_S, "refuseDuringSweep", "()V"⟩
abbrev b_S_pieceAt : ByteArray := prog_1_method_17_code
def y_S_pieceAt : MethodName := ⟨R_S, "pieceAt", "(I)LSweepHand$Piece;"⟩
abbrev b_S_usedPieceAt : ByteArray := prog_1_method_18_code
def y_S_usedPieceAt : MethodName := ⟨R_S, "usedPieceAt", "(I)LSweepHand$Piece;"⟩
abbrev b_S_whatIsTakenFor : ByteArray := prog_1_method_19_code
def y_S_whatIsTakenFor : MethodName := ⟨R_S, "whatIsTakenFor", "(I)LSweepHand$Piece;"⟩
abbrev b_S_isTakenBefore : ByteArray := prog_1_method_20_code
def y_S_isTakenBefore : MethodName := ⟨R_S, "isTakenBefore", "(LSweepHand$Piece;LSweepHand$Piece;)Z"⟩
abbrev b_S_cutTo : ByteArray := prog_1_method_21_code
def y_S_cutTo : MethodName := ⟨R_S, "cutTo", "(LSweepHand$Piece;I)V"⟩
abbrev b_S_stepFrom : ByteArray := prog_1_method_22_code
def y_S_stepFrom : MethodName := ⟨R_S, "stepFrom", "(LSweepHand$Piece;)V"⟩
abbrev b_S_gatherFrom : ByteArray := prog_1_method_23_code
def y_S_gatherFrom : MethodName := ⟨R_S, "gatherFrom", "(LSweepHand$Piece;)V"⟩
abbrev b_S_sumOverPieces : ByteArray := prog_1_method_24_code
def y_S_sumOverPieces : MethodName := ⟨R_S, "sumOverPieces", "(I)I"⟩
abbrev b_S_shareOf : ByteArray := prog_1_method_25_code
def y_S_shareOf : MethodName := ⟨R_S, "shareOf", "(LSweepHand$Piece;I)I"⟩
abbrev b_S_greatestFree : ByteArray := prog_1_method_26_code
def y_S_greatestFree : MethodName := ⟨R_S, "greatestFree", "()I"⟩
abbrev b_S_isMarkRight : ByteArray := prog_1_method_27_code
def y_S_isMarkRight : MethodName := ⟨R_S, "isMarkRight", "(LSweepHand$Piece;Z)Z"⟩
abbrev b_S_isTimeRight : ByteArray := prog_1_method_28_code
def y_S_isTimeRight : MethodName := ⟨R_S, "isTimeRight", "(LSweepHand$Piece;)Z"⟩
abbrev b_M_init : ByteArray := prog_4_method_1_code
def y_M_init : MethodName := ⟨R_M, "<init>", "()V"⟩
abbrev b_M_thrown : ByteArray := prog_4_method_2_code
def y_M_thrown : MethodName := ⟨R_M, "thrown", "()I"⟩
abbrev b_M_goes : ByteArray := prog_4_method_3_code
def y_M_goes : MethodName := ⟨R_M, "goes", "(ZZ)Z"⟩
abbrev b_M_length : ByteArray := prog_4_method_4_code
def y_M_length : MethodName := ⟨R_M, "length", "(I)I"⟩
abbrev b_M_release : ByteArray := prog_4_method_5_code
def y_M_release : MethodName := ⟨R_M, "release", "(II)V"⟩
abbrev b_M_space : ByteArray := prog_4_method_6_code
def y_M_space : MethodName := ⟨R_M, "space", "(I)I"⟩
abbrev b_M_best : ByteArray := prog_4_method_7_code
def y_M_best : MethodName := ⟨R_M, "best", "(I)I"⟩
abbrev b_M_take : ByteArray := prog_4_method_8_code
def y_M_take : MethodName := ⟨R_M, "take", "(I)I"⟩
abbrev b_M_used : ByteArray := prog_4_method_9_code
def y_M_used : MethodName := ⟨R_M, "used", "(I)Z"⟩
abbrev b_M_give : ByteArray := prog_4_method_10_code
def y_M_give : MethodName := ⟨R_M, "give", "(I)I"⟩
abbrev b_M_mark : ByteArray := prog_4_method_11_code
def y_M_mark : MethodName := ⟨R_M, "mark", "(I)Z"⟩
abbrev b_M_marks : ByteArray := prog_4_method_12_code
def y_M_marks : MethodName := ⟨R_M, "marks", "()I"⟩
abbrev b_M_unmark : ByteArray := prog_4_method_13_code
def y_M_unmark : MethodName := ⟨R_M, "unmark", "()I"⟩
abbrev b_M_begin : ByteArray := prog_4_method_14_code
def y_M_begin : MethodName := ⟨R_M, "begin", "()V"⟩
abbrev b_M_step : ByteArray := prog_4_method_15_code
def y_M_step : MethodName := ⟨R_M, "step", "()V"⟩
abbrev b_M_sweep : ByteArray := prog_4_method_16_code
def y_M_sweep : MethodName := ⟨R_M, "sweep", "(I)I"⟩
abbrev b_M_hand : ByteArray := prog_4_method_17_code
def y_M_hand : MethodName := ⟨R_M, "hand", "()I"⟩
abbrev b_M_piece : ByteArray := prog_4_method_18_code
def y_M_piece : MethodName := ⟨R_M, "piece", "(I)I"⟩
abbrev b_M_marked : ByteArray := prog_4_method_19_code
def y_M_marked : MethodName := ⟨R_M, "marked", "(I)Z"⟩
abbrev b_M_greatest : ByteArray := prog_4_method_20_code
def y_M_greatest : MethodName := ⟨R_M, "greatest", "()I"⟩
abbrev b_M_count : ByteArray := prog_4_method_21_code
def y_M_count : MethodName := ⟨R_M, "count", "(I)I"⟩
abbrev b_M_faults : ByteArray := prog_4_method_22_code
def y_M_faults : MethodName := ⟨R_M, "faults", "()I"⟩
abbrev b_P_init : ByteArray := prog_2_method_1_code
def y_P_init : MethodName := ⟨R_P, "<init>", "(IILSweepHand$Piece;)V"⟩
abbrev b_P_end : ByteArray := prog_2_method_2_code
def y_P_end : MethodName := ⟨R_P, "end", "()I"⟩
abbrev b_P_isCrumb : ByteArray := prog_2_method_3_code
def y_P_isCrumb : MethodName := ⟨R_P, "isCrumb", "()Z"⟩
abbrev b_P_isFreeForTaking : ByteArray := prog_2_method_4_code
def y_P_isFreeForTaking : MethodName := ⟨R_P, "isFreeForTaking", "()Z"⟩
abbrev b_P_isKeptBySweep : ByteArray := prog_2_method_5_code
def y_P_isKeptBySweep : MethodName := ⟨R_P, "isKeptBySweep", "()Z"⟩
abbrev b_L_space : ByteArray := method_3_code
def y_L_space : MethodName := ⟨R_L, "space", "(LSweepHand;I[J)I"⟩
abbrev b_L_take : ByteArray := method_4_code
def y_L_take : MethodName := ⟨R_L, "take", "(LSweepHand;I[J)I"⟩
abbrev b_L_give : ByteArray := method_5_code
def y_L_give : MethodName := ⟨R_L, "give", "(LSweepHand;I[J)I"⟩
abbrev b_L_mark : ByteArray := method_6_code
def y_L_mark : MethodName := ⟨R_L, "mark", "(LSweepHand;I[J)I"⟩
abbrev b_L_unmark : ByteArray := method_7_code
def y_L_unmark : MethodName := ⟨R_L, "unmark", "(LSweepHand;[J)I"⟩
abbrev b_L_begin : ByteArray := method_8_code
def y_L_begin : MethodName := ⟨R_L, "begin", "(LSweepHand;)I"⟩
abbrev b_L_sweep : ByteArray := method_9_code
def y_L_sweep : MethodName := ⟨R_L, "sweep", "(LSweepHand;I[J)I"⟩
abbrev b_L_count : ByteArray := method_10_code
def y_L_count : MethodName := ⟨R_L, "count", "(LSweepHand;I[J)I"⟩
abbrev b_L_law : ByteArray := code
def y_L_law : MethodName := ⟨R_L, "law", "([I)Z"⟩
/-- the words of the tables that hold on as classes warm up -/
def GW : List Cond := lw_tbl.filter goodWord
theorem gw_good {w : Cond} (h : w ∈ GW) : (w.onTables && w.keeps) = true ∨ ∃ ty, w = .arrayClass ty := good_of_word (List.mem_filter.mp h).2
theorem gw_in {ws : List Cond} (h : ∀ w ∈ ws, w ∈ GW) : GoodIn GW ws := fun w hw => ⟨h w hw, gw_good (h w hw)⟩
theorem gw_c {c : Cond} (h : c ∈ GW) : GoodIn GW (c :: GW) := gw_in (fun w hw => (List.mem_cons.mp hw).elim (fun e => e ▸ h) id)
theorem gw_V {own C : String} {i : Nat} {y : MethodName} {c : Cond} (h1 : Cond.methodLink own i y ∈ GW) (h2 : Cond.instanceMethod y ∈ GW) (h3 : Cond.selects C y y ∈ GW) (h4 : Cond.initialized C ∈ GW) (h5 : c ∈ GW) : GoodIn GW (wsV own i C y (c :: GW)) := gw_in (fun w hw => by
  rcases List.mem_append.mp hw with h | h
  · simp only [List.mem_cons, List.not_mem_nil, or_false] at h
    rcases h with rfl | rfl | rfl | rfl <;> assumption
  · exact (List.mem_cons.mp h).elim (fun e => e ▸ h5) id)
theorem gw_S {own : String} {i : Nat} {y : MethodName} {c : Cond} (h1 : Cond.methodLink own i y ∈ GW) (h2 : Cond.static y ∈ GW) (h4 : Cond.initialized y.cls ∈ GW) (h5 : c ∈ GW) : GoodIn GW (va_wsS own i y (c :: GW)) := gw_in (fun w hw => by
  rcases List.mem_append.mp hw with h | h
  · simp only [List.mem_cons, List.not_mem_nil, or_false] at h
    rcases h with rfl | rfl | rfl <;> assumption
  · exact (List.mem_cons.mp h).elim (fun e => e ▸ h5) id)
end
section
theorem gw_0 : Cond.selects R_S y_S_startAnew y_S_startAnew ∈ GW := List.mem_filter.mpr ⟨List.mem_of_getElem? (i := 0) (by decide +kernel), by decide +kernel⟩
theorem gw_1 : Cond.selects R_S y_S_comeToBeFree y_S_comeToBeFree ∈ GW := List.mem_filter.mpr ⟨List.mem_of_getElem? (i := 1) (by decide +kernel), by decide +kernel⟩
theorem gw_2 : Cond.selects R_S y_S_pieceAt y_S_pieceAt ∈ GW := List.mem_filter.mpr ⟨List.mem_of_getElem? (i := 2) (by decide +kernel), by decide +kernel⟩
theorem gw_3 : Cond.selects R_S y_S_isTimeRight y_S_isTimeRight ∈ GW := List.mem_filter.mpr ⟨List.mem_of_getElem? (i := 3) (by decide +kernel), by decide +kernel⟩
theorem gw_4 : Cond.selects R_P y_P_end y_P_end ∈ GW := List.mem_filter.mpr ⟨List.mem_of_getElem? (i := 4) (by decide +kernel), by decide +kernel⟩
theorem gw_6 : Cond.selects R_S y_S_whatIsTakenFor y_S_whatIsTakenFor ∈ GW := List.mem_filter.mpr ⟨List.mem_of_getElem? (i := 6) (by decide +kernel), by decide +kernel⟩
theorem gw_7 : Cond.selects R_P y_P_isFreeForTaking y_P_isFreeForTaking ∈ GW := List.mem_filter.mpr ⟨List.mem_of_getElem? (i := 7) (by decide +kernel), by decide +kernel⟩
theorem gw_8 : Cond.selects R_S y_S_cutTo y_S_cutTo ∈ GW := List.mem_filter.mpr ⟨List.mem_of_getElem? (i := 8) (by decide +kernel), by decide +kernel⟩
theorem gw_9 : Cond.selects R_S y_S_usedPieceAt y_S_usedPieceAt ∈ GW := List.mem_filter.mpr ⟨List.mem_of_getElem? (i := 9) (by decide +kernel), by decide +kernel⟩
theorem gw_10 : Cond.selects R_S y_S_refuseDuringSweep y_S_refuseDuringSweep ∈ GW := List.mem_filter.mpr ⟨List.mem_of_getElem? (i := 10) (by decide +kernel), by decide +kernel⟩
theorem gw_11 : Cond.selects R_S y_S_stepFrom y_S_stepFrom ∈ GW := List.mem_filter.mpr ⟨List.mem_of_getElem? (i := 11) (by decide +kernel), by decide +kernel⟩
theorem gw_12 : Cond.selects R_P y_P_isKeptBySweep y_P_isKeptBySweep ∈ GW := List.mem_filter.mpr ⟨List.mem_of_getElem? (i := 12) (by decide +kernel), by decide +kernel⟩
theorem gw_13 : Cond.selects R_S y_S_gatherFrom y_S_gatherFrom ∈ GW := List.mem_filter.mpr ⟨List.mem_of_getElem? (i := 13) (by decide +kernel), by decide +kernel⟩
theorem gw_14 : Cond.selects R_S y_S_sumOverPieces y_S_sumOverPieces ∈ GW := List.mem_filter.mpr ⟨List.mem_of_getElem? (i := 14) (by decide +kernel), by decide +kernel⟩
theorem gw_15 : Cond.selects R_P y_P_isCrumb y_P_isCrumb ∈ GW := List.mem_filter.mpr ⟨List.mem_of_getElem? (i := 15) (by decide +kernel), by decide +kernel⟩
theorem gw_16 : Cond.selects R_S y_S_greatestFree y_S_greatestFree ∈ GW := List.mem_filter.mpr ⟨List.mem_of_getElem? (i := 16) (by decide +kernel), by decide +kernel⟩
theorem gw_17 : Cond.selects R_M y_M_goes y_M_goes ∈ GW := List.mem_filter.mpr ⟨List.mem_of_getElem? (i := 17) (by decide +kernel), by decide +kernel⟩
theorem gw_18 : Cond.selects R_M y_M_release y_M_release ∈ GW := List.mem_filter.mpr ⟨List.mem_of_getElem? (i := 18) (by decide +kernel), by decide +kernel⟩
theorem gw_19 : Cond.selects R_M y_M_best y_M_best ∈ GW := List.mem_filter.mpr ⟨List.mem_of_getElem? (i := 19) (by decide +kernel), by decide +kernel⟩
theorem gw_20 : Cond.selects R_M y_M_length y_M_length ∈ GW := List.mem_filter.mpr ⟨List.mem_of_getElem? (i := 20) (by decide +kernel), by decide +kernel⟩
theorem gw_21 : Cond.selects R_M y_M_used y_M_used ∈ GW := List.mem_filter.mpr ⟨List.mem_of_getElem? (i := 21) (by decide +kernel), by decide +kernel⟩
theorem gw_22 : Cond.selects R_M y_M_marks y_M_marks ∈ GW := List.mem_filter.mpr ⟨List.mem_of_getElem? (i := 22) (by decide +kernel), by decide +kernel⟩
theorem gw_23 : Cond.selects R_M y_M_step y_M_step ∈ GW := List.mem_filter.mpr ⟨List.mem_of_getElem? (i := 23) (by decide +kernel), by decide +kernel⟩
theorem gw_24 : Cond.selects R_M y_M_greatest y_M_greatest ∈ GW := List.mem_filter.mpr ⟨List.mem_of_getElem? (i := 24) (by decide +kernel), by decide +kernel⟩
theorem gw_25 : Cond.initialized R_L ∈ GW := List.mem_filter.mpr ⟨List.mem_of_getElem? (i := 25) (by decide +kernel), by decide +kernel⟩
theorem gw_26 : Cond.initialized R_S ∈ GW := List.mem_filter.mpr ⟨List.mem_of_getElem? (i := 26) (by decide +kernel), by decide +kernel⟩
theorem gw_27 : Cond.initialized R_P ∈ GW := List.mem_filter.mpr ⟨List.mem_of_getElem? (i := 27) (by decide +kernel), by decide +kernel⟩
theorem gw_28 : Cond.initialized R_M ∈ GW := List.mem_filter.mpr ⟨List.mem_of_getElem? (i := 28) (by decide +kernel), by decide +kernel⟩
theorem gw_29 : Cond.initialized "java/lang/Throwable" ∈ GW := List.mem_filter.mpr ⟨List.mem_of_getElem? (i := 29) (by decide +kernel), by decide +kernel⟩
theorem gw_30 : Cond.initialized "java/lang/Exception" ∈ GW := List.mem_filter.mpr ⟨List.mem_of_getElem? (i := 30) (by decide +kernel), by decide +kernel⟩
theorem gw_31 : Cond.initialized "java/lang/RuntimeException" ∈ GW := List.mem_filter.mpr ⟨List.mem_of_getElem? (i := 31) (by decide +kernel), by decide +kernel⟩
theorem gw_32 : Cond.initialized "java/lang/IllegalArgumentException" ∈ GW := List.mem_filter.mpr ⟨List.mem_of_getElem? (i := 32) (by decide +kernel), by decide +kernel⟩
theorem gw_33 : Cond.initialized "java/util/NoSuchElementException" ∈ GW := List.mem_filter.mpr ⟨List.mem_of_getElem? (i := 33) (by decide +kernel), by decide +kernel⟩
theorem gw_34 : Cond.initialized "java/lang/IllegalStateException" ∈ GW := List.mem_filter.mpr ⟨List.mem_of_getElem? (i := 34) (by decide +kernel), by decide +kernel⟩
theorem gw_35 : Cond.classLink R_L 8 R_S ∈ GW := List.mem_filter.mpr ⟨List.mem_of_getElem? (i := 35) (by decide +kernel), by decide +kernel⟩
theorem gw_36 : Cond.instantiable R_S 7 ∈ GW := List.mem_filter.mpr ⟨List.mem_of_getElem? (i := 36) (by decide +kernel), by decide +kernel⟩
theorem gw_37 : Cond.methodLink R_L 42 y_S_init ∈ GW := List.mem_filter.mpr ⟨List.mem_of_getElem? (i := 37) (by decide +kernel), by decide +kernel⟩
theorem gw_38 : Cond.instanceMethod y_S_init ∈ GW := List.mem_filter.mpr ⟨List.mem_of_getElem? (i := 38) (by decide +kernel), by decide +kernel⟩
theorem gw_39 : Cond.code y_S_init b_S_init 1 none ∈ GW := List.mem_filter.mpr ⟨List.mem_of_getElem? (i := 39) (by decide +kernel), by decide +kernel⟩
theorem gw_40 : Cond.methodLink R_S 1 objectInit ∈ GW := List.mem_filter.mpr ⟨List.mem_of_getElem? (i := 40) (by decide +kernel), by decide +kernel⟩
theorem gw_41 : Cond.instanceMethod objectInit ∈ GW := List.mem_filter.mpr ⟨List.mem_of_getElem? (i := 41) (by decide +kernel), by decide +kernel⟩
theorem gw_42 : Cond.code objectInit ⟨#[0xb1]⟩ 1 none ∈ GW := List.mem_filter.mpr ⟨List.mem_of_getElem? (i := 42) (by decide +kernel), by decide +kernel⟩
theorem gw_43 : Cond.methodLink R_S 9 y_S_startAnew ∈ GW := List.mem_filter.mpr ⟨List.mem_of_getElem? (i := 43) (by decide +kernel), by decide +kernel⟩
theorem gw_45 : Cond.instanceMethod y_S_startAnew ∈ GW := List.mem_filter.mpr ⟨List.mem_of_getElem? (i := 45) (by decide +kernel), by decide +kernel⟩
theorem gw_46 : Cond.code y_S_startAnew b_S_startAnew 2 none ∈ GW := List.mem_filter.mpr ⟨List.mem_of_getElem? (i := 46) (by decide +kernel), by decide +kernel⟩
theorem gw_47 : Cond.classLink R_S 38 R_P ∈ GW := List.mem_filter.mpr ⟨List.mem_of_getElem? (i := 47) (by decide +kernel), by decide +kernel⟩
theorem gw_48 : Cond.instantiable R_P 6 ∈ GW := List.mem_filter.mpr ⟨List.mem_of_getElem? (i := 48) (by decide +kernel), by decide +kernel⟩
theorem gw_50 : Cond.instanceMethod y_P_init ∈ GW := List.mem_filter.mpr ⟨List.mem_of_getElem? (i := 50) (by decide +kernel), by decide +kernel⟩
theorem gw_51 : Cond.code y_P_init b_P_init 4 none ∈ GW := List.mem_filter.mpr ⟨List.mem_of_getElem? (i := 51) (by decide +kernel), by decide +kernel⟩
theorem gw_52 : Cond.methodLink R_P 3 objectInit ∈ GW := List.mem_filter.mpr ⟨List.mem_of_getElem? (i := 52) (by decide +kernel), by decide +kernel⟩
theorem gw_53 : Cond.fieldLink R_P 9 "SweepHand$Piece" "begin" "I" ∈ GW := List.mem_filter.mpr ⟨List.mem_of_getElem? (i := 53) (by decide +kernel), by decide +kernel⟩
theorem gw_55 : Cond.fieldLink R_P 15 "SweepHand$Piece" "size" "I" ∈ GW := List.mem_filter.mpr ⟨List.mem_of_getElem? (i := 55) (by decide +kernel), by decide +kernel⟩
theorem gw_57 : Cond.fieldLink R_P 22 "SweepHand$Piece" "used" "Z" ∈ GW := List.mem_filter.mpr ⟨List.mem_of_getElem? (i := 57) (by decide +kernel), by decide +kernel⟩
theorem gw_60 : Cond.fieldLink R_P 26 "SweepHand$Piece" "marked" "Z" ∈ GW := List.mem_filter.mpr ⟨List.mem_of_getElem? (i := 60) (by decide +kernel), by decide +kernel⟩
theorem gw_62 : Cond.fieldLink R_P 18 "SweepHand$Piece" "next" "LSweepHand$Piece;" ∈ GW := List.mem_filter.mpr ⟨List.mem_of_getElem? (i := 62) (by decide +kernel), by decide +kernel⟩
theorem gw_77 : Cond.methodLink R_S 56 y_S_comeToBeFree ∈ GW := List.mem_filter.mpr ⟨List.mem_of_getElem? (i := 77) (by decide +kernel), by decide +kernel⟩
theorem gw_79 : Cond.instanceMethod y_S_comeToBeFree ∈ GW := List.mem_filter.mpr ⟨List.mem_of_getElem? (i := 79) (by decide +kernel), by decide +kernel⟩
theorem gw_80 : Cond.code y_S_comeToBeFree b_S_comeToBeFree 2 none ∈ GW := List.mem_filter.mpr ⟨List.mem_of_getElem? (i := 80) (by decide +kernel), by decide +kernel⟩
theorem gw_81 : Cond.fieldLink R_S 20 "SweepHand" "cells" "I" ∈ GW := List.mem_filter.mpr ⟨List.mem_of_getElem? (i := 81) (by decide +kernel), by decide +kernel⟩
theorem gw_82 : Cond.fieldLink R_S 66 "SweepHand" "first" "LSweepHand$Piece;" ∈ GW := List.mem_filter.mpr ⟨List.mem_of_getElem? (i := 82) (by decide +kernel), by decide +kernel⟩
theorem gw_83 : Cond.fieldLink R_S 43 "SweepHand" "atHand" "LSweepHand$Piece;" ∈ GW := List.mem_filter.mpr ⟨List.mem_of_getElem? (i := 83) (by decide +kernel), by decide +kernel⟩
theorem gw_84 : Cond.fieldLink R_S 110 "SweepHand" "freeings" "J" ∈ GW := List.mem_filter.mpr ⟨List.mem_of_getElem? (i := 84) (by decide +kernel), by decide +kernel⟩
theorem gw_85 : Cond.fieldLink R_S 30 "SweepHand" "takesInVain" "I" ∈ GW := List.mem_filter.mpr ⟨List.mem_of_getElem? (i := 85) (by decide +kernel), by decide +kernel⟩
theorem gw_86 : Cond.fieldLink R_S 88 "SweepHand" "sweptPieces" "I" ∈ GW := List.mem_filter.mpr ⟨List.mem_of_getElem? (i := 86) (by decide +kernel), by decide +kernel⟩
theorem gw_87 : Cond.fieldLink R_S 91 "SweepHand" "endedSweeps" "I" ∈ GW := List.mem_filter.mpr ⟨List.mem_of_getElem? (i := 87) (by decide +kernel), by decide +kernel⟩
theorem gw_103 : Cond.methodLink R_L 75 y_S_hand ∈ GW := List.mem_filter.mpr ⟨List.mem_of_getElem? (i := 103) (by decide +kernel), by decide +kernel⟩
theorem gw_104 : Cond.instanceMethod y_S_hand ∈ GW := List.mem_filter.mpr ⟨List.mem_of_getElem? (i := 104) (by decide +kernel), by decide +kernel⟩
theorem gw_105 : Cond.selects R_S y_S_hand y_S_hand ∈ GW := List.mem_filter.mpr ⟨List.mem_of_getElem? (i := 105) (by decide +kernel), by decide +kernel⟩
theorem gw_106 : Cond.code y_S_hand b_S_hand 1 (some .int) ∈ GW := List.mem_filter.mpr ⟨List.mem_of_getElem? (i := 106) (by decide +kernel), by decide +kernel⟩
theorem gw_107 : Cond.methodLink R_L 79 y_S_piece ∈ GW := List.mem_filter.mpr ⟨List.mem_of_getElem? (i := 107) (by decide +kernel), by decide +kernel⟩
theorem gw_108 : Cond.instanceMethod y_S_piece ∈ GW := List.mem_filter.mpr ⟨List.mem_of_getElem? (i := 108) (by decide +kernel), by decide +kernel⟩
theorem gw_109 : Cond.selects R_S y_S_piece y_S_piece ∈ GW := List.mem_filter.mpr ⟨List.mem_of_getElem? (i := 109) (by decide +kernel), by decide +kernel⟩
theorem gw_110 : Cond.code y_S_piece b_S_piece 3 (some .int) ∈ GW := List.mem_filter.mpr ⟨List.mem_of_getElem? (i := 110) (by decide +kernel), by decide +kernel⟩
theorem gw_111 : Cond.methodLink R_S 77 y_S_pieceAt ∈ GW := List.mem_filter.mpr ⟨List.mem_of_getElem? (i := 111) (by decide +kernel), by decide +kernel⟩
theorem gw_113 : Cond.instanceMethod y_S_pieceAt ∈ GW := List.mem_filter.mpr ⟨List.mem_of_getElem? (i := 113) (by decide +kernel), by decide +kernel⟩
theorem gw_114 : Cond.code y_S_pieceAt b_S_pieceAt 3 (some (.object "SweepHand$Piece")) ∈ GW := List.mem_filter.mpr ⟨List.mem_of_getElem? (i := 114) (by decide +kernel), by decide +kernel⟩
theorem gw_115 : Cond.methodLink R_L 83 y_S_marked ∈ GW := List.mem_filter.mpr ⟨List.mem_of_getElem? (i := 115) (by decide +kernel), by decide +kernel⟩
theorem gw_116 : Cond.instanceMethod y_S_marked ∈ GW := List.mem_filter.mpr ⟨List.mem_of_getElem? (i := 116) (by decide +kernel), by decide +kernel⟩
theorem gw_117 : Cond.selects R_S y_S_marked y_S_marked ∈ GW := List.mem_filter.mpr ⟨List.mem_of_getElem? (i := 117) (by decide +kernel), by decide +kernel⟩
theorem gw_118 : Cond.code y_S_marked b_S_marked 3 (some .boolean) ∈ GW := List.mem_filter.mpr ⟨List.mem_of_getElem? (i := 118) (by decide +kernel), by decide +kernel⟩
theorem gw_119 : Cond.methodLink R_L 90 y_S_faults ∈ GW := List.mem_filter.mpr ⟨List.mem_of_getElem? (i := 119) (by decide +kernel), by decide +kernel⟩
theorem gw_120 : Cond.instanceMethod y_S_faults ∈ GW := List.mem_filter.mpr ⟨List.mem_of_getElem? (i := 120) (by decide +kernel), by decide +kernel⟩
theorem gw_121 : Cond.selects R_S y_S_faults y_S_faults ∈ GW := List.mem_filter.mpr ⟨List.mem_of_getElem? (i := 121) (by decide +kernel), by decide +kernel⟩
theorem gw_122 : Cond.code y_S_faults b_S_faults 5 (some .int) ∈ GW := List.mem_filter.mpr ⟨List.mem_of_getElem? (i := 122) (by decide +kernel), by decide +kernel⟩
theorem gw_123 : Cond.methodLink R_S 96 y_S_isMarkRight ∈ GW := List.mem_filter.mpr ⟨List.mem_of_getElem? (i := 123) (by decide +kernel), by decide +kernel⟩
theorem gw_124 : Cond.static y_S_isMarkRight ∈ GW := List.mem_filter.mpr ⟨List.mem_of_getElem? (i := 124) (by decide +kernel), by decide +kernel⟩
theorem gw_125 : Cond.code y_S_isMarkRight b_S_isMarkRight 2 (some .boolean) ∈ GW := List.mem_filter.mpr ⟨List.mem_of_getElem? (i := 125) (by decide +kernel), by decide +kernel⟩
theorem gw_126 : Cond.methodLink R_S 100 y_S_isTimeRight ∈ GW := List.mem_filter.mpr ⟨List.mem_of_getElem? (i := 126) (by decide +kernel), by decide +kernel⟩
theorem gw_128 : Cond.instanceMethod y_S_isTimeRight ∈ GW := List.mem_filter.mpr ⟨List.mem_of_getElem? (i := 128) (by decide +kernel), by decide +kernel⟩
theorem gw_129 : Cond.code y_S_isTimeRight b_S_isTimeRight 2 (some .boolean) ∈ GW := List.mem_filter.mpr ⟨List.mem_of_getElem? (i := 129) (by decide +kernel), by decide +kernel⟩
theorem gw_132 : Cond.instanceMethod y_P_end ∈ GW := List.mem_filter.mpr ⟨List.mem_of_getElem? (i := 132) (by decide +kernel), by decide +kernel⟩
theorem gw_133 : Cond.code y_P_end b_P_end 1 (some .int) ∈ GW := List.mem_filter.mpr ⟨List.mem_of_getElem? (i := 133) (by decide +kernel), by decide +kernel⟩
theorem gw_134 : Cond.methodLink R_L 46 y_L_space ∈ GW := List.mem_filter.mpr ⟨List.mem_of_getElem? (i := 134) (by decide +kernel), by decide +kernel⟩
theorem gw_135 : Cond.static y_L_space ∈ GW := List.mem_filter.mpr ⟨List.mem_of_getElem? (i := 135) (by decide +kernel), by decide +kernel⟩
theorem gw_136 : Cond.codeWith y_L_space b_L_space 4 (some .int) [(0, 9, 12, 13)] ∈ GW := List.mem_filter.mpr ⟨List.mem_of_getElem? (i := 136) (by decide +kernel), by decide +kernel⟩
theorem gw_137 : Cond.classLink R_L 13 "java/lang/IllegalArgumentException" ∈ GW := List.mem_filter.mpr ⟨List.mem_of_getElem? (i := 137) (by decide +kernel), by decide +kernel⟩
theorem gw_138 : Cond.methodLink R_L 7 y_S_space ∈ GW := List.mem_filter.mpr ⟨List.mem_of_getElem? (i := 138) (by decide +kernel), by decide +kernel⟩
theorem gw_139 : Cond.instanceMethod y_S_space ∈ GW := List.mem_filter.mpr ⟨List.mem_of_getElem? (i := 139) (by decide +kernel), by decide +kernel⟩
theorem gw_140 : Cond.selects R_S y_S_space y_S_space ∈ GW := List.mem_filter.mpr ⟨List.mem_of_getElem? (i := 140) (by decide +kernel), by decide +kernel⟩
theorem gw_141 : Cond.code y_S_space b_S_space 3 (some .int) ∈ GW := List.mem_filter.mpr ⟨List.mem_of_getElem? (i := 141) (by decide +kernel), by decide +kernel⟩
theorem gw_142 : Cond.classLink R_S 13 "java/lang/IllegalArgumentException" ∈ GW := List.mem_filter.mpr ⟨List.mem_of_getElem? (i := 142) (by decide +kernel), by decide +kernel⟩
theorem gw_143 : Cond.instantiable "java/lang/IllegalArgumentException" 6 ∈ GW := List.mem_filter.mpr ⟨List.mem_of_getElem? (i := 143) (by decide +kernel), by decide +kernel⟩
theorem gw_163 : Cond.fieldLink "java/lang/Throwable" 198 "java/lang/Throwable" "backtrace" "Ljava/lang/Object;" ∈ GW := List.mem_filter.mpr ⟨List.mem_of_getElem? (i := 163) (by decide +kernel), by decide +kernel⟩
theorem gw_167 : Cond.methodLink "java/lang/Throwable" 1 objectInit ∈ GW := List.mem_filter.mpr ⟨List.mem_of_getElem? (i := 167) (by decide +kernel), by decide +kernel⟩
theorem gw_168 : Cond.fieldLink "java/lang/Throwable" 13 "java/lang/Throwable" "UNASSIGNED_STACK" "[Ljava/lang/StackTraceElement;" ∈ GW := List.mem_filter.mpr ⟨List.mem_of_getElem? (i := 168) (by decide +kernel), by decide +kernel⟩
theorem gw_170 : Cond.fieldLink "java/lang/Throwable" 20 "java/lang/Throwable" "SUPPRESSED_SENTINEL" "Ljava/util/List;" ∈ GW := List.mem_filter.mpr ⟨List.mem_of_getElem? (i := 170) (by decide +kernel), by decide +kernel⟩
theorem gw_181 : Cond.instantiable "java/lang/Throwable" 6 ∈ GW := List.mem_filter.mpr ⟨List.mem_of_getElem? (i := 181) (by decide +kernel), by decide +kernel⟩
theorem gw_196 : Cond.fieldLink "java/lang/Throwable" 198 "java/lang/Throwable" "backtrace" "Ljava/lang/Object;" ∈ GW := List.mem_filter.mpr ⟨List.mem_of_getElem? (i := 196) (by decide +kernel), by decide +kernel⟩
theorem gw_197 : Cond.fieldLink "java/lang/Throwable" 31 "java/lang/Throwable" "detailMessage" "Ljava/lang/String;" ∈ GW := List.mem_filter.mpr ⟨List.mem_of_getElem? (i := 197) (by decide +kernel), by decide +kernel⟩
theorem gw_198 : Cond.fieldLink "java/lang/Throwable" 7 "java/lang/Throwable" "cause" "Ljava/lang/Throwable;" ∈ GW := List.mem_filter.mpr ⟨List.mem_of_getElem? (i := 198) (by decide +kernel), by decide +kernel⟩
theorem gw_199 : Cond.fieldLink "java/lang/Throwable" 17 "java/lang/Throwable" "stackTrace" "[Ljava/lang/StackTraceElement;" ∈ GW := List.mem_filter.mpr ⟨List.mem_of_getElem? (i := 199) (by decide +kernel), by decide +kernel⟩
theorem gw_200 : Cond.fieldLink "java/lang/Throwable" 24 "java/lang/Throwable" "suppressedExceptions" "Ljava/util/List;" ∈ GW := List.mem_filter.mpr ⟨List.mem_of_getElem? (i := 200) (by decide +kernel), by decide +kernel⟩
theorem gw_209 : Cond.arrayClass .byte ∈ GW := List.mem_filter.mpr ⟨List.mem_of_getElem? (i := 209) (by decide +kernel), by decide +kernel⟩
theorem gw_210 : Cond.methodLink R_L 55 y_L_take ∈ GW := List.mem_filter.mpr ⟨List.mem_of_getElem? (i := 210) (by decide +kernel), by decide +kernel⟩
theorem gw_211 : Cond.static y_L_take ∈ GW := List.mem_filter.mpr ⟨List.mem_of_getElem? (i := 211) (by decide +kernel), by decide +kernel⟩
theorem gw_212 : Cond.codeWith y_L_take b_L_take 4 (some .int) [(0, 9, 12, 13)] ∈ GW := List.mem_filter.mpr ⟨List.mem_of_getElem? (i := 212) (by decide +kernel), by decide +kernel⟩
theorem gw_213 : Cond.methodLink R_L 15 y_S_take ∈ GW := List.mem_filter.mpr ⟨List.mem_of_getElem? (i := 213) (by decide +kernel), by decide +kernel⟩
theorem gw_214 : Cond.instanceMethod y_S_take ∈ GW := List.mem_filter.mpr ⟨List.mem_of_getElem? (i := 214) (by decide +kernel), by decide +kernel⟩
theorem gw_215 : Cond.selects R_S y_S_take y_S_take ∈ GW := List.mem_filter.mpr ⟨List.mem_of_getElem? (i := 215) (by decide +kernel), by decide +kernel⟩
theorem gw_216 : Cond.code y_S_take b_S_take 3 (some .int) ∈ GW := List.mem_filter.mpr ⟨List.mem_of_getElem? (i := 216) (by decide +kernel), by decide +kernel⟩
theorem gw_218 : Cond.methodLink R_S 26 y_S_whatIsTakenFor ∈ GW := List.mem_filter.mpr ⟨List.mem_of_getElem? (i := 218) (by decide +kernel), by decide +kernel⟩
theorem gw_220 : Cond.instanceMethod y_S_whatIsTakenFor ∈ GW := List.mem_filter.mpr ⟨List.mem_of_getElem? (i := 220) (by decide +kernel), by decide +kernel⟩
theorem gw_221 : Cond.code y_S_whatIsTakenFor b_S_whatIsTakenFor 4 (some (.object "SweepHand$Piece")) ∈ GW := List.mem_filter.mpr ⟨List.mem_of_getElem? (i := 221) (by decide +kernel), by decide +kernel⟩
theorem gw_224 : Cond.instanceMethod y_P_isFreeForTaking ∈ GW := List.mem_filter.mpr ⟨List.mem_of_getElem? (i := 224) (by decide +kernel), by decide +kernel⟩
theorem gw_225 : Cond.code y_P_isFreeForTaking b_P_isFreeForTaking 1 (some .boolean) ∈ GW := List.mem_filter.mpr ⟨List.mem_of_getElem? (i := 225) (by decide +kernel), by decide +kernel⟩
theorem gw_226 : Cond.methodLink R_S 131 y_S_isTakenBefore ∈ GW := List.mem_filter.mpr ⟨List.mem_of_getElem? (i := 226) (by decide +kernel), by decide +kernel⟩
theorem gw_227 : Cond.static y_S_isTakenBefore ∈ GW := List.mem_filter.mpr ⟨List.mem_of_getElem? (i := 227) (by decide +kernel), by decide +kernel⟩
theorem gw_228 : Cond.code y_S_isTakenBefore b_S_isTakenBefore 2 (some .boolean) ∈ GW := List.mem_filter.mpr ⟨List.mem_of_getElem? (i := 228) (by decide +kernel), by decide +kernel⟩
theorem gw_229 : Cond.methodLink R_S 33 y_S_cutTo ∈ GW := List.mem_filter.mpr ⟨List.mem_of_getElem? (i := 229) (by decide +kernel), by decide +kernel⟩
theorem gw_231 : Cond.instanceMethod y_S_cutTo ∈ GW := List.mem_filter.mpr ⟨List.mem_of_getElem? (i := 231) (by decide +kernel), by decide +kernel⟩
theorem gw_232 : Cond.code y_S_cutTo b_S_cutTo 4 none ∈ GW := List.mem_filter.mpr ⟨List.mem_of_getElem? (i := 232) (by decide +kernel), by decide +kernel⟩
theorem gw_233 : Cond.methodLink R_L 58 y_L_give ∈ GW := List.mem_filter.mpr ⟨List.mem_of_getElem? (i := 233) (by decide +kernel), by decide +kernel⟩
theorem gw_234 : Cond.static y_L_give ∈ GW := List.mem_filter.mpr ⟨List.mem_of_getElem? (i := 234) (by decide +kernel), by decide +kernel⟩
theorem gw_235 : Cond.codeWith y_L_give b_L_give 4 (some .int) [(0, 9, 12, 21)] ∈ GW := List.mem_filter.mpr ⟨List.mem_of_getElem? (i := 235) (by decide +kernel), by decide +kernel⟩
theorem gw_236 : Cond.classLink R_L 21 "java/util/NoSuchElementException" ∈ GW := List.mem_filter.mpr ⟨List.mem_of_getElem? (i := 236) (by decide +kernel), by decide +kernel⟩
theorem gw_237 : Cond.methodLink R_L 18 y_S_give ∈ GW := List.mem_filter.mpr ⟨List.mem_of_getElem? (i := 237) (by decide +kernel), by decide +kernel⟩
theorem gw_238 : Cond.instanceMethod y_S_give ∈ GW := List.mem_filter.mpr ⟨List.mem_of_getElem? (i := 238) (by decide +kernel), by decide +kernel⟩
theorem gw_239 : Cond.selects R_S y_S_give y_S_give ∈ GW := List.mem_filter.mpr ⟨List.mem_of_getElem? (i := 239) (by decide +kernel), by decide +kernel⟩
theorem gw_240 : Cond.code y_S_give b_S_give 3 (some .int) ∈ GW := List.mem_filter.mpr ⟨List.mem_of_getElem? (i := 240) (by decide +kernel), by decide +kernel⟩
theorem gw_241 : Cond.methodLink R_S 53 y_S_usedPieceAt ∈ GW := List.mem_filter.mpr ⟨List.mem_of_getElem? (i := 241) (by decide +kernel), by decide +kernel⟩
theorem gw_243 : Cond.instanceMethod y_S_usedPieceAt ∈ GW := List.mem_filter.mpr ⟨List.mem_of_getElem? (i := 243) (by decide +kernel), by decide +kernel⟩
theorem gw_244 : Cond.code y_S_usedPieceAt b_S_usedPieceAt 3 (some (.object "SweepHand$Piece")) ∈ GW := List.mem_filter.mpr ⟨List.mem_of_getElem? (i := 244) (by decide +kernel), by decide +kernel⟩
theorem gw_245 : Cond.classLink R_S 122 "java/util/NoSuchElementException" ∈ GW := List.mem_filter.mpr ⟨List.mem_of_getElem? (i := 245) (by decide +kernel), by decide +kernel⟩
theorem gw_246 : Cond.instantiable "java/util/NoSuchElementException" 6 ∈ GW := List.mem_filter.mpr ⟨List.mem_of_getElem? (i := 246) (by decide +kernel), by decide +kernel⟩
theorem gw_261 : Cond.methodLink R_L 61 y_L_mark ∈ GW := List.mem_filter.mpr ⟨List.mem_of_getElem? (i := 261) (by decide +kernel), by decide +kernel⟩
theorem gw_262 : Cond.static y_L_mark ∈ GW := List.mem_filter.mpr ⟨List.mem_of_getElem? (i := 262) (by decide +kernel), by decide +kernel⟩
theorem gw_263 : Cond.codeWith y_L_mark b_L_mark 4 (some .int) [(0, 16, 19, 21), (0, 16, 22, 27)] ∈ GW := List.mem_filter.mpr ⟨List.mem_of_getElem? (i := 263) (by decide +kernel), by decide +kernel⟩
theorem gw_264 : Cond.classLink R_L 27 "java/lang/IllegalStateException" ∈ GW := List.mem_filter.mpr ⟨List.mem_of_getElem? (i := 264) (by decide +kernel), by decide +kernel⟩
theorem gw_265 : Cond.methodLink R_L 23 y_S_mark ∈ GW := List.mem_filter.mpr ⟨List.mem_of_getElem? (i := 265) (by decide +kernel), by decide +kernel⟩
theorem gw_266 : Cond.instanceMethod y_S_mark ∈ GW := List.mem_filter.mpr ⟨List.mem_of_getElem? (i := 266) (by decide +kernel), by decide +kernel⟩
theorem gw_267 : Cond.selects R_S y_S_mark y_S_mark ∈ GW := List.mem_filter.mpr ⟨List.mem_of_getElem? (i := 267) (by decide +kernel), by decide +kernel⟩
theorem gw_268 : Cond.code y_S_mark b_S_mark 4 (some .boolean) ∈ GW := List.mem_filter.mpr ⟨List.mem_of_getElem? (i := 268) (by decide +kernel), by decide +kernel⟩
theorem gw_269 : Cond.methodLink R_S 63 y_S_refuseDuringSweep ∈ GW := List.mem_filter.mpr ⟨List.mem_of_getElem? (i := 269) (by decide +kernel), by decide +kernel⟩
theorem gw_271 : Cond.instanceMethod y_S_refuseDuringSweep ∈ GW := List.mem_filter.mpr ⟨List.mem_of_getElem? (i := 271) (by decide +kernel), by decide +kernel⟩
theorem gw_272 : Cond.code y_S_refuseDuringSweep b_S_refuseDuringSweep 1 none ∈ GW := List.mem_filter.mpr ⟨List.mem_of_getElem? (i := 272) (by decide +kernel), by decide +kernel⟩
theorem gw_273 : Cond.classLink R_S 117 "java/lang/IllegalStateException" ∈ GW := List.mem_filter.mpr ⟨List.mem_of_getElem? (i := 273) (by decide +kernel), by decide +kernel⟩
theorem gw_274 : Cond.instantiable "java/lang/IllegalStateException" 6 ∈ GW := List.mem_filter.mpr ⟨List.mem_of_getElem? (i := 274) (by decide +kernel), by decide +kernel⟩
theorem gw_289 : Cond.methodLink R_L 64 y_L_unmark ∈ GW := List.mem_filter.mpr ⟨List.mem_of_getElem? (i := 289) (by decide +kernel), by decide +kernel⟩
theorem gw_290 : Cond.static y_L_unmark ∈ GW := List.mem_filter.mpr ⟨List.mem_of_getElem? (i := 290) (by decide +kernel), by decide +kernel⟩
theorem gw_291 : Cond.codeWith y_L_unmark b_L_unmark 3 (some .int) [(0, 8, 11, 27)] ∈ GW := List.mem_filter.mpr ⟨List.mem_of_getElem? (i := 291) (by decide +kernel), by decide +kernel⟩
theorem gw_292 : Cond.methodLink R_L 29 y_S_unmark ∈ GW := List.mem_filter.mpr ⟨List.mem_of_getElem? (i := 292) (by decide +kernel), by decide +kernel⟩
theorem gw_293 : Cond.instanceMethod y_S_unmark ∈ GW := List.mem_filter.mpr ⟨List.mem_of_getElem? (i := 293) (by decide +kernel), by decide +kernel⟩
theorem gw_294 : Cond.selects R_S y_S_unmark y_S_unmark ∈ GW := List.mem_filter.mpr ⟨List.mem_of_getElem? (i := 294) (by decide +kernel), by decide +kernel⟩
theorem gw_295 : Cond.code y_S_unmark b_S_unmark 3 (some .int) ∈ GW := List.mem_filter.mpr ⟨List.mem_of_getElem? (i := 295) (by decide +kernel), by decide +kernel⟩
theorem gw_296 : Cond.methodLink R_L 68 y_L_begin ∈ GW := List.mem_filter.mpr ⟨List.mem_of_getElem? (i := 296) (by decide +kernel), by decide +kernel⟩
theorem gw_297 : Cond.static y_L_begin ∈ GW := List.mem_filter.mpr ⟨List.mem_of_getElem? (i := 297) (by decide +kernel), by decide +kernel⟩
theorem gw_298 : Cond.codeWith y_L_begin b_L_begin 2 (some .int) [(0, 4, 7, 27)] ∈ GW := List.mem_filter.mpr ⟨List.mem_of_getElem? (i := 298) (by decide +kernel), by decide +kernel⟩
theorem gw_299 : Cond.methodLink R_L 33 y_S_begin ∈ GW := List.mem_filter.mpr ⟨List.mem_of_getElem? (i := 299) (by decide +kernel), by decide +kernel⟩
theorem gw_300 : Cond.instanceMethod y_S_begin ∈ GW := List.mem_filter.mpr ⟨List.mem_of_getElem? (i := 300) (by decide +kernel), by decide +kernel⟩
theorem gw_301 : Cond.selects R_S y_S_begin y_S_begin ∈ GW := List.mem_filter.mpr ⟨List.mem_of_getElem? (i := 301) (by decide +kernel), by decide +kernel⟩
theorem gw_302 : Cond.code y_S_begin b_S_begin 1 none ∈ GW := List.mem_filter.mpr ⟨List.mem_of_getElem? (i := 302) (by decide +kernel), by decide +kernel⟩
theorem gw_303 : Cond.methodLink R_L 72 y_L_sweep ∈ GW := List.mem_filter.mpr ⟨List.mem_of_getElem? (i := 303) (by decide +kernel), by decide +kernel⟩
theorem gw_304 : Cond.static y_L_sweep ∈ GW := List.mem_filter.mpr ⟨List.mem_of_getElem? (i := 304) (by decide +kernel), by decide +kernel⟩
theorem gw_305 : Cond.codeWith y_L_sweep b_L_sweep 4 (some .int) [(0, 9, 12, 13)] ∈ GW := List.mem_filter.mpr ⟨List.mem_of_getElem? (i := 305) (by decide +kernel), by decide +kernel⟩
theorem gw_306 : Cond.methodLink R_L 36 y_S_sweep ∈ GW := List.mem_filter.mpr ⟨List.mem_of_getElem? (i := 306) (by decide +kernel), by decide +kernel⟩
theorem gw_307 : Cond.instanceMethod y_S_sweep ∈ GW := List.mem_filter.mpr ⟨List.mem_of_getElem? (i := 307) (by decide +kernel), by decide +kernel⟩
theorem gw_308 : Cond.selects R_S y_S_sweep y_S_sweep ∈ GW := List.mem_filter.mpr ⟨List.mem_of_getElem? (i := 308) (by decide +kernel), by decide +kernel⟩
theorem gw_309 : Cond.code y_S_sweep b_S_sweep 3 (some .int) ∈ GW := List.mem_filter.mpr ⟨List.mem_of_getElem? (i := 309) (by decide +kernel), by decide +kernel⟩
theorem gw_311 : Cond.methodLink R_S 74 y_S_stepFrom ∈ GW := List.mem_filter.mpr ⟨List.mem_of_getElem? (i := 311) (by decide +kernel), by decide +kernel⟩
theorem gw_313 : Cond.instanceMethod y_S_stepFrom ∈ GW := List.mem_filter.mpr ⟨List.mem_of_getElem? (i := 313) (by decide +kernel), by decide +kernel⟩
theorem gw_314 : Cond.code y_S_stepFrom b_S_stepFrom 2 none ∈ GW := List.mem_filter.mpr ⟨List.mem_of_getElem? (i := 314) (by decide +kernel), by decide +kernel⟩
theorem gw_317 : Cond.instanceMethod y_P_isKeptBySweep ∈ GW := List.mem_filter.mpr ⟨List.mem_of_getElem? (i := 317) (by decide +kernel), by decide +kernel⟩
theorem gw_318 : Cond.code y_P_isKeptBySweep b_P_isKeptBySweep 1 (some .boolean) ∈ GW := List.mem_filter.mpr ⟨List.mem_of_getElem? (i := 318) (by decide +kernel), by decide +kernel⟩
theorem gw_319 : Cond.methodLink R_S 138 y_S_gatherFrom ∈ GW := List.mem_filter.mpr ⟨List.mem_of_getElem? (i := 319) (by decide +kernel), by decide +kernel⟩
theorem gw_321 : Cond.instanceMethod y_S_gatherFrom ∈ GW := List.mem_filter.mpr ⟨List.mem_of_getElem? (i := 321) (by decide +kernel), by decide +kernel⟩
theorem gw_322 : Cond.code y_S_gatherFrom b_S_gatherFrom 5 none ∈ GW := List.mem_filter.mpr ⟨List.mem_of_getElem? (i := 322) (by decide +kernel), by decide +kernel⟩
theorem gw_323 : Cond.methodLink R_L 87 y_L_count ∈ GW := List.mem_filter.mpr ⟨List.mem_of_getElem? (i := 323) (by decide +kernel), by decide +kernel⟩
theorem gw_324 : Cond.static y_L_count ∈ GW := List.mem_filter.mpr ⟨List.mem_of_getElem? (i := 324) (by decide +kernel), by decide +kernel⟩
theorem gw_325 : Cond.codeWith y_L_count b_L_count 4 (some .int) [(0, 9, 12, 13)] ∈ GW := List.mem_filter.mpr ⟨List.mem_of_getElem? (i := 325) (by decide +kernel), by decide +kernel⟩
theorem gw_326 : Cond.methodLink R_L 39 y_S_count ∈ GW := List.mem_filter.mpr ⟨List.mem_of_getElem? (i := 326) (by decide +kernel), by decide +kernel⟩
theorem gw_327 : Cond.instanceMethod y_S_count ∈ GW := List.mem_filter.mpr ⟨List.mem_of_getElem? (i := 327) (by decide +kernel), by decide +kernel⟩
theorem gw_328 : Cond.selects R_S y_S_count y_S_count ∈ GW := List.mem_filter.mpr ⟨List.mem_of_getElem? (i := 328) (by decide +kernel), by decide +kernel⟩
theorem gw_329 : Cond.code y_S_count b_S_count 2 (some .int) ∈ GW := List.mem_filter.mpr ⟨List.mem_of_getElem? (i := 329) (by decide +kernel), by decide +kernel⟩
theorem gw_330 : Cond.methodLink R_S 80 y_S_sumOverPieces ∈ GW := List.mem_filter.mpr ⟨List.mem_of_getElem? (i := 330) (by decide +kernel), by decide +kernel⟩
theorem gw_332 : Cond.instanceMethod y_S_sumOverPieces ∈ GW := List.mem_filter.mpr ⟨List.mem_of_getElem? (i := 332) (by decide +kernel), by decide +kernel⟩
theorem gw_333 : Cond.code y_S_sumOverPieces b_S_sumOverPieces 4 (some .int) ∈ GW := List.mem_filter.mpr ⟨List.mem_of_getElem? (i := 333) (by decide +kernel), by decide +kernel⟩
theorem gw_334 : Cond.methodLink R_S 141 y_S_shareOf ∈ GW := List.mem_filter.mpr ⟨List.mem_of_getElem? (i := 334) (by decide +kernel), by decide +kernel⟩
theorem gw_335 : Cond.static y_S_shareOf ∈ GW := List.mem_filter.mpr ⟨List.mem_of_getElem? (i := 335) (by decide +kernel), by decide +kernel⟩
theorem gw_336 : Cond.code y_S_shareOf b_S_shareOf 2 (some .int) ∈ GW := List.mem_filter.mpr ⟨List.mem_of_getElem? (i := 336) (by decide +kernel), by decide +kernel⟩
theorem gw_339 : Cond.instanceMethod y_P_isCrumb ∈ GW := List.mem_filter.mpr ⟨List.mem_of_getElem? (i := 339) (by decide +kernel), by decide +kernel⟩
theorem gw_340 : Cond.code y_P_isCrumb b_P_isCrumb 1 (some .boolean) ∈ GW := List.mem_filter.mpr ⟨List.mem_of_getElem? (i := 340) (by decide +kernel), by decide +kernel⟩
theorem gw_341 : Cond.methodLink R_S 84 y_S_greatestFree ∈ GW := List.mem_filter.mpr ⟨List.mem_of_getElem? (i := 341) (by decide +kernel), by decide +kernel⟩
theorem gw_343 : Cond.instanceMethod y_S_greatestFree ∈ GW := List.mem_filter.mpr ⟨List.mem_of_getElem? (i := 343) (by decide +kernel), by decide +kernel⟩
theorem gw_344 : Cond.code y_S_greatestFree b_S_greatestFree 3 (some .int) ∈ GW := List.mem_filter.mpr ⟨List.mem_of_getElem? (i := 344) (by decide +kernel), by decide +kernel⟩
theorem gw_346 : Cond.classLink R_L 43 R_M ∈ GW := List.mem_filter.mpr ⟨List.mem_of_getElem? (i := 346) (by decide +kernel), by decide +kernel⟩
theorem gw_347 : Cond.instantiable R_M 10 ∈ GW := List.mem_filter.mpr ⟨List.mem_of_getElem? (i := 347) (by decide +kernel), by decide +kernel⟩
theorem gw_348 : Cond.methodLink R_L 45 y_M_init ∈ GW := List.mem_filter.mpr ⟨List.mem_of_getElem? (i := 348) (by decide +kernel), by decide +kernel⟩
theorem gw_349 : Cond.instanceMethod y_M_init ∈ GW := List.mem_filter.mpr ⟨List.mem_of_getElem? (i := 349) (by decide +kernel), by decide +kernel⟩
theorem gw_350 : Cond.code y_M_init b_M_init 1 none ∈ GW := List.mem_filter.mpr ⟨List.mem_of_getElem? (i := 350) (by decide +kernel), by decide +kernel⟩
theorem gw_351 : Cond.methodLink R_M 1 objectInit ∈ GW := List.mem_filter.mpr ⟨List.mem_of_getElem? (i := 351) (by decide +kernel), by decide +kernel⟩
theorem gw_352 : Cond.fieldLink R_M 24 "SweepHandModel" "thrown" "I" ∈ GW := List.mem_filter.mpr ⟨List.mem_of_getElem? (i := 352) (by decide +kernel), by decide +kernel⟩
theorem gw_353 : Cond.fieldLink R_M 7 "SweepHandModel" "cells" "I" ∈ GW := List.mem_filter.mpr ⟨List.mem_of_getElem? (i := 353) (by decide +kernel), by decide +kernel⟩
theorem gw_354 : Cond.fieldLink R_M 13 "SweepHandModel" "sizes" "[I" ∈ GW := List.mem_filter.mpr ⟨List.mem_of_getElem? (i := 354) (by decide +kernel), by decide +kernel⟩
theorem gw_355 : Cond.fieldLink R_M 17 "SweepHandModel" "times" "[I" ∈ GW := List.mem_filter.mpr ⟨List.mem_of_getElem? (i := 355) (by decide +kernel), by decide +kernel⟩
theorem gw_356 : Cond.fieldLink R_M 20 "SweepHandModel" "marks" "[Z" ∈ GW := List.mem_filter.mpr ⟨List.mem_of_getElem? (i := 356) (by decide +kernel), by decide +kernel⟩
theorem gw_357 : Cond.fieldLink R_M 27 "SweepHandModel" "now" "I" ∈ GW := List.mem_filter.mpr ⟨List.mem_of_getElem? (i := 357) (by decide +kernel), by decide +kernel⟩
theorem gw_358 : Cond.fieldLink R_M 34 "SweepHandModel" "failures" "I" ∈ GW := List.mem_filter.mpr ⟨List.mem_of_getElem? (i := 358) (by decide +kernel), by decide +kernel⟩
theorem gw_359 : Cond.fieldLink R_M 37 "SweepHandModel" "swept" "I" ∈ GW := List.mem_filter.mpr ⟨List.mem_of_getElem? (i := 359) (by decide +kernel), by decide +kernel⟩
theorem gw_360 : Cond.fieldLink R_M 40 "SweepHandModel" "sweeps" "I" ∈ GW := List.mem_filter.mpr ⟨List.mem_of_getElem? (i := 360) (by decide +kernel), by decide +kernel⟩
theorem gw_361 : Cond.fieldLink R_M 43 "SweepHandModel" "hand" "I" ∈ GW := List.mem_filter.mpr ⟨List.mem_of_getElem? (i := 361) (by decide +kernel), by decide +kernel⟩
theorem gw_383 : Cond.arrayClass .int ∈ GW := List.mem_filter.mpr ⟨List.mem_of_getElem? (i := 383) (by decide +kernel), by decide +kernel⟩
theorem gw_384 : Cond.arrayClass .boolean ∈ GW := List.mem_filter.mpr ⟨List.mem_of_getElem? (i := 384) (by decide +kernel), by decide +kernel⟩
theorem gw_385 : Cond.methodLink R_L 52 y_M_thrown ∈ GW := List.mem_filter.mpr ⟨List.mem_of_getElem? (i := 385) (by decide +kernel), by decide +kernel⟩
theorem gw_386 : Cond.instanceMethod y_M_thrown ∈ GW := List.mem_filter.mpr ⟨List.mem_of_getElem? (i := 386) (by decide +kernel), by decide +kernel⟩
theorem gw_387 : Cond.selects R_M y_M_thrown y_M_thrown ∈ GW := List.mem_filter.mpr ⟨List.mem_of_getElem? (i := 387) (by decide +kernel), by decide +kernel⟩
theorem gw_388 : Cond.code y_M_thrown b_M_thrown 1 (some .int) ∈ GW := List.mem_filter.mpr ⟨List.mem_of_getElem? (i := 388) (by decide +kernel), by decide +kernel⟩
theorem gw_389 : Cond.methodLink R_L 51 y_M_space ∈ GW := List.mem_filter.mpr ⟨List.mem_of_getElem? (i := 389) (by decide +kernel), by decide +kernel⟩
theorem gw_390 : Cond.instanceMethod y_M_space ∈ GW := List.mem_filter.mpr ⟨List.mem_of_getElem? (i := 390) (by decide +kernel), by decide +kernel⟩
theorem gw_391 : Cond.selects R_M y_M_space y_M_space ∈ GW := List.mem_filter.mpr ⟨List.mem_of_getElem? (i := 391) (by decide +kernel), by decide +kernel⟩
theorem gw_392 : Cond.code y_M_space b_M_space 4 (some .int) ∈ GW := List.mem_filter.mpr ⟨List.mem_of_getElem? (i := 392) (by decide +kernel), by decide +kernel⟩
theorem gw_393 : Cond.methodLink R_M 30 y_M_goes ∈ GW := List.mem_filter.mpr ⟨List.mem_of_getElem? (i := 393) (by decide +kernel), by decide +kernel⟩
theorem gw_395 : Cond.instanceMethod y_M_goes ∈ GW := List.mem_filter.mpr ⟨List.mem_of_getElem? (i := 395) (by decide +kernel), by decide +kernel⟩
theorem gw_396 : Cond.code y_M_goes b_M_goes 3 (some .boolean) ∈ GW := List.mem_filter.mpr ⟨List.mem_of_getElem? (i := 396) (by decide +kernel), by decide +kernel⟩
theorem gw_397 : Cond.methodLink R_M 46 y_M_release ∈ GW := List.mem_filter.mpr ⟨List.mem_of_getElem? (i := 397) (by decide +kernel), by decide +kernel⟩
theorem gw_399 : Cond.instanceMethod y_M_release ∈ GW := List.mem_filter.mpr ⟨List.mem_of_getElem? (i := 399) (by decide +kernel), by decide +kernel⟩
theorem gw_400 : Cond.code y_M_release b_M_release 3 none ∈ GW := List.mem_filter.mpr ⟨List.mem_of_getElem? (i := 400) (by decide +kernel), by decide +kernel⟩
theorem gw_401 : Cond.methodLink R_L 57 y_M_take ∈ GW := List.mem_filter.mpr ⟨List.mem_of_getElem? (i := 401) (by decide +kernel), by decide +kernel⟩
theorem gw_402 : Cond.instanceMethod y_M_take ∈ GW := List.mem_filter.mpr ⟨List.mem_of_getElem? (i := 402) (by decide +kernel), by decide +kernel⟩
theorem gw_403 : Cond.selects R_M y_M_take y_M_take ∈ GW := List.mem_filter.mpr ⟨List.mem_of_getElem? (i := 403) (by decide +kernel), by decide +kernel⟩
theorem gw_404 : Cond.code y_M_take b_M_take 4 (some .int) ∈ GW := List.mem_filter.mpr ⟨List.mem_of_getElem? (i := 404) (by decide +kernel), by decide +kernel⟩
theorem gw_405 : Cond.methodLink R_M 54 y_M_best ∈ GW := List.mem_filter.mpr ⟨List.mem_of_getElem? (i := 405) (by decide +kernel), by decide +kernel⟩
theorem gw_407 : Cond.instanceMethod y_M_best ∈ GW := List.mem_filter.mpr ⟨List.mem_of_getElem? (i := 407) (by decide +kernel), by decide +kernel⟩
theorem gw_408 : Cond.code y_M_best b_M_best 6 (some .int) ∈ GW := List.mem_filter.mpr ⟨List.mem_of_getElem? (i := 408) (by decide +kernel), by decide +kernel⟩
theorem gw_409 : Cond.methodLink R_M 50 y_M_length ∈ GW := List.mem_filter.mpr ⟨List.mem_of_getElem? (i := 409) (by decide +kernel), by decide +kernel⟩
theorem gw_411 : Cond.instanceMethod y_M_length ∈ GW := List.mem_filter.mpr ⟨List.mem_of_getElem? (i := 411) (by decide +kernel), by decide +kernel⟩
theorem gw_412 : Cond.code y_M_length b_M_length 2 (some .int) ∈ GW := List.mem_filter.mpr ⟨List.mem_of_getElem? (i := 412) (by decide +kernel), by decide +kernel⟩
theorem gw_413 : Cond.methodLink R_L 60 y_M_give ∈ GW := List.mem_filter.mpr ⟨List.mem_of_getElem? (i := 413) (by decide +kernel), by decide +kernel⟩
theorem gw_414 : Cond.instanceMethod y_M_give ∈ GW := List.mem_filter.mpr ⟨List.mem_of_getElem? (i := 414) (by decide +kernel), by decide +kernel⟩
theorem gw_415 : Cond.selects R_M y_M_give y_M_give ∈ GW := List.mem_filter.mpr ⟨List.mem_of_getElem? (i := 415) (by decide +kernel), by decide +kernel⟩
theorem gw_416 : Cond.code y_M_give b_M_give 3 (some .int) ∈ GW := List.mem_filter.mpr ⟨List.mem_of_getElem? (i := 416) (by decide +kernel), by decide +kernel⟩
theorem gw_417 : Cond.methodLink R_M 57 y_M_used ∈ GW := List.mem_filter.mpr ⟨List.mem_of_getElem? (i := 417) (by decide +kernel), by decide +kernel⟩
theorem gw_419 : Cond.instanceMethod y_M_used ∈ GW := List.mem_filter.mpr ⟨List.mem_of_getElem? (i := 419) (by decide +kernel), by decide +kernel⟩
theorem gw_420 : Cond.code y_M_used b_M_used 2 (some .boolean) ∈ GW := List.mem_filter.mpr ⟨List.mem_of_getElem? (i := 420) (by decide +kernel), by decide +kernel⟩
theorem gw_421 : Cond.methodLink R_L 63 y_M_mark ∈ GW := List.mem_filter.mpr ⟨List.mem_of_getElem? (i := 421) (by decide +kernel), by decide +kernel⟩
theorem gw_422 : Cond.instanceMethod y_M_mark ∈ GW := List.mem_filter.mpr ⟨List.mem_of_getElem? (i := 422) (by decide +kernel), by decide +kernel⟩
theorem gw_423 : Cond.selects R_M y_M_mark y_M_mark ∈ GW := List.mem_filter.mpr ⟨List.mem_of_getElem? (i := 423) (by decide +kernel), by decide +kernel⟩
theorem gw_424 : Cond.code y_M_mark b_M_mark 3 (some .boolean) ∈ GW := List.mem_filter.mpr ⟨List.mem_of_getElem? (i := 424) (by decide +kernel), by decide +kernel⟩
theorem gw_425 : Cond.methodLink R_L 67 y_M_unmark ∈ GW := List.mem_filter.mpr ⟨List.mem_of_getElem? (i := 425) (by decide +kernel), by decide +kernel⟩
theorem gw_426 : Cond.instanceMethod y_M_unmark ∈ GW := List.mem_filter.mpr ⟨List.mem_of_getElem? (i := 426) (by decide +kernel), by decide +kernel⟩
theorem gw_427 : Cond.selects R_M y_M_unmark y_M_unmark ∈ GW := List.mem_filter.mpr ⟨List.mem_of_getElem? (i := 427) (by decide +kernel), by decide +kernel⟩
theorem gw_428 : Cond.code y_M_unmark b_M_unmark 3 (some .int) ∈ GW := List.mem_filter.mpr ⟨List.mem_of_getElem? (i := 428) (by decide +kernel), by decide +kernel⟩
theorem gw_429 : Cond.methodLink R_M 61 y_M_marks ∈ GW := List.mem_filter.mpr ⟨List.mem_of_getElem? (i := 429) (by decide +kernel), by decide +kernel⟩
theorem gw_431 : Cond.instanceMethod y_M_marks ∈ GW := List.mem_filter.mpr ⟨List.mem_of_getElem? (i := 431) (by decide +kernel), by decide +kernel⟩
theorem gw_432 : Cond.code y_M_marks b_M_marks 3 (some .int) ∈ GW := List.mem_filter.mpr ⟨List.mem_of_getElem? (i := 432) (by decide +kernel), by decide +kernel⟩
theorem gw_433 : Cond.methodLink R_L 71 y_M_begin ∈ GW := List.mem_filter.mpr ⟨List.mem_of_getElem? (i := 433) (by decide +kernel), by decide +kernel⟩
theorem gw_434 : Cond.instanceMethod y_M_begin ∈ GW := List.mem_filter.mpr ⟨List.mem_of_getElem? (i := 434) (by decide +kernel), by decide +kernel⟩
theorem gw_435 : Cond.selects R_M y_M_begin y_M_begin ∈ GW := List.mem_filter.mpr ⟨List.mem_of_getElem? (i := 435) (by decide +kernel), by decide +kernel⟩
theorem gw_436 : Cond.code y_M_begin b_M_begin 1 none ∈ GW := List.mem_filter.mpr ⟨List.mem_of_getElem? (i := 436) (by decide +kernel), by decide +kernel⟩
theorem gw_437 : Cond.methodLink R_L 74 y_M_sweep ∈ GW := List.mem_filter.mpr ⟨List.mem_of_getElem? (i := 437) (by decide +kernel), by decide +kernel⟩
theorem gw_438 : Cond.instanceMethod y_M_sweep ∈ GW := List.mem_filter.mpr ⟨List.mem_of_getElem? (i := 438) (by decide +kernel), by decide +kernel⟩
theorem gw_439 : Cond.selects R_M y_M_sweep y_M_sweep ∈ GW := List.mem_filter.mpr ⟨List.mem_of_getElem? (i := 439) (by decide +kernel), by decide +kernel⟩
theorem gw_440 : Cond.code y_M_sweep b_M_sweep 3 (some .int) ∈ GW := List.mem_filter.mpr ⟨List.mem_of_getElem? (i := 440) (by decide +kernel), by decide +kernel⟩
theorem gw_441 : Cond.methodLink R_M 64 y_M_step ∈ GW := List.mem_filter.mpr ⟨List.mem_of_getElem? (i := 441) (by decide +kernel), by decide +kernel⟩
theorem gw_443 : Cond.instanceMethod y_M_step ∈ GW := List.mem_filter.mpr ⟨List.mem_of_getElem? (i := 443) (by decide +kernel), by decide +kernel⟩
theorem gw_444 : Cond.code y_M_step b_M_step 6 none ∈ GW := List.mem_filter.mpr ⟨List.mem_of_getElem? (i := 444) (by decide +kernel), by decide +kernel⟩
theorem gw_445 : Cond.methodLink R_L 78 y_M_hand ∈ GW := List.mem_filter.mpr ⟨List.mem_of_getElem? (i := 445) (by decide +kernel), by decide +kernel⟩
theorem gw_446 : Cond.instanceMethod y_M_hand ∈ GW := List.mem_filter.mpr ⟨List.mem_of_getElem? (i := 446) (by decide +kernel), by decide +kernel⟩
theorem gw_447 : Cond.selects R_M y_M_hand y_M_hand ∈ GW := List.mem_filter.mpr ⟨List.mem_of_getElem? (i := 447) (by decide +kernel), by decide +kernel⟩
theorem gw_448 : Cond.code y_M_hand b_M_hand 1 (some .int) ∈ GW := List.mem_filter.mpr ⟨List.mem_of_getElem? (i := 448) (by decide +kernel), by decide +kernel⟩
theorem gw_449 : Cond.methodLink R_L 82 y_M_piece ∈ GW := List.mem_filter.mpr ⟨List.mem_of_getElem? (i := 449) (by decide +kernel), by decide +kernel⟩
theorem gw_450 : Cond.instanceMethod y_M_piece ∈ GW := List.mem_filter.mpr ⟨List.mem_of_getElem? (i := 450) (by decide +kernel), by decide +kernel⟩
theorem gw_451 : Cond.selects R_M y_M_piece y_M_piece ∈ GW := List.mem_filter.mpr ⟨List.mem_of_getElem? (i := 451) (by decide +kernel), by decide +kernel⟩
theorem gw_452 : Cond.code y_M_piece b_M_piece 2 (some .int) ∈ GW := List.mem_filter.mpr ⟨List.mem_of_getElem? (i := 452) (by decide +kernel), by decide +kernel⟩
theorem gw_453 : Cond.methodLink R_L 86 y_M_marked ∈ GW := List.mem_filter.mpr ⟨List.mem_of_getElem? (i := 453) (by decide +kernel), by decide +kernel⟩
theorem gw_454 : Cond.instanceMethod y_M_marked ∈ GW := List.mem_filter.mpr ⟨List.mem_of_getElem? (i := 454) (by decide +kernel), by decide +kernel⟩
theorem gw_455 : Cond.selects R_M y_M_marked y_M_marked ∈ GW := List.mem_filter.mpr ⟨List.mem_of_getElem? (i := 455) (by decide +kernel), by decide +kernel⟩
theorem gw_456 : Cond.code y_M_marked b_M_marked 2 (some .boolean) ∈ GW := List.mem_filter.mpr ⟨List.mem_of_getElem? (i := 456) (by decide +kernel), by decide +kernel⟩
theorem gw_457 : Cond.methodLink R_L 89 y_M_count ∈ GW := List.mem_filter.mpr ⟨List.mem_of_getElem? (i := 457) (by decide +kernel), by decide +kernel⟩
theorem gw_458 : Cond.instanceMethod y_M_count ∈ GW := List.mem_filter.mpr ⟨List.mem_of_getElem? (i := 458) (by decide +kernel), by decide +kernel⟩
theorem gw_459 : Cond.selects R_M y_M_count y_M_count ∈ GW := List.mem_filter.mpr ⟨List.mem_of_getElem? (i := 459) (by decide +kernel), by decide +kernel⟩
theorem gw_460 : Cond.code y_M_count b_M_count 8 (some .int) ∈ GW := List.mem_filter.mpr ⟨List.mem_of_getElem? (i := 460) (by decide +kernel), by decide +kernel⟩
theorem gw_461 : Cond.methodLink R_M 67 y_M_greatest ∈ GW := List.mem_filter.mpr ⟨List.mem_of_getElem? (i := 461) (by decide +kernel), by decide +kernel⟩
theorem gw_463 : Cond.instanceMethod y_M_greatest ∈ GW := List.mem_filter.mpr ⟨List.mem_of_getElem? (i := 463) (by decide +kernel), by decide +kernel⟩
theorem gw_464 : Cond.code y_M_greatest b_M_greatest 3 (some .int) ∈ GW := List.mem_filter.mpr ⟨List.mem_of_getElem? (i := 464) (by decide +kernel), by decide +kernel⟩
theorem gw_465 : Cond.methodLink R_L 93 y_M_faults ∈ GW := List.mem_filter.mpr ⟨List.mem_of_getElem? (i := 465) (by decide +kernel), by decide +kernel⟩
theorem gw_466 : Cond.instanceMethod y_M_faults ∈ GW := List.mem_filter.mpr ⟨List.mem_of_getElem? (i := 466) (by decide +kernel), by decide +kernel⟩
theorem gw_467 : Cond.selects R_M y_M_faults y_M_faults ∈ GW := List.mem_filter.mpr ⟨List.mem_of_getElem? (i := 467) (by decide +kernel), by decide +kernel⟩
theorem gw_468 : Cond.code y_M_faults b_M_faults 1 (some .int) ∈ GW := List.mem_filter.mpr ⟨List.mem_of_getElem? (i := 468) (by decide +kernel), by decide +kernel⟩
theorem gw_469 : Cond.arrayClass .long ∈ GW := List.mem_filter.mpr ⟨List.mem_of_getElem? (i := 469) (by decide +kernel), by decide +kernel⟩
theorem gi_P : ∀ w ∈ u_ws R_P F_P 6, w ∈ GW := by decide +kernel
theorem gi_S : ∀ w ∈ u_ws R_S F_S 7, w ∈ GW := by decide +kernel
theorem gi_M : ∀ w ∈ u_ws R_M F_M 10, w ∈ GW := by decide +kernel
end
section
theorem d_S_init_0 : decode b_S_init 0 = .ok (.aload_n 0, 1) := by decide +kernel
theorem d_S_init_1 : decode b_S_init 1 = .ok (.invokespecial 1, 3) := by decide +kernel
theorem d_S_init_4 : decode b_S_init 4 = .ok (.aload_n 0, 1) := by decide +kernel
theorem d_S_init_5 : decode b_S_init 5 = .ok (.sipush 1024, 3) := by decide +kernel
theorem d_S_init_8 : decode b_S_init 8 = .ok (.invokevirtual 9, 3) := by decide +kernel
theorem d_S_init_11 : decode b_S_init 11 = .ok (.return_, 1) := by decide +kernel
theorem d_S_space_0 : decode b_S_space 0 = .ok (.iload_n 1, 1) := by decide +kernel
theorem d_S_space_1 : decode b_S_space 1 = .ok (.bipush 16, 2) := by decide +kernel
theorem d_S_space_3 : decode b_S_space 3 = .ok (.if_icmp .lt 10, 3) := by decide +kernel
theorem d_S_space_6 : decode b_S_space 6 = .ok (.iload_n 1, 1) := by decide +kernel
theorem d_S_space_7 : decode b_S_space 7 = .ok (.sipush 16384, 3) := by decide +kernel
theorem d_S_space_10 : decode b_S_space 10 = .ok (.if_icmp .le 13, 3) := by decide +kernel
theorem d_S_space_13 : decode b_S_space 13 = .ok (.new 13, 3) := by decide +kernel
theorem d_S_space_16 : decode b_S_space 16 = .ok (.dup, 1) := by decide +kernel
theorem d_S_space_17 : decode b_S_space 17 = .ok (.ldc 15, 2) := by decide +kernel
theorem d_S_space_19 : decode b_S_space 19 = .ok (.invokespecial 17, 3) := by decide +kernel
theorem d_S_space_22 : decode b_S_space 22 = .ok (.athrow, 1) := by decide +kernel
theorem d_S_space_23 : decode b_S_space 23 = .ok (.aload_n 0, 1) := by decide +kernel
theorem d_S_space_24 : decode b_S_space 24 = .ok (.getfield 20, 3) := by decide +kernel
theorem d_S_space_27 : decode b_S_space 27 = .ok (.istore_n 2, 1) := by decide +kernel
theorem d_S_space_28 : decode b_S_space 28 = .ok (.aload_n 0, 1) := by decide +kernel
theorem d_S_space_29 : decode b_S_space 29 = .ok (.iload_n 1, 1) := by decide +kernel
theorem d_S_space_30 : decode b_S_space 30 = .ok (.invokevirtual 9, 3) := by decide +kernel
theorem d_S_space_33 : decode b_S_space 33 = .ok (.iload_n 2, 1) := by decide +kernel
theorem d_S_space_34 : decode b_S_space 34 = .ok (.ireturn, 1) := by decide +kernel
theorem d_S_take_0 : decode b_S_take 0 = .ok (.iload_n 1, 1) := by decide +kernel
theorem d_S_take_1 : decode b_S_take 1 = .ok (.iconst 3, 1) := by decide +kernel
theorem d_S_take_2 : decode b_S_take 2 = .ok (.if_icmp .lt 10, 3) := by decide +kernel
theorem d_S_take_5 : decode b_S_take 5 = .ok (.iload_n 1, 1) := by decide +kernel
theorem d_S_take_6 : decode b_S_take 6 = .ok (.sipush 2000, 3) := by decide +kernel
theorem d_S_take_9 : decode b_S_take 9 = .ok (.if_icmp .le 13, 3) := by decide +kernel
theorem d_S_take_12 : decode b_S_take 12 = .ok (.new 13, 3) := by decide +kernel
theorem d_S_take_15 : decode b_S_take 15 = .ok (.dup, 1) := by decide +kernel
theorem d_S_take_16 : decode b_S_take 16 = .ok (.ldc 24, 2) := by decide +kernel
theorem d_S_take_18 : decode b_S_take 18 = .ok (.invokespecial 17, 3) := by decide +kernel
theorem d_S_take_21 : decode b_S_take 21 = .ok (.athrow, 1) := by decide +kernel
theorem d_S_take_22 : decode b_S_take 22 = .ok (.aload_n 0, 1) := by decide +kernel
theorem d_S_take_23 : decode b_S_take 23 = .ok (.iload_n 1, 1) := by decide +kernel
theorem d_S_take_24 : decode b_S_take 24 = .ok (.invokevirtual 26, 3) := by decide +kernel
theorem d_S_take_27 : decode b_S_take 27 = .ok (.astore_n 2, 1) := by decide +kernel
theorem d_S_take_28 : decode b_S_take 28 = .ok (.aload_n 2, 1) := by decide +kernel
theorem d_S_take_29 : decode b_S_take 29 = .ok (.ifnonnull 15, 3) := by decide +kernel
theorem d_S_take_32 : decode b_S_take 32 = .ok (.aload_n 0, 1) := by decide +kernel
theorem d_S_take_33 : decode b_S_take 33 = .ok (.dup, 1) := by decide +kernel
theorem d_S_take_34 : decode b_S_take 34 = .ok (.getfield 30, 3) := by decide +kernel
theorem d_S_take_37 : decode b_S_take 37 = .ok (.iconst 1, 1) := by decide +kernel
theorem d_S_take_38 : decode b_S_take 38 = .ok (.iadd, 1) := by decide +kernel
theorem d_S_take_39 : decode b_S_take 39 = .ok (.putfield 30, 3) := by decide +kernel
theorem d_S_take_42 : decode b_S_take 42 = .ok (.iconst 0, 1) := by decide +kernel
theorem d_S_take_43 : decode b_S_take 43 = .ok (.ireturn, 1) := by decide +kernel
theorem d_S_take_44 : decode b_S_take 44 = .ok (.aload_n 0, 1) := by decide +kernel
theorem d_S_take_45 : decode b_S_take 45 = .ok (.aload_n 2, 1) := by decide +kernel
theorem d_S_take_46 : decode b_S_take 46 = .ok (.iload_n 1, 1) := by decide +kernel
theorem d_S_take_47 : decode b_S_take 47 = .ok (.invokevirtual 33, 3) := by decide +kernel
theorem d_S_take_50 : decode b_S_take 50 = .ok (.aload_n 2, 1) := by decide +kernel
theorem d_S_take_51 : decode b_S_take 51 = .ok (.iconst 1, 1) := by decide +kernel
theorem d_S_take_52 : decode b_S_take 52 = .ok (.putfield 37, 3) := by decide +kernel
theorem d_S_take_55 : decode b_S_take 55 = .ok (.aload_n 2, 1) := by decide +kernel
theorem d_S_take_56 : decode b_S_take 56 = .ok (.aload_n 0, 1) := by decide +kernel
theorem d_S_take_57 : decode b_S_take 57 = .ok (.getfield 43, 3) := by decide +kernel
theorem d_S_take_60 : decode b_S_take 60 = .ok (.ifnull 21, 3) := by decide +kernel
theorem d_S_take_63 : decode b_S_take 63 = .ok (.aload_n 2, 1) := by decide +kernel
theorem d_S_take_64 : decode b_S_take 64 = .ok (.getfield 47, 3) := by decide +kernel
theorem d_S_take_67 : decode b_S_take 67 = .ok (.aload_n 0, 1) := by decide +kernel
theorem d_S_take_68 : decode b_S_take 68 = .ok (.getfield 43, 3) := by decide +kernel
theorem d_S_take_71 : decode b_S_take 71 = .ok (.getfield 47, 3) := by decide +kernel
theorem d_S_take_74 : decode b_S_take 74 = .ok (.if_icmp .lt 7, 3) := by decide +kernel
theorem d_S_take_77 : decode b_S_take 77 = .ok (.iconst 1, 1) := by decide +kernel
theorem d_S_take_78 : decode b_S_take 78 = .ok (.goto 4, 3) := by decide +kernel
theorem d_S_take_81 : decode b_S_take 81 = .ok (.iconst 0, 1) := by decide +kernel
theorem d_S_take_82 : decode b_S_take 82 = .ok (.putfield 50, 3) := by decide +kernel
theorem d_S_take_85 : decode b_S_take 85 = .ok (.aload_n 2, 1) := by decide +kernel
theorem d_S_take_86 : decode b_S_take 86 = .ok (.getfield 47, 3) := by decide +kernel
theorem d_S_take_89 : decode b_S_take 89 = .ok (.ireturn, 1) := by decide +kernel
theorem d_S_give_0 : decode b_S_give 0 = .ok (.aload_n 0, 1) := by decide +kernel
theorem d_S_give_1 : decode b_S_give 1 = .ok (.iload_n 1, 1) := by decide +kernel
theorem d_S_give_2 : decode b_S_give 2 = .ok (.invokevirtual 53, 3) := by decide +kernel
theorem d_S_give_5 : decode b_S_give 5 = .ok (.astore_n 2, 1) := by decide +kernel
theorem d_S_give_6 : decode b_S_give 6 = .ok (.aload_n 0, 1) := by decide +kernel
theorem d_S_give_7 : decode b_S_give 7 = .ok (.aload_n 2, 1) := by decide +kernel
theorem d_S_give_8 : decode b_S_give 8 = .ok (.invokevirtual 56, 3) := by decide +kernel
theorem d_S_give_11 : decode b_S_give 11 = .ok (.aload_n 2, 1) := by decide +kernel
theorem d_S_give_12 : decode b_S_give 12 = .ok (.getfield 60, 3) := by decide +kernel
theorem d_S_give_15 : decode b_S_give 15 = .ok (.ireturn, 1) := by decide +kernel
theorem d_S_mark_0 : decode b_S_mark 0 = .ok (.aload_n 0, 1) := by decide +kernel
theorem d_S_mark_1 : decode b_S_mark 1 = .ok (.iload_n 1, 1) := by decide +kernel
theorem d_S_mark_2 : decode b_S_mark 2 = .ok (.invokevirtual 53, 3) := by decide +kernel
theorem d_S_mark_5 : decode b_S_mark 5 = .ok (.astore_n 2, 1) := by decide +kernel
theorem d_S_mark_6 : decode b_S_mark 6 = .ok (.aload_n 0, 1) := by decide +kernel
theorem d_S_mark_7 : decode b_S_mark 7 = .ok (.invokevirtual 63, 3) := by decide +kernel
theorem d_S_mark_10 : decode b_S_mark 10 = .ok (.aload_n 2, 1) := by decide +kernel
theorem d_S_mark_11 : decode b_S_mark 11 = .ok (.getfield 50, 3) := by decide +kernel
theorem d_S_mark_14 : decode b_S_mark 14 = .ok (.ifCond .ne 7, 3) := by decide +kernel
theorem d_S_mark_17 : decode b_S_mark 17 = .ok (.iconst 1, 1) := by decide +kernel
theorem d_S_mark_18 : decode b_S_mark 18 = .ok (.goto 4, 3) := by decide +kernel
theorem d_S_mark_21 : decode b_S_mark 21 = .ok (.iconst 0, 1) := by decide +kernel
theorem d_S_mark_22 : decode b_S_mark 22 = .ok (.istore_n 3, 1) := by decide +kernel
theorem d_S_mark_23 : decode b_S_mark 23 = .ok (.aload_n 2, 1) := by decide +kernel
theorem d_S_mark_24 : decode b_S_mark 24 = .ok (.iconst 1, 1) := by decide +kernel
theorem d_S_mark_25 : decode b_S_mark 25 = .ok (.putfield 50, 3) := by decide +kernel
theorem d_S_mark_28 : decode b_S_mark 28 = .ok (.iload_n 3, 1) := by decide +kernel
theorem d_S_mark_29 : decode b_S_mark 29 = .ok (.ireturn, 1) := by decide +kernel
theorem d_S_unmark_0 : decode b_S_unmark 0 = .ok (.aload_n 0, 1) := by decide +kernel
theorem d_S_unmark_1 : decode b_S_unmark 1 = .ok (.invokevirtual 63, 3) := by decide +kernel
theorem d_S_unmark_4 : decode b_S_unmark 4 = .ok (.iconst 0, 1) := by decide +kernel
theorem d_S_unmark_5 : decode b_S_unmark 5 = .ok (.istore_n 1, 1) := by decide +kernel
theorem d_S_unmark_6 : decode b_S_unmark 6 = .ok (.aload_n 0, 1) := by decide +kernel
theorem d_S_unmark_7 : decode b_S_unmark 7 = .ok (.getfield 66, 3) := by decide +kernel
theorem d_S_unmark_10 : decode b_S_unmark 10 = .ok (.astore_n 2, 1) := by decide +kernel
theorem d_S_unmark_11 : decode b_S_unmark 11 = .ok (.aload_n 2, 1) := by decide +kernel
theorem d_S_unmark_12 : decode b_S_unmark 12 = .ok (.ifnull 26, 3) := by decide +kernel
theorem d_S_unmark_15 : decode b_S_unmark 15 = .ok (.aload_n 2, 1) := by decide +kernel
theorem d_S_unmark_16 : decode b_S_unmark 16 = .ok (.getfield 50, 3) := by decide +kernel
theorem d_S_unmark_19 : decode b_S_unmark 19 = .ok (.ifCond .eq 11, 3) := by decide +kernel
theorem d_S_unmark_22 : decode b_S_unmark 22 = .ok (.aload_n 2, 1) := by decide +kernel
theorem d_S_unmark_23 : decode b_S_unmark 23 = .ok (.iconst 0, 1) := by decide +kernel
theorem d_S_unmark_24 : decode b_S_unmark 24 = .ok (.putfield 50, 3) := by decide +kernel
theorem d_S_unmark_27 : decode b_S_unmark 27 = .ok (.iinc 1 1, 3) := by decide +kernel
theorem d_S_unmark_30 : decode b_S_unmark 30 = .ok (.aload_n 2, 1) := by decide +kernel
theorem d_S_unmark_31 : decode b_S_unmark 31 = .ok (.getfield 69, 3) := by decide +kernel
theorem d_S_unmark_34 : decode b_S_unmark 34 = .ok (.astore_n 2, 1) := by decide +kernel
theorem d_S_unmark_35 : decode b_S_unmark 35 = .ok (.goto (-24), 3) := by decide +kernel
theorem d_S_unmark_38 : decode b_S_unmark 38 = .ok (.iload_n 1, 1) := by decide +kernel
theorem d_S_unmark_39 : decode b_S_unmark 39 = .ok (.ireturn, 1) := by decide +kernel
theorem d_S_begin_0 : decode b_S_begin 0 = .ok (.aload_n 0, 1) := by decide +kernel
theorem d_S_begin_1 : decode b_S_begin 1 = .ok (.invokevirtual 63, 3) := by decide +kernel
theorem d_S_begin_4 : decode b_S_begin 4 = .ok (.aload_n 0, 1) := by decide +kernel
theorem d_S_begin_5 : decode b_S_begin 5 = .ok (.aload_n 0, 1) := by decide +kernel
theorem d_S_begin_6 : decode b_S_begin 6 = .ok (.getfield 66, 3) := by decide +kernel
theorem d_S_begin_9 : decode b_S_begin 9 = .ok (.putfield 43, 3) := by decide +kernel
theorem d_S_begin_12 : decode b_S_begin 12 = .ok (.return_, 1) := by decide +kernel
theorem d_S_sweep_0 : decode b_S_sweep 0 = .ok (.iload_n 1, 1) := by decide +kernel
theorem d_S_sweep_1 : decode b_S_sweep 1 = .ok (.ifCond .lt 10, 3) := by decide +kernel
theorem d_S_sweep_4 : decode b_S_sweep 4 = .ok (.iload_n 1, 1) := by decide +kernel
theorem d_S_sweep_5 : decode b_S_sweep 5 = .ok (.sipush 5000, 3) := by decide +kernel
theorem d_S_sweep_8 : decode b_S_sweep 8 = .ok (.if_icmp .le 13, 3) := by decide +kernel
theorem d_S_sweep_11 : decode b_S_sweep 11 = .ok (.new 13, 3) := by decide +kernel
theorem d_S_sweep_14 : decode b_S_sweep 14 = .ok (.dup, 1) := by decide +kernel
theorem d_S_sweep_15 : decode b_S_sweep 15 = .ok (.ldc 72, 2) := by decide +kernel
theorem d_S_sweep_17 : decode b_S_sweep 17 = .ok (.invokespecial 17, 3) := by decide +kernel
theorem d_S_sweep_20 : decode b_S_sweep 20 = .ok (.athrow, 1) := by decide +kernel
theorem d_S_sweep_21 : decode b_S_sweep 21 = .ok (.iconst 0, 1) := by decide +kernel
theorem d_S_sweep_22 : decode b_S_sweep 22 = .ok (.istore_n 2, 1) := by decide +kernel
theorem d_S_sweep_23 : decode b_S_sweep 23 = .ok (.iload_n 2, 1) := by decide +kernel
theorem d_S_sweep_24 : decode b_S_sweep 24 = .ok (.iload_n 1, 1) := by decide +kernel
theorem d_S_sweep_25 : decode b_S_sweep 25 = .ok (.if_icmp .ge 24, 3) := by decide +kernel
theorem d_S_sweep_28 : decode b_S_sweep 28 = .ok (.aload_n 0, 1) := by decide +kernel
theorem d_S_sweep_29 : decode b_S_sweep 29 = .ok (.getfield 43, 3) := by decide +kernel
theorem d_S_sweep_32 : decode b_S_sweep 32 = .ok (.ifnull 17, 3) := by decide +kernel
theorem d_S_sweep_35 : decode b_S_sweep 35 = .ok (.aload_n 0, 1) := by decide +kernel
theorem d_S_sweep_36 : decode b_S_sweep 36 = .ok (.aload_n 0, 1) := by decide +kernel
theorem d_S_sweep_37 : decode b_S_sweep 37 = .ok (.getfield 43, 3) := by decide +kernel
theorem d_S_sweep_40 : decode b_S_sweep 40 = .ok (.invokevirtual 74, 3) := by decide +kernel
theorem d_S_sweep_43 : decode b_S_sweep 43 = .ok (.iinc 2 1, 3) := by decide +kernel
theorem d_S_sweep_46 : decode b_S_sweep 46 = .ok (.goto (-23), 3) := by decide +kernel
theorem d_S_sweep_49 : decode b_S_sweep 49 = .ok (.iload_n 2, 1) := by decide +kernel
theorem d_S_sweep_50 : decode b_S_sweep 50 = .ok (.ireturn, 1) := by decide +kernel
theorem d_S_hand_0 : decode b_S_hand 0 = .ok (.aload_n 0, 1) := by decide +kernel
theorem d_S_hand_1 : decode b_S_hand 1 = .ok (.getfield 43, 3) := by decide +kernel
theorem d_S_hand_4 : decode b_S_hand 4 = .ok (.ifnonnull 7, 3) := by decide +kernel
theorem d_S_hand_7 : decode b_S_hand 7 = .ok (.iconst 0, 1) := by decide +kernel
theorem d_S_hand_8 : decode b_S_hand 8 = .ok (.goto 10, 3) := by decide +kernel
theorem d_S_hand_11 : decode b_S_hand 11 = .ok (.aload_n 0, 1) := by decide +kernel
theorem d_S_hand_12 : decode b_S_hand 12 = .ok (.getfield 43, 3) := by decide +kernel
theorem d_S_hand_15 : decode b_S_hand 15 = .ok (.getfield 47, 3) := by decide +kernel
theorem d_S_hand_18 : decode b_S_hand 18 = .ok (.ireturn, 1) := by decide +kernel
theorem d_S_piece_0 : decode b_S_piece 0 = .ok (.aload_n 0, 1) := by decide +kernel
theorem d_S_piece_1 : decode b_S_piece 1 = .ok (.iload_n 1, 1) := by decide +kernel
theorem d_S_piece_2 : decode b_S_piece 2 = .ok (.invokevirtual 77, 3) := by decide +kernel
theorem d_S_piece_5 : decode b_S_piece 5 = .ok (.astore_n 2, 1) := by decide +kernel
theorem d_S_piece_6 : decode b_S_piece 6 = .ok (.aload_n 2, 1) := by decide +kernel
theorem d_S_piece_7 : decode b_S_piece 7 = .ok (.ifnonnull 5, 3) := by decide +kernel
theorem d_S_piece_10 : decode b_S_piece 10 = .ok (.iconst 0, 1) := by decide +kernel
theorem d_S_piece_11 : decode b_S_piece 11 = .ok (.ireturn, 1) := by decide +kernel
theorem d_S_piece_12 : decode b_S_piece 12 = .ok (.aload_n 2, 1) := by decide +kernel
theorem d_S_piece_13 : decode b_S_piece 13 = .ok (.getfield 37, 3) := by decide +kernel
theorem d_S_piece_16 : decode b_S_piece 16 = .ok (.ifCond .eq 10, 3) := by decide +kernel
theorem d_S_piece_19 : decode b_S_piece 19 = .ok (.aload_n 2, 1) := by decide +kernel
theorem d_S_piece_20 : decode b_S_piece 20 = .ok (.getfield 60, 3) := by decide +kernel
theorem d_S_piece_23 : decode b_S_piece 23 = .ok (.goto 8, 3) := by decide +kernel
theorem d_S_piece_26 : decode b_S_piece 26 = .ok (.aload_n 2, 1) := by decide +kernel
theorem d_S_piece_27 : decode b_S_piece 27 = .ok (.getfield 60, 3) := by decide +kernel
theorem d_S_piece_30 : decode b_S_piece 30 = .ok (.ineg, 1) := by decide +kernel
theorem d_S_piece_31 : decode b_S_piece 31 = .ok (.ireturn, 1) := by decide +kernel
theorem d_S_marked_0 : decode b_S_marked 0 = .ok (.aload_n 0, 1) := by decide +kernel
theorem d_S_marked_1 : decode b_S_marked 1 = .ok (.iload_n 1, 1) := by decide +kernel
theorem d_S_marked_2 : decode b_S_marked 2 = .ok (.invokevirtual 77, 3) := by decide +kernel
theorem d_S_marked_5 : decode b_S_marked 5 = .ok (.astore_n 2, 1) := by decide +kernel
theorem d_S_marked_6 : decode b_S_marked 6 = .ok (.aload_n 2, 1) := by decide +kernel
theorem d_S_marked_7 : decode b_S_marked 7 = .ok (.ifnull 14, 3) := by decide +kernel
theorem d_S_marked_10 : decode b_S_marked 10 = .ok (.aload_n 2, 1) := by decide +kernel
theorem d_S_marked_11 : decode b_S_marked 11 = .ok (.getfield 50, 3) := by decide +kernel
theorem d_S_marked_14 : decode b_S_marked 14 = .ok (.ifCond .eq 7, 3) := by decide +kernel
theorem d_S_marked_17 : decode b_S_marked 17 = .ok (.iconst 1, 1) := by decide +kernel
theorem d_S_marked_18 : decode b_S_marked 18 = .ok (.goto 4, 3) := by decide +kernel
theorem d_S_marked_21 : decode b_S_marked 21 = .ok (.iconst 0, 1) := by decide +kernel
theorem d_S_marked_22 : decode b_S_marked 22 = .ok (.ireturn, 1) := by decide +kernel
theorem d_S_count_0 : decode b_S_count 0 = .ok (.iload_n 1, 1) := by decide +kernel
theorem d_S_count_1 : decode b_S_count 1 = .ok (.tableswitch 90 0 10 #[59, 59, 59, 59, 59, 65, 70, 75, 59, 80, 85], 59) := by decide +kernel
theorem d_S_count_60 : decode b_S_count 60 = .ok (.aload_n 0, 1) := by decide +kernel
theorem d_S_count_61 : decode b_S_count 61 = .ok (.iload_n 1, 1) := by decide +kernel
theorem d_S_count_62 : decode b_S_count 62 = .ok (.invokevirtual 80, 3) := by decide +kernel
theorem d_S_count_65 : decode b_S_count 65 = .ok (.ireturn, 1) := by decide +kernel
theorem d_S_count_66 : decode b_S_count 66 = .ok (.aload_n 0, 1) := by decide +kernel
theorem d_S_count_67 : decode b_S_count 67 = .ok (.invokevirtual 84, 3) := by decide +kernel
theorem d_S_count_70 : decode b_S_count 70 = .ok (.ireturn, 1) := by decide +kernel
theorem d_S_count_71 : decode b_S_count 71 = .ok (.aload_n 0, 1) := by decide +kernel
theorem d_S_count_72 : decode b_S_count 72 = .ok (.getfield 30, 3) := by decide +kernel
theorem d_S_count_75 : decode b_S_count 75 = .ok (.ireturn, 1) := by decide +kernel
theorem d_S_count_76 : decode b_S_count 76 = .ok (.aload_n 0, 1) := by decide +kernel
theorem d_S_count_77 : decode b_S_count 77 = .ok (.getfield 20, 3) := by decide +kernel
theorem d_S_count_80 : decode b_S_count 80 = .ok (.ireturn, 1) := by decide +kernel
theorem d_S_count_81 : decode b_S_count 81 = .ok (.aload_n 0, 1) := by decide +kernel
theorem d_S_count_82 : decode b_S_count 82 = .ok (.getfield 88, 3) := by decide +kernel
theorem d_S_count_85 : decode b_S_count 85 = .ok (.ireturn, 1) := by decide +kernel
theorem d_S_count_86 : decode b_S_count 86 = .ok (.aload_n 0, 1) := by decide +kernel
theorem d_S_count_87 : decode b_S_count 87 = .ok (.getfield 91, 3) := by decide +kernel
theorem d_S_count_90 : decode b_S_count 90 = .ok (.ireturn, 1) := by decide +kernel
theorem d_S_count_91 : decode b_S_count 91 = .ok (.new 13, 3) := by decide +kernel
theorem d_S_count_94 : decode b_S_count 94 = .ok (.dup, 1) := by decide +kernel
theorem d_S_count_95 : decode b_S_count 95 = .ok (.ldc 94, 2) := by decide +kernel
theorem d_S_count_97 : decode b_S_count 97 = .ok (.invokespecial 17, 3) := by decide +kernel
theorem d_S_count_100 : decode b_S_count 100 = .ok (.athrow, 1) := by decide +kernel
theorem d_S_faults_0 : decode b_S_faults 0 = .ok (.iconst 0, 1) := by decide +kernel
theorem d_S_faults_1 : decode b_S_faults 1 = .ok (.istore_n 1, 1) := by decide +kernel
theorem d_S_faults_2 : decode b_S_faults 2 = .ok (.iconst 1, 1) := by decide +kernel
theorem d_S_faults_3 : decode b_S_faults 3 = .ok (.istore_n 2, 1) := by decide +kernel
theorem d_S_faults_4 : decode b_S_faults 4 = .ok (.aload_n 0, 1) := by decide +kernel
theorem d_S_faults_5 : decode b_S_faults 5 = .ok (.getfield 43, 3) := by decide +kernel
theorem d_S_faults_8 : decode b_S_faults 8 = .ok (.ifnonnull 7, 3) := by decide +kernel
theorem d_S_faults_11 : decode b_S_faults 11 = .ok (.iconst 1, 1) := by decide +kernel
theorem d_S_faults_12 : decode b_S_faults 12 = .ok (.goto 4, 3) := by decide +kernel
theorem d_S_faults_15 : decode b_S_faults 15 = .ok (.iconst 0, 1) := by decide +kernel
theorem d_S_faults_16 : decode b_S_faults 16 = .ok (.istore_n 3, 1) := by decide +kernel
theorem d_S_faults_17 : decode b_S_faults 17 = .ok (.aload_n 0, 1) := by decide +kernel
theorem d_S_faults_18 : decode b_S_faults 18 = .ok (.getfield 66, 3) := by decide +kernel
theorem d_S_faults_21 : decode b_S_faults 21 = .ok (.astore 4, 2) := by decide +kernel
theorem d_S_faults_23 : decode b_S_faults 23 = .ok (.aload 4, 2) := by decide +kernel
theorem d_S_faults_25 : decode b_S_faults 25 = .ok (.ifnull 106, 3) := by decide +kernel
theorem d_S_faults_28 : decode b_S_faults 28 = .ok (.iload_n 3, 1) := by decide +kernel
theorem d_S_faults_29 : decode b_S_faults 29 = .ok (.ifCond .ne 12, 3) := by decide +kernel
theorem d_S_faults_32 : decode b_S_faults 32 = .ok (.aload 4, 2) := by decide +kernel
theorem d_S_faults_34 : decode b_S_faults 34 = .ok (.aload_n 0, 1) := by decide +kernel
theorem d_S_faults_35 : decode b_S_faults 35 = .ok (.getfield 43, 3) := by decide +kernel
theorem d_S_faults_38 : decode b_S_faults 38 = .ok (.if_acmp .ne 7, 3) := by decide +kernel
theorem d_S_faults_41 : decode b_S_faults 41 = .ok (.iconst 1, 1) := by decide +kernel
theorem d_S_faults_42 : decode b_S_faults 42 = .ok (.goto 4, 3) := by decide +kernel
theorem d_S_faults_45 : decode b_S_faults 45 = .ok (.iconst 0, 1) := by decide +kernel
theorem d_S_faults_46 : decode b_S_faults 46 = .ok (.istore_n 3, 1) := by decide +kernel
theorem d_S_faults_47 : decode b_S_faults 47 = .ok (.iload_n 1, 1) := by decide +kernel
theorem d_S_faults_48 : decode b_S_faults 48 = .ok (.aload 4, 2) := by decide +kernel
theorem d_S_faults_50 : decode b_S_faults 50 = .ok (.getfield 47, 3) := by decide +kernel
theorem d_S_faults_53 : decode b_S_faults 53 = .ok (.iload_n 2, 1) := by decide +kernel
theorem d_S_faults_54 : decode b_S_faults 54 = .ok (.if_icmp .ne 7, 3) := by decide +kernel
theorem d_S_faults_57 : decode b_S_faults 57 = .ok (.iconst 0, 1) := by decide +kernel
theorem d_S_faults_58 : decode b_S_faults 58 = .ok (.goto 4, 3) := by decide +kernel
theorem d_S_faults_61 : decode b_S_faults 61 = .ok (.iconst 1, 1) := by decide +kernel
theorem d_S_faults_62 : decode b_S_faults 62 = .ok (.iadd, 1) := by decide +kernel
theorem d_S_faults_63 : decode b_S_faults 63 = .ok (.istore_n 1, 1) := by decide +kernel
theorem d_S_faults_64 : decode b_S_faults 64 = .ok (.iload_n 1, 1) := by decide +kernel
theorem d_S_faults_65 : decode b_S_faults 65 = .ok (.aload 4, 2) := by decide +kernel
theorem d_S_faults_67 : decode b_S_faults 67 = .ok (.getfield 60, 3) := by decide +kernel
theorem d_S_faults_70 : decode b_S_faults 70 = .ok (.iconst 1, 1) := by decide +kernel
theorem d_S_faults_71 : decode b_S_faults 71 = .ok (.if_icmp .lt 7, 3) := by decide +kernel
theorem d_S_faults_74 : decode b_S_faults 74 = .ok (.iconst 0, 1) := by decide +kernel
theorem d_S_faults_75 : decode b_S_faults 75 = .ok (.goto 4, 3) := by decide +kernel
theorem d_S_faults_78 : decode b_S_faults 78 = .ok (.iconst 1, 1) := by decide +kernel
theorem d_S_faults_79 : decode b_S_faults 79 = .ok (.iadd, 1) := by decide +kernel
theorem d_S_faults_80 : decode b_S_faults 80 = .ok (.istore_n 1, 1) := by decide +kernel
theorem d_S_faults_81 : decode b_S_faults 81 = .ok (.iload_n 1, 1) := by decide +kernel
theorem d_S_faults_82 : decode b_S_faults 82 = .ok (.aload 4, 2) := by decide +kernel
theorem d_S_faults_84 : decode b_S_faults 84 = .ok (.iload_n 3, 1) := by decide +kernel
theorem d_S_faults_85 : decode b_S_faults 85 = .ok (.invokestatic 96, 3) := by decide +kernel
theorem d_S_faults_88 : decode b_S_faults 88 = .ok (.ifCond .eq 7, 3) := by decide +kernel
theorem d_S_faults_91 : decode b_S_faults 91 = .ok (.iconst 0, 1) := by decide +kernel
theorem d_S_faults_92 : decode b_S_faults 92 = .ok (.goto 4, 3) := by decide +kernel
theorem d_S_faults_95 : decode b_S_faults 95 = .ok (.iconst 1, 1) := by decide +kernel
theorem d_S_faults_96 : decode b_S_faults 96 = .ok (.iadd, 1) := by decide +kernel
theorem d_S_faults_97 : decode b_S_faults 97 = .ok (.istore_n 1, 1) := by decide +kernel
theorem d_S_faults_98 : decode b_S_faults 98 = .ok (.iload_n 1, 1) := by decide +kernel
theorem d_S_faults_99 : decode b_S_faults 99 = .ok (.aload_n 0, 1) := by decide +kernel
theorem d_S_faults_100 : decode b_S_faults 100 = .ok (.aload 4, 2) := by decide +kernel
theorem d_S_faults_102 : decode b_S_faults 102 = .ok (.invokevirtual 100, 3) := by decide +kernel
theorem d_S_faults_105 : decode b_S_faults 105 = .ok (.ifCond .eq 7, 3) := by decide +kernel
theorem d_S_faults_108 : decode b_S_faults 108 = .ok (.iconst 0, 1) := by decide +kernel
theorem d_S_faults_109 : decode b_S_faults 109 = .ok (.goto 4, 3) := by decide +kernel
theorem d_S_faults_112 : decode b_S_faults 112 = .ok (.iconst 1, 1) := by decide +kernel
theorem d_S_faults_113 : decode b_S_faults 113 = .ok (.iadd, 1) := by decide +kernel
theorem d_S_faults_114 : decode b_S_faults 114 = .ok (.istore_n 1, 1) := by decide +kernel
theorem d_S_faults_115 : decode b_S_faults 115 = .ok (.aload 4, 2) := by decide +kernel
theorem d_S_faults_117 : decode b_S_faults 117 = .ok (.invokevirtual 104, 3) := by decide +kernel
theorem d_S_faults_120 : decode b_S_faults 120 = .ok (.istore_n 2, 1) := by decide +kernel
theorem d_S_faults_121 : decode b_S_faults 121 = .ok (.aload 4, 2) := by decide +kernel
theorem d_S_faults_123 : decode b_S_faults 123 = .ok (.getfield 69, 3) := by decide +kernel
theorem d_S_faults_126 : decode b_S_faults 126 = .ok (.astore 4, 2) := by decide +kernel
theorem d_S_faults_128 : decode b_S_faults 128 = .ok (.goto (-105), 3) := by decide +kernel
theorem d_S_faults_131 : decode b_S_faults 131 = .ok (.iload_n 1, 1) := by decide +kernel
theorem d_S_faults_132 : decode b_S_faults 132 = .ok (.iload_n 2, 1) := by decide +kernel
theorem d_S_faults_133 : decode b_S_faults 133 = .ok (.iconst 1, 1) := by decide +kernel
theorem d_S_faults_134 : decode b_S_faults 134 = .ok (.aload_n 0, 1) := by decide +kernel
theorem d_S_faults_135 : decode b_S_faults 135 = .ok (.getfield 20, 3) := by decide +kernel
theorem d_S_faults_138 : decode b_S_faults 138 = .ok (.iadd, 1) := by decide +kernel
theorem d_S_faults_139 : decode b_S_faults 139 = .ok (.if_icmp .ne 7, 3) := by decide +kernel
theorem d_S_faults_142 : decode b_S_faults 142 = .ok (.iconst 0, 1) := by decide +kernel
theorem d_S_faults_143 : decode b_S_faults 143 = .ok (.goto 4, 3) := by decide +kernel
theorem d_S_faults_146 : decode b_S_faults 146 = .ok (.iconst 1, 1) := by decide +kernel
theorem d_S_faults_147 : decode b_S_faults 147 = .ok (.iadd, 1) := by decide +kernel
theorem d_S_faults_148 : decode b_S_faults 148 = .ok (.istore_n 1, 1) := by decide +kernel
theorem d_S_faults_149 : decode b_S_faults 149 = .ok (.iload_n 1, 1) := by decide +kernel
theorem d_S_faults_150 : decode b_S_faults 150 = .ok (.iload_n 3, 1) := by decide +kernel
theorem d_S_faults_151 : decode b_S_faults 151 = .ok (.ifCond .eq 7, 3) := by decide +kernel
theorem d_S_faults_154 : decode b_S_faults 154 = .ok (.iconst 0, 1) := by decide +kernel
theorem d_S_faults_155 : decode b_S_faults 155 = .ok (.goto 4, 3) := by decide +kernel
theorem d_S_faults_158 : decode b_S_faults 158 = .ok (.iconst 1, 1) := by decide +kernel
theorem d_S_faults_159 : decode b_S_faults 159 = .ok (.iadd, 1) := by decide +kernel
theorem d_S_faults_160 : decode b_S_faults 160 = .ok (.istore_n 1, 1) := by decide +kernel
theorem d_S_faults_161 : decode b_S_faults 161 = .ok (.iload_n 1, 1) := by decide +kernel
theorem d_S_faults_162 : decode b_S_faults 162 = .ok (.ireturn, 1) := by decide +kernel
theorem d_S_startAnew_0 : decode b_S_startAnew 0 = .ok (.aload_n 0, 1) := by decide +kernel
theorem d_S_startAnew_1 : decode b_S_startAnew 1 = .ok (.iload_n 1, 1) := by decide +kernel
theorem d_S_startAnew_2 : decode b_S_startAnew 2 = .ok (.putfield 20, 3) := by decide +kernel
theorem d_S_startAnew_5 : decode b_S_startAnew 5 = .ok (.aload_n 0, 1) := by decide +kernel
theorem d_S_startAnew_6 : decode b_S_startAnew 6 = .ok (.new 38, 3) := by decide +kernel
theorem d_S_startAnew_9 : decode b_S_startAnew 9 = .ok (.dup, 1) := by decide +kernel
theorem d_S_startAnew_10 : decode b_S_startAnew 10 = .ok (.iconst 1, 1) := by decide +kernel
theorem d_S_startAnew_11 : decode b_S_startAnew 11 = .ok (.iload_n 1, 1) := by decide +kernel
theorem d_S_startAnew_12 : decode b_S_startAnew 12 = .ok (.aconst_null, 1) := by decide +kernel
theorem d_S_startAnew_13 : decode b_S_startAnew 13 = .ok (.invokespecial 107, 3) := by decide +kernel
theorem d_S_startAnew_16 : decode b_S_startAnew 16 = .ok (.putfield 66, 3) := by decide +kernel
theorem d_S_startAnew_19 : decode b_S_startAnew 19 = .ok (.aload_n 0, 1) := by decide +kernel
end
section
theorem d_S_startAnew_20 : decode b_S_startAnew 20 = .ok (.aconst_null, 1) := by decide +kernel
theorem d_S_startAnew_21 : decode b_S_startAnew 21 = .ok (.putfield 43, 3) := by decide +kernel
theorem d_S_startAnew_24 : decode b_S_startAnew 24 = .ok (.aload_n 0, 1) := by decide +kernel
theorem d_S_startAnew_25 : decode b_S_startAnew 25 = .ok (.lconst 0, 1) := by decide +kernel
theorem d_S_startAnew_26 : decode b_S_startAnew 26 = .ok (.putfield 110, 3) := by decide +kernel
theorem d_S_startAnew_29 : decode b_S_startAnew 29 = .ok (.aload_n 0, 1) := by decide +kernel
theorem d_S_startAnew_30 : decode b_S_startAnew 30 = .ok (.iconst 0, 1) := by decide +kernel
theorem d_S_startAnew_31 : decode b_S_startAnew 31 = .ok (.putfield 30, 3) := by decide +kernel
theorem d_S_startAnew_34 : decode b_S_startAnew 34 = .ok (.aload_n 0, 1) := by decide +kernel
theorem d_S_startAnew_35 : decode b_S_startAnew 35 = .ok (.iconst 0, 1) := by decide +kernel
theorem d_S_startAnew_36 : decode b_S_startAnew 36 = .ok (.putfield 88, 3) := by decide +kernel
theorem d_S_startAnew_39 : decode b_S_startAnew 39 = .ok (.aload_n 0, 1) := by decide +kernel
theorem d_S_startAnew_40 : decode b_S_startAnew 40 = .ok (.iconst 0, 1) := by decide +kernel
theorem d_S_startAnew_41 : decode b_S_startAnew 41 = .ok (.putfield 91, 3) := by decide +kernel
theorem d_S_startAnew_44 : decode b_S_startAnew 44 = .ok (.aload_n 0, 1) := by decide +kernel
theorem d_S_startAnew_45 : decode b_S_startAnew 45 = .ok (.aload_n 0, 1) := by decide +kernel
theorem d_S_startAnew_46 : decode b_S_startAnew 46 = .ok (.getfield 66, 3) := by decide +kernel
theorem d_S_startAnew_49 : decode b_S_startAnew 49 = .ok (.invokevirtual 56, 3) := by decide +kernel
theorem d_S_startAnew_52 : decode b_S_startAnew 52 = .ok (.return_, 1) := by decide +kernel
theorem d_S_comeToBeFree_0 : decode b_S_comeToBeFree 0 = .ok (.aload_n 1, 1) := by decide +kernel
theorem d_S_comeToBeFree_1 : decode b_S_comeToBeFree 1 = .ok (.iconst 0, 1) := by decide +kernel
theorem d_S_comeToBeFree_2 : decode b_S_comeToBeFree 2 = .ok (.putfield 37, 3) := by decide +kernel
theorem d_S_comeToBeFree_5 : decode b_S_comeToBeFree 5 = .ok (.aload_n 1, 1) := by decide +kernel
theorem d_S_comeToBeFree_6 : decode b_S_comeToBeFree 6 = .ok (.iconst 0, 1) := by decide +kernel
theorem d_S_comeToBeFree_7 : decode b_S_comeToBeFree 7 = .ok (.putfield 50, 3) := by decide +kernel
theorem d_S_comeToBeFree_10 : decode b_S_comeToBeFree 10 = .ok (.aload_n 0, 1) := by decide +kernel
theorem d_S_comeToBeFree_11 : decode b_S_comeToBeFree 11 = .ok (.dup, 1) := by decide +kernel
theorem d_S_comeToBeFree_12 : decode b_S_comeToBeFree 12 = .ok (.getfield 110, 3) := by decide +kernel
theorem d_S_comeToBeFree_15 : decode b_S_comeToBeFree 15 = .ok (.lconst 1, 1) := by decide +kernel
theorem d_S_comeToBeFree_16 : decode b_S_comeToBeFree 16 = .ok (.ladd, 1) := by decide +kernel
theorem d_S_comeToBeFree_17 : decode b_S_comeToBeFree 17 = .ok (.putfield 110, 3) := by decide +kernel
theorem d_S_comeToBeFree_20 : decode b_S_comeToBeFree 20 = .ok (.aload_n 1, 1) := by decide +kernel
theorem d_S_comeToBeFree_21 : decode b_S_comeToBeFree 21 = .ok (.aload_n 0, 1) := by decide +kernel
theorem d_S_comeToBeFree_22 : decode b_S_comeToBeFree 22 = .ok (.getfield 110, 3) := by decide +kernel
theorem d_S_comeToBeFree_25 : decode b_S_comeToBeFree 25 = .ok (.putfield 114, 3) := by decide +kernel
theorem d_S_comeToBeFree_28 : decode b_S_comeToBeFree 28 = .ok (.return_, 1) := by decide +kernel
theorem d_S_refuseDuringSweep_0 : decode b_S_refuseDuringSweep 0 = .ok (.aload_n 0, 1) := by decide +kernel
theorem d_S_refuseDuringSweep_1 : decode b_S_refuseDuringSweep 1 = .ok (.getfield 43, 3) := by decide +kernel
theorem d_S_refuseDuringSweep_4 : decode b_S_refuseDuringSweep 4 = .ok (.ifnull 13, 3) := by decide +kernel
theorem d_S_refuseDuringSweep_7 : decode b_S_refuseDuringSweep 7 = .ok (.new 117, 3) := by decide +kernel
theorem d_S_refuseDuringSweep_10 : decode b_S_refuseDuringSweep 10 = .ok (.dup, 1) := by decide +kernel
theorem d_S_refuseDuringSweep_11 : decode b_S_refuseDuringSweep 11 = .ok (.ldc 119, 2) := by decide +kernel
theorem d_S_refuseDuringSweep_13 : decode b_S_refuseDuringSweep 13 = .ok (.invokespecial 121, 3) := by decide +kernel
theorem d_S_refuseDuringSweep_16 : decode b_S_refuseDuringSweep 16 = .ok (.athrow, 1) := by decide +kernel
theorem d_S_refuseDuringSweep_17 : decode b_S_refuseDuringSweep 17 = .ok (.return_, 1) := by decide +kernel
theorem d_S_pieceAt_0 : decode b_S_pieceAt 0 = .ok (.aload_n 0, 1) := by decide +kernel
theorem d_S_pieceAt_1 : decode b_S_pieceAt 1 = .ok (.getfield 66, 3) := by decide +kernel
theorem d_S_pieceAt_4 : decode b_S_pieceAt 4 = .ok (.astore_n 2, 1) := by decide +kernel
theorem d_S_pieceAt_5 : decode b_S_pieceAt 5 = .ok (.aload_n 2, 1) := by decide +kernel
theorem d_S_pieceAt_6 : decode b_S_pieceAt 6 = .ok (.ifnull 29, 3) := by decide +kernel
theorem d_S_pieceAt_9 : decode b_S_pieceAt 9 = .ok (.aload_n 2, 1) := by decide +kernel
theorem d_S_pieceAt_10 : decode b_S_pieceAt 10 = .ok (.getfield 47, 3) := by decide +kernel
theorem d_S_pieceAt_13 : decode b_S_pieceAt 13 = .ok (.iload_n 1, 1) := by decide +kernel
theorem d_S_pieceAt_14 : decode b_S_pieceAt 14 = .ok (.if_icmp .gt 21, 3) := by decide +kernel
theorem d_S_pieceAt_17 : decode b_S_pieceAt 17 = .ok (.aload_n 2, 1) := by decide +kernel
theorem d_S_pieceAt_18 : decode b_S_pieceAt 18 = .ok (.getfield 47, 3) := by decide +kernel
theorem d_S_pieceAt_21 : decode b_S_pieceAt 21 = .ok (.iload_n 1, 1) := by decide +kernel
theorem d_S_pieceAt_22 : decode b_S_pieceAt 22 = .ok (.if_icmp .ne 5, 3) := by decide +kernel
theorem d_S_pieceAt_25 : decode b_S_pieceAt 25 = .ok (.aload_n 2, 1) := by decide +kernel
theorem d_S_pieceAt_26 : decode b_S_pieceAt 26 = .ok (.areturn, 1) := by decide +kernel
theorem d_S_pieceAt_27 : decode b_S_pieceAt 27 = .ok (.aload_n 2, 1) := by decide +kernel
theorem d_S_pieceAt_28 : decode b_S_pieceAt 28 = .ok (.getfield 69, 3) := by decide +kernel
theorem d_S_pieceAt_31 : decode b_S_pieceAt 31 = .ok (.astore_n 2, 1) := by decide +kernel
theorem d_S_pieceAt_32 : decode b_S_pieceAt 32 = .ok (.goto (-27), 3) := by decide +kernel
theorem d_S_pieceAt_35 : decode b_S_pieceAt 35 = .ok (.aconst_null, 1) := by decide +kernel
theorem d_S_pieceAt_36 : decode b_S_pieceAt 36 = .ok (.areturn, 1) := by decide +kernel
theorem d_S_usedPieceAt_0 : decode b_S_usedPieceAt 0 = .ok (.aload_n 0, 1) := by decide +kernel
theorem d_S_usedPieceAt_1 : decode b_S_usedPieceAt 1 = .ok (.iload_n 1, 1) := by decide +kernel
theorem d_S_usedPieceAt_2 : decode b_S_usedPieceAt 2 = .ok (.invokevirtual 77, 3) := by decide +kernel
theorem d_S_usedPieceAt_5 : decode b_S_usedPieceAt 5 = .ok (.astore_n 2, 1) := by decide +kernel
theorem d_S_usedPieceAt_6 : decode b_S_usedPieceAt 6 = .ok (.aload_n 2, 1) := by decide +kernel
theorem d_S_usedPieceAt_7 : decode b_S_usedPieceAt 7 = .ok (.ifnull 10, 3) := by decide +kernel
theorem d_S_usedPieceAt_10 : decode b_S_usedPieceAt 10 = .ok (.aload_n 2, 1) := by decide +kernel
theorem d_S_usedPieceAt_11 : decode b_S_usedPieceAt 11 = .ok (.getfield 37, 3) := by decide +kernel
theorem d_S_usedPieceAt_14 : decode b_S_usedPieceAt 14 = .ok (.ifCond .ne 13, 3) := by decide +kernel
theorem d_S_usedPieceAt_17 : decode b_S_usedPieceAt 17 = .ok (.new 122, 3) := by decide +kernel
theorem d_S_usedPieceAt_20 : decode b_S_usedPieceAt 20 = .ok (.dup, 1) := by decide +kernel
theorem d_S_usedPieceAt_21 : decode b_S_usedPieceAt 21 = .ok (.ldc 124, 2) := by decide +kernel
theorem d_S_usedPieceAt_23 : decode b_S_usedPieceAt 23 = .ok (.invokespecial 126, 3) := by decide +kernel
theorem d_S_usedPieceAt_26 : decode b_S_usedPieceAt 26 = .ok (.athrow, 1) := by decide +kernel
theorem d_S_usedPieceAt_27 : decode b_S_usedPieceAt 27 = .ok (.aload_n 2, 1) := by decide +kernel
theorem d_S_usedPieceAt_28 : decode b_S_usedPieceAt 28 = .ok (.areturn, 1) := by decide +kernel
theorem d_S_whatIsTakenFor_0 : decode b_S_whatIsTakenFor 0 = .ok (.aconst_null, 1) := by decide +kernel
theorem d_S_whatIsTakenFor_1 : decode b_S_whatIsTakenFor 1 = .ok (.astore_n 2, 1) := by decide +kernel
theorem d_S_whatIsTakenFor_2 : decode b_S_whatIsTakenFor 2 = .ok (.aload_n 0, 1) := by decide +kernel
theorem d_S_whatIsTakenFor_3 : decode b_S_whatIsTakenFor 3 = .ok (.getfield 66, 3) := by decide +kernel
theorem d_S_whatIsTakenFor_6 : decode b_S_whatIsTakenFor 6 = .ok (.astore_n 3, 1) := by decide +kernel
theorem d_S_whatIsTakenFor_7 : decode b_S_whatIsTakenFor 7 = .ok (.aload_n 3, 1) := by decide +kernel
theorem d_S_whatIsTakenFor_8 : decode b_S_whatIsTakenFor 8 = .ok (.ifnull 40, 3) := by decide +kernel
theorem d_S_whatIsTakenFor_11 : decode b_S_whatIsTakenFor 11 = .ok (.aload_n 3, 1) := by decide +kernel
theorem d_S_whatIsTakenFor_12 : decode b_S_whatIsTakenFor 12 = .ok (.invokevirtual 127, 3) := by decide +kernel
theorem d_S_whatIsTakenFor_15 : decode b_S_whatIsTakenFor 15 = .ok (.ifCond .eq 25, 3) := by decide +kernel
theorem d_S_whatIsTakenFor_18 : decode b_S_whatIsTakenFor 18 = .ok (.aload_n 3, 1) := by decide +kernel
theorem d_S_whatIsTakenFor_19 : decode b_S_whatIsTakenFor 19 = .ok (.getfield 60, 3) := by decide +kernel
theorem d_S_whatIsTakenFor_22 : decode b_S_whatIsTakenFor 22 = .ok (.iload_n 1, 1) := by decide +kernel
theorem d_S_whatIsTakenFor_23 : decode b_S_whatIsTakenFor 23 = .ok (.if_icmp .lt 17, 3) := by decide +kernel
theorem d_S_whatIsTakenFor_26 : decode b_S_whatIsTakenFor 26 = .ok (.aload_n 2, 1) := by decide +kernel
theorem d_S_whatIsTakenFor_27 : decode b_S_whatIsTakenFor 27 = .ok (.ifnull 11, 3) := by decide +kernel
theorem d_S_whatIsTakenFor_30 : decode b_S_whatIsTakenFor 30 = .ok (.aload_n 3, 1) := by decide +kernel
theorem d_S_whatIsTakenFor_31 : decode b_S_whatIsTakenFor 31 = .ok (.aload_n 2, 1) := by decide +kernel
theorem d_S_whatIsTakenFor_32 : decode b_S_whatIsTakenFor 32 = .ok (.invokestatic 131, 3) := by decide +kernel
theorem d_S_whatIsTakenFor_35 : decode b_S_whatIsTakenFor 35 = .ok (.ifCond .eq 5, 3) := by decide +kernel
theorem d_S_whatIsTakenFor_38 : decode b_S_whatIsTakenFor 38 = .ok (.aload_n 3, 1) := by decide +kernel
theorem d_S_whatIsTakenFor_39 : decode b_S_whatIsTakenFor 39 = .ok (.astore_n 2, 1) := by decide +kernel
theorem d_S_whatIsTakenFor_40 : decode b_S_whatIsTakenFor 40 = .ok (.aload_n 3, 1) := by decide +kernel
theorem d_S_whatIsTakenFor_41 : decode b_S_whatIsTakenFor 41 = .ok (.getfield 69, 3) := by decide +kernel
theorem d_S_whatIsTakenFor_44 : decode b_S_whatIsTakenFor 44 = .ok (.astore_n 3, 1) := by decide +kernel
theorem d_S_whatIsTakenFor_45 : decode b_S_whatIsTakenFor 45 = .ok (.goto (-38), 3) := by decide +kernel
theorem d_S_whatIsTakenFor_48 : decode b_S_whatIsTakenFor 48 = .ok (.aload_n 2, 1) := by decide +kernel
theorem d_S_whatIsTakenFor_49 : decode b_S_whatIsTakenFor 49 = .ok (.areturn, 1) := by decide +kernel
theorem d_S_isTakenBefore_0 : decode b_S_isTakenBefore 0 = .ok (.aload_n 0, 1) := by decide +kernel
theorem d_S_isTakenBefore_1 : decode b_S_isTakenBefore 1 = .ok (.getfield 60, 3) := by decide +kernel
theorem d_S_isTakenBefore_4 : decode b_S_isTakenBefore 4 = .ok (.aload_n 1, 1) := by decide +kernel
theorem d_S_isTakenBefore_5 : decode b_S_isTakenBefore 5 = .ok (.getfield 60, 3) := by decide +kernel
theorem d_S_isTakenBefore_8 : decode b_S_isTakenBefore 8 = .ok (.if_icmp .eq 20, 3) := by decide +kernel
theorem d_S_isTakenBefore_11 : decode b_S_isTakenBefore 11 = .ok (.aload_n 0, 1) := by decide +kernel
theorem d_S_isTakenBefore_12 : decode b_S_isTakenBefore 12 = .ok (.getfield 60, 3) := by decide +kernel
theorem d_S_isTakenBefore_15 : decode b_S_isTakenBefore 15 = .ok (.aload_n 1, 1) := by decide +kernel
theorem d_S_isTakenBefore_16 : decode b_S_isTakenBefore 16 = .ok (.getfield 60, 3) := by decide +kernel
theorem d_S_isTakenBefore_19 : decode b_S_isTakenBefore 19 = .ok (.if_icmp .ge 7, 3) := by decide +kernel
theorem d_S_isTakenBefore_22 : decode b_S_isTakenBefore 22 = .ok (.iconst 1, 1) := by decide +kernel
theorem d_S_isTakenBefore_23 : decode b_S_isTakenBefore 23 = .ok (.goto 4, 3) := by decide +kernel
theorem d_S_isTakenBefore_26 : decode b_S_isTakenBefore 26 = .ok (.iconst 0, 1) := by decide +kernel
theorem d_S_isTakenBefore_27 : decode b_S_isTakenBefore 27 = .ok (.ireturn, 1) := by decide +kernel
theorem d_S_isTakenBefore_28 : decode b_S_isTakenBefore 28 = .ok (.aload_n 0, 1) := by decide +kernel
theorem d_S_isTakenBefore_29 : decode b_S_isTakenBefore 29 = .ok (.getfield 114, 3) := by decide +kernel
theorem d_S_isTakenBefore_32 : decode b_S_isTakenBefore 32 = .ok (.aload_n 1, 1) := by decide +kernel
theorem d_S_isTakenBefore_33 : decode b_S_isTakenBefore 33 = .ok (.getfield 114, 3) := by decide +kernel
theorem d_S_isTakenBefore_36 : decode b_S_isTakenBefore 36 = .ok (.lcmp, 1) := by decide +kernel
theorem d_S_isTakenBefore_37 : decode b_S_isTakenBefore 37 = .ok (.ifCond .le 7, 3) := by decide +kernel
theorem d_S_isTakenBefore_40 : decode b_S_isTakenBefore 40 = .ok (.iconst 1, 1) := by decide +kernel
theorem d_S_isTakenBefore_41 : decode b_S_isTakenBefore 41 = .ok (.goto 4, 3) := by decide +kernel
theorem d_S_isTakenBefore_44 : decode b_S_isTakenBefore 44 = .ok (.iconst 0, 1) := by decide +kernel
theorem d_S_isTakenBefore_45 : decode b_S_isTakenBefore 45 = .ok (.ireturn, 1) := by decide +kernel
theorem d_S_cutTo_0 : decode b_S_cutTo 0 = .ok (.aload_n 1, 1) := by decide +kernel
theorem d_S_cutTo_1 : decode b_S_cutTo 1 = .ok (.getfield 60, 3) := by decide +kernel
theorem d_S_cutTo_4 : decode b_S_cutTo 4 = .ok (.iload_n 2, 1) := by decide +kernel
theorem d_S_cutTo_5 : decode b_S_cutTo 5 = .ok (.if_icmp .gt 4, 3) := by decide +kernel
theorem d_S_cutTo_8 : decode b_S_cutTo 8 = .ok (.return_, 1) := by decide +kernel
theorem d_S_cutTo_9 : decode b_S_cutTo 9 = .ok (.new 38, 3) := by decide +kernel
theorem d_S_cutTo_12 : decode b_S_cutTo 12 = .ok (.dup, 1) := by decide +kernel
theorem d_S_cutTo_13 : decode b_S_cutTo 13 = .ok (.aload_n 1, 1) := by decide +kernel
theorem d_S_cutTo_14 : decode b_S_cutTo 14 = .ok (.getfield 47, 3) := by decide +kernel
theorem d_S_cutTo_17 : decode b_S_cutTo 17 = .ok (.iload_n 2, 1) := by decide +kernel
theorem d_S_cutTo_18 : decode b_S_cutTo 18 = .ok (.iadd, 1) := by decide +kernel
theorem d_S_cutTo_19 : decode b_S_cutTo 19 = .ok (.aload_n 1, 1) := by decide +kernel
theorem d_S_cutTo_20 : decode b_S_cutTo 20 = .ok (.getfield 60, 3) := by decide +kernel
theorem d_S_cutTo_23 : decode b_S_cutTo 23 = .ok (.iload_n 2, 1) := by decide +kernel
theorem d_S_cutTo_24 : decode b_S_cutTo 24 = .ok (.isub, 1) := by decide +kernel
theorem d_S_cutTo_25 : decode b_S_cutTo 25 = .ok (.aload_n 1, 1) := by decide +kernel
theorem d_S_cutTo_26 : decode b_S_cutTo 26 = .ok (.getfield 69, 3) := by decide +kernel
theorem d_S_cutTo_29 : decode b_S_cutTo 29 = .ok (.invokespecial 107, 3) := by decide +kernel
theorem d_S_cutTo_32 : decode b_S_cutTo 32 = .ok (.astore_n 3, 1) := by decide +kernel
theorem d_S_cutTo_33 : decode b_S_cutTo 33 = .ok (.aload_n 1, 1) := by decide +kernel
theorem d_S_cutTo_34 : decode b_S_cutTo 34 = .ok (.iload_n 2, 1) := by decide +kernel
theorem d_S_cutTo_35 : decode b_S_cutTo 35 = .ok (.putfield 60, 3) := by decide +kernel
theorem d_S_cutTo_38 : decode b_S_cutTo 38 = .ok (.aload_n 1, 1) := by decide +kernel
theorem d_S_cutTo_39 : decode b_S_cutTo 39 = .ok (.aload_n 3, 1) := by decide +kernel
theorem d_S_cutTo_40 : decode b_S_cutTo 40 = .ok (.putfield 69, 3) := by decide +kernel
theorem d_S_cutTo_43 : decode b_S_cutTo 43 = .ok (.aload_n 0, 1) := by decide +kernel
theorem d_S_cutTo_44 : decode b_S_cutTo 44 = .ok (.aload_n 3, 1) := by decide +kernel
theorem d_S_cutTo_45 : decode b_S_cutTo 45 = .ok (.invokevirtual 56, 3) := by decide +kernel
theorem d_S_cutTo_48 : decode b_S_cutTo 48 = .ok (.return_, 1) := by decide +kernel
theorem d_S_stepFrom_0 : decode b_S_stepFrom 0 = .ok (.aload_n 1, 1) := by decide +kernel
theorem d_S_stepFrom_1 : decode b_S_stepFrom 1 = .ok (.invokevirtual 135, 3) := by decide +kernel
theorem d_S_stepFrom_4 : decode b_S_stepFrom 4 = .ok (.ifCond .eq 11, 3) := by decide +kernel
theorem d_S_stepFrom_7 : decode b_S_stepFrom 7 = .ok (.aload_n 1, 1) := by decide +kernel
theorem d_S_stepFrom_8 : decode b_S_stepFrom 8 = .ok (.iconst 0, 1) := by decide +kernel
theorem d_S_stepFrom_9 : decode b_S_stepFrom 9 = .ok (.putfield 50, 3) := by decide +kernel
theorem d_S_stepFrom_12 : decode b_S_stepFrom 12 = .ok (.goto 8, 3) := by decide +kernel
theorem d_S_stepFrom_15 : decode b_S_stepFrom 15 = .ok (.aload_n 0, 1) := by decide +kernel
theorem d_S_stepFrom_16 : decode b_S_stepFrom 16 = .ok (.aload_n 1, 1) := by decide +kernel
theorem d_S_stepFrom_17 : decode b_S_stepFrom 17 = .ok (.invokevirtual 138, 3) := by decide +kernel
theorem d_S_stepFrom_20 : decode b_S_stepFrom 20 = .ok (.aload_n 0, 1) := by decide +kernel
theorem d_S_stepFrom_21 : decode b_S_stepFrom 21 = .ok (.aload_n 1, 1) := by decide +kernel
theorem d_S_stepFrom_22 : decode b_S_stepFrom 22 = .ok (.getfield 69, 3) := by decide +kernel
theorem d_S_stepFrom_25 : decode b_S_stepFrom 25 = .ok (.putfield 43, 3) := by decide +kernel
theorem d_S_stepFrom_28 : decode b_S_stepFrom 28 = .ok (.aload_n 0, 1) := by decide +kernel
theorem d_S_stepFrom_29 : decode b_S_stepFrom 29 = .ok (.getfield 43, 3) := by decide +kernel
theorem d_S_stepFrom_32 : decode b_S_stepFrom 32 = .ok (.ifnonnull 13, 3) := by decide +kernel
theorem d_S_stepFrom_35 : decode b_S_stepFrom 35 = .ok (.aload_n 0, 1) := by decide +kernel
theorem d_S_stepFrom_36 : decode b_S_stepFrom 36 = .ok (.dup, 1) := by decide +kernel
theorem d_S_stepFrom_37 : decode b_S_stepFrom 37 = .ok (.getfield 91, 3) := by decide +kernel
theorem d_S_stepFrom_40 : decode b_S_stepFrom 40 = .ok (.iconst 1, 1) := by decide +kernel
theorem d_S_stepFrom_41 : decode b_S_stepFrom 41 = .ok (.iadd, 1) := by decide +kernel
theorem d_S_stepFrom_42 : decode b_S_stepFrom 42 = .ok (.putfield 91, 3) := by decide +kernel
theorem d_S_stepFrom_45 : decode b_S_stepFrom 45 = .ok (.return_, 1) := by decide +kernel
theorem d_S_gatherFrom_0 : decode b_S_gatherFrom 0 = .ok (.aload_n 1, 1) := by decide +kernel
theorem d_S_gatherFrom_1 : decode b_S_gatherFrom 1 = .ok (.getfield 37, 3) := by decide +kernel
theorem d_S_gatherFrom_4 : decode b_S_gatherFrom 4 = .ok (.ifCond .eq 7, 3) := by decide +kernel
theorem d_S_gatherFrom_7 : decode b_S_gatherFrom 7 = .ok (.iconst 1, 1) := by decide +kernel
theorem d_S_gatherFrom_8 : decode b_S_gatherFrom 8 = .ok (.goto 4, 3) := by decide +kernel
theorem d_S_gatherFrom_11 : decode b_S_gatherFrom 11 = .ok (.iconst 0, 1) := by decide +kernel
theorem d_S_gatherFrom_12 : decode b_S_gatherFrom 12 = .ok (.istore_n 2, 1) := by decide +kernel
theorem d_S_gatherFrom_13 : decode b_S_gatherFrom 13 = .ok (.aload_n 1, 1) := by decide +kernel
theorem d_S_gatherFrom_14 : decode b_S_gatherFrom 14 = .ok (.getfield 60, 3) := by decide +kernel
theorem d_S_gatherFrom_17 : decode b_S_gatherFrom 17 = .ok (.istore_n 3, 1) := by decide +kernel
theorem d_S_gatherFrom_18 : decode b_S_gatherFrom 18 = .ok (.aload_n 1, 1) := by decide +kernel
theorem d_S_gatherFrom_19 : decode b_S_gatherFrom 19 = .ok (.getfield 69, 3) := by decide +kernel
theorem d_S_gatherFrom_22 : decode b_S_gatherFrom 22 = .ok (.astore 4, 2) := by decide +kernel
theorem d_S_gatherFrom_24 : decode b_S_gatherFrom 24 = .ok (.aload 4, 2) := by decide +kernel
theorem d_S_gatherFrom_26 : decode b_S_gatherFrom 26 = .ok (.ifnull 45, 3) := by decide +kernel
theorem d_S_gatherFrom_29 : decode b_S_gatherFrom 29 = .ok (.aload 4, 2) := by decide +kernel
theorem d_S_gatherFrom_31 : decode b_S_gatherFrom 31 = .ok (.invokevirtual 135, 3) := by decide +kernel
theorem d_S_gatherFrom_34 : decode b_S_gatherFrom 34 = .ok (.ifCond .ne 37, 3) := by decide +kernel
theorem d_S_gatherFrom_37 : decode b_S_gatherFrom 37 = .ok (.iload_n 2, 1) := by decide +kernel
theorem d_S_gatherFrom_38 : decode b_S_gatherFrom 38 = .ok (.aload 4, 2) := by decide +kernel
theorem d_S_gatherFrom_40 : decode b_S_gatherFrom 40 = .ok (.getfield 37, 3) := by decide +kernel
theorem d_S_gatherFrom_43 : decode b_S_gatherFrom 43 = .ok (.ifCond .eq 7, 3) := by decide +kernel
theorem d_S_gatherFrom_46 : decode b_S_gatherFrom 46 = .ok (.iconst 1, 1) := by decide +kernel
theorem d_S_gatherFrom_47 : decode b_S_gatherFrom 47 = .ok (.goto 4, 3) := by decide +kernel
theorem d_S_gatherFrom_50 : decode b_S_gatherFrom 50 = .ok (.iconst 0, 1) := by decide +kernel
theorem d_S_gatherFrom_51 : decode b_S_gatherFrom 51 = .ok (.iadd, 1) := by decide +kernel
theorem d_S_gatherFrom_52 : decode b_S_gatherFrom 52 = .ok (.istore_n 2, 1) := by decide +kernel
theorem d_S_gatherFrom_53 : decode b_S_gatherFrom 53 = .ok (.iload_n 3, 1) := by decide +kernel
theorem d_S_gatherFrom_54 : decode b_S_gatherFrom 54 = .ok (.aload 4, 2) := by decide +kernel
theorem d_S_gatherFrom_56 : decode b_S_gatherFrom 56 = .ok (.getfield 60, 3) := by decide +kernel
theorem d_S_gatherFrom_59 : decode b_S_gatherFrom 59 = .ok (.iadd, 1) := by decide +kernel
theorem d_S_gatherFrom_60 : decode b_S_gatherFrom 60 = .ok (.istore_n 3, 1) := by decide +kernel
theorem d_S_gatherFrom_61 : decode b_S_gatherFrom 61 = .ok (.aload 4, 2) := by decide +kernel
theorem d_S_gatherFrom_63 : decode b_S_gatherFrom 63 = .ok (.getfield 69, 3) := by decide +kernel
theorem d_S_gatherFrom_66 : decode b_S_gatherFrom 66 = .ok (.astore 4, 2) := by decide +kernel
theorem d_S_gatherFrom_68 : decode b_S_gatherFrom 68 = .ok (.goto (-44), 3) := by decide +kernel
theorem d_S_gatherFrom_71 : decode b_S_gatherFrom 71 = .ok (.aload_n 1, 1) := by decide +kernel
theorem d_S_gatherFrom_72 : decode b_S_gatherFrom 72 = .ok (.getfield 37, 3) := by decide +kernel
theorem d_S_gatherFrom_75 : decode b_S_gatherFrom 75 = .ok (.ifCond .ne 13, 3) := by decide +kernel
theorem d_S_gatherFrom_78 : decode b_S_gatherFrom 78 = .ok (.aload 4, 2) := by decide +kernel
theorem d_S_gatherFrom_80 : decode b_S_gatherFrom 80 = .ok (.aload_n 1, 1) := by decide +kernel
theorem d_S_gatherFrom_81 : decode b_S_gatherFrom 81 = .ok (.getfield 69, 3) := by decide +kernel
theorem d_S_gatherFrom_84 : decode b_S_gatherFrom 84 = .ok (.if_acmp .ne 4, 3) := by decide +kernel
theorem d_S_gatherFrom_87 : decode b_S_gatherFrom 87 = .ok (.return_, 1) := by decide +kernel
theorem d_S_gatherFrom_88 : decode b_S_gatherFrom 88 = .ok (.aload_n 1, 1) := by decide +kernel
theorem d_S_gatherFrom_89 : decode b_S_gatherFrom 89 = .ok (.iload_n 3, 1) := by decide +kernel
theorem d_S_gatherFrom_90 : decode b_S_gatherFrom 90 = .ok (.putfield 60, 3) := by decide +kernel
theorem d_S_gatherFrom_93 : decode b_S_gatherFrom 93 = .ok (.aload_n 1, 1) := by decide +kernel
theorem d_S_gatherFrom_94 : decode b_S_gatherFrom 94 = .ok (.aload 4, 2) := by decide +kernel
theorem d_S_gatherFrom_96 : decode b_S_gatherFrom 96 = .ok (.putfield 69, 3) := by decide +kernel
theorem d_S_gatherFrom_99 : decode b_S_gatherFrom 99 = .ok (.aload_n 0, 1) := by decide +kernel
theorem d_S_gatherFrom_100 : decode b_S_gatherFrom 100 = .ok (.aload_n 1, 1) := by decide +kernel
theorem d_S_gatherFrom_101 : decode b_S_gatherFrom 101 = .ok (.invokevirtual 56, 3) := by decide +kernel
theorem d_S_gatherFrom_104 : decode b_S_gatherFrom 104 = .ok (.aload_n 0, 1) := by decide +kernel
theorem d_S_gatherFrom_105 : decode b_S_gatherFrom 105 = .ok (.dup, 1) := by decide +kernel
theorem d_S_gatherFrom_106 : decode b_S_gatherFrom 106 = .ok (.getfield 88, 3) := by decide +kernel
theorem d_S_gatherFrom_109 : decode b_S_gatherFrom 109 = .ok (.iload_n 2, 1) := by decide +kernel
theorem d_S_gatherFrom_110 : decode b_S_gatherFrom 110 = .ok (.iadd, 1) := by decide +kernel
theorem d_S_gatherFrom_111 : decode b_S_gatherFrom 111 = .ok (.putfield 88, 3) := by decide +kernel
theorem d_S_gatherFrom_114 : decode b_S_gatherFrom 114 = .ok (.return_, 1) := by decide +kernel
theorem d_S_sumOverPieces_0 : decode b_S_sumOverPieces 0 = .ok (.iconst 0, 1) := by decide +kernel
theorem d_S_sumOverPieces_1 : decode b_S_sumOverPieces 1 = .ok (.istore_n 2, 1) := by decide +kernel
theorem d_S_sumOverPieces_2 : decode b_S_sumOverPieces 2 = .ok (.aload_n 0, 1) := by decide +kernel
theorem d_S_sumOverPieces_3 : decode b_S_sumOverPieces 3 = .ok (.getfield 66, 3) := by decide +kernel
theorem d_S_sumOverPieces_6 : decode b_S_sumOverPieces 6 = .ok (.astore_n 3, 1) := by decide +kernel
theorem d_S_sumOverPieces_7 : decode b_S_sumOverPieces 7 = .ok (.aload_n 3, 1) := by decide +kernel
theorem d_S_sumOverPieces_8 : decode b_S_sumOverPieces 8 = .ok (.ifnull 19, 3) := by decide +kernel
theorem d_S_sumOverPieces_11 : decode b_S_sumOverPieces 11 = .ok (.iload_n 2, 1) := by decide +kernel
theorem d_S_sumOverPieces_12 : decode b_S_sumOverPieces 12 = .ok (.aload_n 3, 1) := by decide +kernel
theorem d_S_sumOverPieces_13 : decode b_S_sumOverPieces 13 = .ok (.iload_n 1, 1) := by decide +kernel
theorem d_S_sumOverPieces_14 : decode b_S_sumOverPieces 14 = .ok (.invokestatic 141, 3) := by decide +kernel
theorem d_S_sumOverPieces_17 : decode b_S_sumOverPieces 17 = .ok (.iadd, 1) := by decide +kernel
theorem d_S_sumOverPieces_18 : decode b_S_sumOverPieces 18 = .ok (.istore_n 2, 1) := by decide +kernel
theorem d_S_sumOverPieces_19 : decode b_S_sumOverPieces 19 = .ok (.aload_n 3, 1) := by decide +kernel
theorem d_S_sumOverPieces_20 : decode b_S_sumOverPieces 20 = .ok (.getfield 69, 3) := by decide +kernel
theorem d_S_sumOverPieces_23 : decode b_S_sumOverPieces 23 = .ok (.astore_n 3, 1) := by decide +kernel
theorem d_S_sumOverPieces_24 : decode b_S_sumOverPieces 24 = .ok (.goto (-17), 3) := by decide +kernel
theorem d_S_sumOverPieces_27 : decode b_S_sumOverPieces 27 = .ok (.iload_n 2, 1) := by decide +kernel
theorem d_S_sumOverPieces_28 : decode b_S_sumOverPieces 28 = .ok (.ireturn, 1) := by decide +kernel
theorem d_S_shareOf_0 : decode b_S_shareOf 0 = .ok (.iload_n 1, 1) := by decide +kernel
theorem d_S_shareOf_1 : decode b_S_shareOf 1 = .ok (.tableswitch 135 0 8 #[51, 67, 83, 96, 109, 135, 135, 135, 122], 51) := by decide +kernel
theorem d_S_shareOf_52 : decode b_S_shareOf 52 = .ok (.aload_n 0, 1) := by decide +kernel
theorem d_S_shareOf_53 : decode b_S_shareOf 53 = .ok (.getfield 37, 3) := by decide +kernel
theorem d_S_shareOf_56 : decode b_S_shareOf 56 = .ok (.ifCond .eq 7, 3) := by decide +kernel
theorem d_S_shareOf_59 : decode b_S_shareOf 59 = .ok (.iconst 0, 1) := by decide +kernel
theorem d_S_shareOf_60 : decode b_S_shareOf 60 = .ok (.goto 7, 3) := by decide +kernel
theorem d_S_shareOf_63 : decode b_S_shareOf 63 = .ok (.aload_n 0, 1) := by decide +kernel
theorem d_S_shareOf_64 : decode b_S_shareOf 64 = .ok (.getfield 60, 3) := by decide +kernel
theorem d_S_shareOf_67 : decode b_S_shareOf 67 = .ok (.ireturn, 1) := by decide +kernel
theorem d_S_shareOf_68 : decode b_S_shareOf 68 = .ok (.aload_n 0, 1) := by decide +kernel
theorem d_S_shareOf_69 : decode b_S_shareOf 69 = .ok (.invokevirtual 145, 3) := by decide +kernel
theorem d_S_shareOf_72 : decode b_S_shareOf 72 = .ok (.ifCond .eq 10, 3) := by decide +kernel
theorem d_S_shareOf_75 : decode b_S_shareOf 75 = .ok (.aload_n 0, 1) := by decide +kernel
theorem d_S_shareOf_76 : decode b_S_shareOf 76 = .ok (.getfield 60, 3) := by decide +kernel
theorem d_S_shareOf_79 : decode b_S_shareOf 79 = .ok (.goto 4, 3) := by decide +kernel
theorem d_S_shareOf_82 : decode b_S_shareOf 82 = .ok (.iconst 0, 1) := by decide +kernel
theorem d_S_shareOf_83 : decode b_S_shareOf 83 = .ok (.ireturn, 1) := by decide +kernel
theorem d_S_shareOf_84 : decode b_S_shareOf 84 = .ok (.aload_n 0, 1) := by decide +kernel
theorem d_S_shareOf_85 : decode b_S_shareOf 85 = .ok (.getfield 37, 3) := by decide +kernel
theorem d_S_shareOf_88 : decode b_S_shareOf 88 = .ok (.ifCond .eq 7, 3) := by decide +kernel
theorem d_S_shareOf_91 : decode b_S_shareOf 91 = .ok (.iconst 1, 1) := by decide +kernel
theorem d_S_shareOf_92 : decode b_S_shareOf 92 = .ok (.goto 4, 3) := by decide +kernel
theorem d_S_shareOf_95 : decode b_S_shareOf 95 = .ok (.iconst 0, 1) := by decide +kernel
theorem d_S_shareOf_96 : decode b_S_shareOf 96 = .ok (.ireturn, 1) := by decide +kernel
theorem d_S_shareOf_97 : decode b_S_shareOf 97 = .ok (.aload_n 0, 1) := by decide +kernel
theorem d_S_shareOf_98 : decode b_S_shareOf 98 = .ok (.invokevirtual 127, 3) := by decide +kernel
theorem d_S_shareOf_101 : decode b_S_shareOf 101 = .ok (.ifCond .eq 7, 3) := by decide +kernel
theorem d_S_shareOf_104 : decode b_S_shareOf 104 = .ok (.iconst 1, 1) := by decide +kernel
theorem d_S_shareOf_105 : decode b_S_shareOf 105 = .ok (.goto 4, 3) := by decide +kernel
theorem d_S_shareOf_108 : decode b_S_shareOf 108 = .ok (.iconst 0, 1) := by decide +kernel
theorem d_S_shareOf_109 : decode b_S_shareOf 109 = .ok (.ireturn, 1) := by decide +kernel
theorem d_S_shareOf_110 : decode b_S_shareOf 110 = .ok (.aload_n 0, 1) := by decide +kernel
theorem d_S_shareOf_111 : decode b_S_shareOf 111 = .ok (.invokevirtual 145, 3) := by decide +kernel
theorem d_S_shareOf_114 : decode b_S_shareOf 114 = .ok (.ifCond .eq 7, 3) := by decide +kernel
theorem d_S_shareOf_117 : decode b_S_shareOf 117 = .ok (.iconst 1, 1) := by decide +kernel
theorem d_S_shareOf_118 : decode b_S_shareOf 118 = .ok (.goto 4, 3) := by decide +kernel
theorem d_S_shareOf_121 : decode b_S_shareOf 121 = .ok (.iconst 0, 1) := by decide +kernel
theorem d_S_shareOf_122 : decode b_S_shareOf 122 = .ok (.ireturn, 1) := by decide +kernel
theorem d_S_shareOf_123 : decode b_S_shareOf 123 = .ok (.aload_n 0, 1) := by decide +kernel
theorem d_S_shareOf_124 : decode b_S_shareOf 124 = .ok (.getfield 50, 3) := by decide +kernel
theorem d_S_shareOf_127 : decode b_S_shareOf 127 = .ok (.ifCond .eq 7, 3) := by decide +kernel
theorem d_S_shareOf_130 : decode b_S_shareOf 130 = .ok (.iconst 1, 1) := by decide +kernel
theorem d_S_shareOf_131 : decode b_S_shareOf 131 = .ok (.goto 4, 3) := by decide +kernel
theorem d_S_shareOf_134 : decode b_S_shareOf 134 = .ok (.iconst 0, 1) := by decide +kernel
theorem d_S_shareOf_135 : decode b_S_shareOf 135 = .ok (.ireturn, 1) := by decide +kernel
theorem d_S_shareOf_136 : decode b_S_shareOf 136 = .ok (.iconst 0, 1) := by decide +kernel
theorem d_S_shareOf_137 : decode b_S_shareOf 137 = .ok (.ireturn, 1) := by decide +kernel
theorem d_S_greatestFree_0 : decode b_S_greatestFree 0 = .ok (.iconst 0, 1) := by decide +kernel
theorem d_S_greatestFree_1 : decode b_S_greatestFree 1 = .ok (.istore_n 1, 1) := by decide +kernel
theorem d_S_greatestFree_2 : decode b_S_greatestFree 2 = .ok (.aload_n 0, 1) := by decide +kernel
theorem d_S_greatestFree_3 : decode b_S_greatestFree 3 = .ok (.getfield 66, 3) := by decide +kernel
theorem d_S_greatestFree_6 : decode b_S_greatestFree 6 = .ok (.astore_n 2, 1) := by decide +kernel
theorem d_S_greatestFree_7 : decode b_S_greatestFree 7 = .ok (.aload_n 2, 1) := by decide +kernel
theorem d_S_greatestFree_8 : decode b_S_greatestFree 8 = .ok (.ifnull 31, 3) := by decide +kernel
theorem d_S_greatestFree_11 : decode b_S_greatestFree 11 = .ok (.aload_n 2, 1) := by decide +kernel
theorem d_S_greatestFree_12 : decode b_S_greatestFree 12 = .ok (.getfield 37, 3) := by decide +kernel
theorem d_S_greatestFree_15 : decode b_S_greatestFree 15 = .ok (.ifCond .ne 16, 3) := by decide +kernel
theorem d_S_greatestFree_18 : decode b_S_greatestFree 18 = .ok (.aload_n 2, 1) := by decide +kernel
theorem d_S_greatestFree_19 : decode b_S_greatestFree 19 = .ok (.getfield 60, 3) := by decide +kernel
theorem d_S_greatestFree_22 : decode b_S_greatestFree 22 = .ok (.iload_n 1, 1) := by decide +kernel
theorem d_S_greatestFree_23 : decode b_S_greatestFree 23 = .ok (.if_icmp .le 8, 3) := by decide +kernel
theorem d_S_greatestFree_26 : decode b_S_greatestFree 26 = .ok (.aload_n 2, 1) := by decide +kernel
theorem d_S_greatestFree_27 : decode b_S_greatestFree 27 = .ok (.getfield 60, 3) := by decide +kernel
end
section
theorem d_S_greatestFree_30 : decode b_S_greatestFree 30 = .ok (.istore_n 1, 1) := by decide +kernel
theorem d_S_greatestFree_31 : decode b_S_greatestFree 31 = .ok (.aload_n 2, 1) := by decide +kernel
theorem d_S_greatestFree_32 : decode b_S_greatestFree 32 = .ok (.getfield 69, 3) := by decide +kernel
theorem d_S_greatestFree_35 : decode b_S_greatestFree 35 = .ok (.astore_n 2, 1) := by decide +kernel
theorem d_S_greatestFree_36 : decode b_S_greatestFree 36 = .ok (.goto (-29), 3) := by decide +kernel
theorem d_S_greatestFree_39 : decode b_S_greatestFree 39 = .ok (.iload_n 1, 1) := by decide +kernel
theorem d_S_greatestFree_40 : decode b_S_greatestFree 40 = .ok (.ireturn, 1) := by decide +kernel
theorem d_S_isMarkRight_0 : decode b_S_isMarkRight 0 = .ok (.aload_n 0, 1) := by decide +kernel
theorem d_S_isMarkRight_1 : decode b_S_isMarkRight 1 = .ok (.getfield 50, 3) := by decide +kernel
theorem d_S_isMarkRight_4 : decode b_S_isMarkRight 4 = .ok (.ifCond .eq 14, 3) := by decide +kernel
theorem d_S_isMarkRight_7 : decode b_S_isMarkRight 7 = .ok (.aload_n 0, 1) := by decide +kernel
theorem d_S_isMarkRight_8 : decode b_S_isMarkRight 8 = .ok (.getfield 37, 3) := by decide +kernel
theorem d_S_isMarkRight_11 : decode b_S_isMarkRight 11 = .ok (.ifCond .eq 11, 3) := by decide +kernel
theorem d_S_isMarkRight_14 : decode b_S_isMarkRight 14 = .ok (.iload_n 1, 1) := by decide +kernel
theorem d_S_isMarkRight_15 : decode b_S_isMarkRight 15 = .ok (.ifCond .eq 7, 3) := by decide +kernel
theorem d_S_isMarkRight_18 : decode b_S_isMarkRight 18 = .ok (.iconst 1, 1) := by decide +kernel
theorem d_S_isMarkRight_19 : decode b_S_isMarkRight 19 = .ok (.goto 4, 3) := by decide +kernel
theorem d_S_isMarkRight_22 : decode b_S_isMarkRight 22 = .ok (.iconst 0, 1) := by decide +kernel
theorem d_S_isMarkRight_23 : decode b_S_isMarkRight 23 = .ok (.ireturn, 1) := by decide +kernel
theorem d_S_isTimeRight_0 : decode b_S_isTimeRight 0 = .ok (.aload_n 1, 1) := by decide +kernel
theorem d_S_isTimeRight_1 : decode b_S_isTimeRight 1 = .ok (.getfield 37, 3) := by decide +kernel
theorem d_S_isTimeRight_4 : decode b_S_isTimeRight 4 = .ok (.ifCond .ne 24, 3) := by decide +kernel
theorem d_S_isTimeRight_7 : decode b_S_isTimeRight 7 = .ok (.aload_n 1, 1) := by decide +kernel
theorem d_S_isTimeRight_8 : decode b_S_isTimeRight 8 = .ok (.getfield 114, 3) := by decide +kernel
theorem d_S_isTimeRight_11 : decode b_S_isTimeRight 11 = .ok (.lconst 1, 1) := by decide +kernel
theorem d_S_isTimeRight_12 : decode b_S_isTimeRight 12 = .ok (.lcmp, 1) := by decide +kernel
theorem d_S_isTimeRight_13 : decode b_S_isTimeRight 13 = .ok (.ifCond .lt 19, 3) := by decide +kernel
theorem d_S_isTimeRight_16 : decode b_S_isTimeRight 16 = .ok (.aload_n 1, 1) := by decide +kernel
theorem d_S_isTimeRight_17 : decode b_S_isTimeRight 17 = .ok (.getfield 114, 3) := by decide +kernel
theorem d_S_isTimeRight_20 : decode b_S_isTimeRight 20 = .ok (.aload_n 0, 1) := by decide +kernel
theorem d_S_isTimeRight_21 : decode b_S_isTimeRight 21 = .ok (.getfield 110, 3) := by decide +kernel
theorem d_S_isTimeRight_24 : decode b_S_isTimeRight 24 = .ok (.lcmp, 1) := by decide +kernel
theorem d_S_isTimeRight_25 : decode b_S_isTimeRight 25 = .ok (.ifCond .gt 7, 3) := by decide +kernel
theorem d_S_isTimeRight_28 : decode b_S_isTimeRight 28 = .ok (.iconst 1, 1) := by decide +kernel
theorem d_S_isTimeRight_29 : decode b_S_isTimeRight 29 = .ok (.goto 4, 3) := by decide +kernel
theorem d_S_isTimeRight_32 : decode b_S_isTimeRight 32 = .ok (.iconst 0, 1) := by decide +kernel
theorem d_S_isTimeRight_33 : decode b_S_isTimeRight 33 = .ok (.ireturn, 1) := by decide +kernel
theorem d_M_init_0 : decode b_M_init 0 = .ok (.aload_n 0, 1) := by decide +kernel
theorem d_M_init_1 : decode b_M_init 1 = .ok (.invokespecial 1, 3) := by decide +kernel
theorem d_M_init_4 : decode b_M_init 4 = .ok (.aload_n 0, 1) := by decide +kernel
theorem d_M_init_5 : decode b_M_init 5 = .ok (.sipush 1024, 3) := by decide +kernel
theorem d_M_init_8 : decode b_M_init 8 = .ok (.putfield 7, 3) := by decide +kernel
theorem d_M_init_11 : decode b_M_init 11 = .ok (.aload_n 0, 1) := by decide +kernel
theorem d_M_init_12 : decode b_M_init 12 = .ok (.sipush 16386, 3) := by decide +kernel
theorem d_M_init_15 : decode b_M_init 15 = .ok (.newarray .int, 2) := by decide +kernel
theorem d_M_init_17 : decode b_M_init 17 = .ok (.putfield 13, 3) := by decide +kernel
theorem d_M_init_20 : decode b_M_init 20 = .ok (.aload_n 0, 1) := by decide +kernel
theorem d_M_init_21 : decode b_M_init 21 = .ok (.sipush 16386, 3) := by decide +kernel
theorem d_M_init_24 : decode b_M_init 24 = .ok (.newarray .int, 2) := by decide +kernel
theorem d_M_init_26 : decode b_M_init 26 = .ok (.putfield 17, 3) := by decide +kernel
theorem d_M_init_29 : decode b_M_init 29 = .ok (.aload_n 0, 1) := by decide +kernel
theorem d_M_init_30 : decode b_M_init 30 = .ok (.sipush 16386, 3) := by decide +kernel
theorem d_M_init_33 : decode b_M_init 33 = .ok (.newarray .boolean, 2) := by decide +kernel
theorem d_M_init_35 : decode b_M_init 35 = .ok (.putfield 20, 3) := by decide +kernel
theorem d_M_init_38 : decode b_M_init 38 = .ok (.aload_n 0, 1) := by decide +kernel
theorem d_M_init_39 : decode b_M_init 39 = .ok (.getfield 13, 3) := by decide +kernel
theorem d_M_init_42 : decode b_M_init 42 = .ok (.iconst 1, 1) := by decide +kernel
theorem d_M_init_43 : decode b_M_init 43 = .ok (.sipush (-1024), 3) := by decide +kernel
theorem d_M_init_46 : decode b_M_init 46 = .ok (.iastore, 1) := by decide +kernel
theorem d_M_init_47 : decode b_M_init 47 = .ok (.return_, 1) := by decide +kernel
theorem d_M_thrown_0 : decode b_M_thrown 0 = .ok (.aload_n 0, 1) := by decide +kernel
theorem d_M_thrown_1 : decode b_M_thrown 1 = .ok (.getfield 24, 3) := by decide +kernel
theorem d_M_thrown_4 : decode b_M_thrown 4 = .ok (.ireturn, 1) := by decide +kernel
theorem d_M_goes_0 : decode b_M_goes 0 = .ok (.aload_n 0, 1) := by decide +kernel
theorem d_M_goes_1 : decode b_M_goes 1 = .ok (.iload_n 1, 1) := by decide +kernel
theorem d_M_goes_2 : decode b_M_goes 2 = .ok (.ifCond .ne 7, 3) := by decide +kernel
theorem d_M_goes_5 : decode b_M_goes 5 = .ok (.iconst 1, 1) := by decide +kernel
theorem d_M_goes_6 : decode b_M_goes 6 = .ok (.goto 12, 3) := by decide +kernel
theorem d_M_goes_9 : decode b_M_goes 9 = .ok (.iload_n 2, 1) := by decide +kernel
theorem d_M_goes_10 : decode b_M_goes 10 = .ok (.ifCond .ne 7, 3) := by decide +kernel
theorem d_M_goes_13 : decode b_M_goes 13 = .ok (.iconst 2, 1) := by decide +kernel
theorem d_M_goes_14 : decode b_M_goes 14 = .ok (.goto 4, 3) := by decide +kernel
theorem d_M_goes_17 : decode b_M_goes 17 = .ok (.iconst 0, 1) := by decide +kernel
theorem d_M_goes_18 : decode b_M_goes 18 = .ok (.putfield 24, 3) := by decide +kernel
theorem d_M_goes_21 : decode b_M_goes 21 = .ok (.aload_n 0, 1) := by decide +kernel
theorem d_M_goes_22 : decode b_M_goes 22 = .ok (.getfield 24, 3) := by decide +kernel
theorem d_M_goes_25 : decode b_M_goes 25 = .ok (.ifCond .ne 7, 3) := by decide +kernel
theorem d_M_goes_28 : decode b_M_goes 28 = .ok (.iconst 1, 1) := by decide +kernel
theorem d_M_goes_29 : decode b_M_goes 29 = .ok (.goto 4, 3) := by decide +kernel
theorem d_M_goes_32 : decode b_M_goes 32 = .ok (.iconst 0, 1) := by decide +kernel
theorem d_M_goes_33 : decode b_M_goes 33 = .ok (.ireturn, 1) := by decide +kernel
theorem d_M_length_0 : decode b_M_length 0 = .ok (.aload_n 0, 1) := by decide +kernel
theorem d_M_length_1 : decode b_M_length 1 = .ok (.getfield 13, 3) := by decide +kernel
theorem d_M_length_4 : decode b_M_length 4 = .ok (.iload_n 1, 1) := by decide +kernel
theorem d_M_length_5 : decode b_M_length 5 = .ok (.iaload, 1) := by decide +kernel
theorem d_M_length_6 : decode b_M_length 6 = .ok (.ifCond .ge 14, 3) := by decide +kernel
theorem d_M_length_9 : decode b_M_length 9 = .ok (.iconst 0, 1) := by decide +kernel
theorem d_M_length_10 : decode b_M_length 10 = .ok (.aload_n 0, 1) := by decide +kernel
theorem d_M_length_11 : decode b_M_length 11 = .ok (.getfield 13, 3) := by decide +kernel
theorem d_M_length_14 : decode b_M_length 14 = .ok (.iload_n 1, 1) := by decide +kernel
theorem d_M_length_15 : decode b_M_length 15 = .ok (.iaload, 1) := by decide +kernel
theorem d_M_length_16 : decode b_M_length 16 = .ok (.isub, 1) := by decide +kernel
theorem d_M_length_17 : decode b_M_length 17 = .ok (.goto 9, 3) := by decide +kernel
theorem d_M_length_20 : decode b_M_length 20 = .ok (.aload_n 0, 1) := by decide +kernel
theorem d_M_length_21 : decode b_M_length 21 = .ok (.getfield 13, 3) := by decide +kernel
theorem d_M_length_24 : decode b_M_length 24 = .ok (.iload_n 1, 1) := by decide +kernel
theorem d_M_length_25 : decode b_M_length 25 = .ok (.iaload, 1) := by decide +kernel
theorem d_M_length_26 : decode b_M_length 26 = .ok (.ireturn, 1) := by decide +kernel
theorem d_M_release_0 : decode b_M_release 0 = .ok (.aload_n 0, 1) := by decide +kernel
theorem d_M_release_1 : decode b_M_release 1 = .ok (.dup, 1) := by decide +kernel
theorem d_M_release_2 : decode b_M_release 2 = .ok (.getfield 27, 3) := by decide +kernel
theorem d_M_release_5 : decode b_M_release 5 = .ok (.iconst 1, 1) := by decide +kernel
theorem d_M_release_6 : decode b_M_release 6 = .ok (.iadd, 1) := by decide +kernel
theorem d_M_release_7 : decode b_M_release 7 = .ok (.putfield 27, 3) := by decide +kernel
theorem d_M_release_10 : decode b_M_release 10 = .ok (.aload_n 0, 1) := by decide +kernel
theorem d_M_release_11 : decode b_M_release 11 = .ok (.getfield 13, 3) := by decide +kernel
theorem d_M_release_14 : decode b_M_release 14 = .ok (.iload_n 1, 1) := by decide +kernel
theorem d_M_release_15 : decode b_M_release 15 = .ok (.iconst 0, 1) := by decide +kernel
theorem d_M_release_16 : decode b_M_release 16 = .ok (.iload_n 2, 1) := by decide +kernel
theorem d_M_release_17 : decode b_M_release 17 = .ok (.isub, 1) := by decide +kernel
theorem d_M_release_18 : decode b_M_release 18 = .ok (.iastore, 1) := by decide +kernel
theorem d_M_release_19 : decode b_M_release 19 = .ok (.aload_n 0, 1) := by decide +kernel
theorem d_M_release_20 : decode b_M_release 20 = .ok (.getfield 17, 3) := by decide +kernel
theorem d_M_release_23 : decode b_M_release 23 = .ok (.iload_n 1, 1) := by decide +kernel
theorem d_M_release_24 : decode b_M_release 24 = .ok (.aload_n 0, 1) := by decide +kernel
theorem d_M_release_25 : decode b_M_release 25 = .ok (.getfield 27, 3) := by decide +kernel
theorem d_M_release_28 : decode b_M_release 28 = .ok (.iastore, 1) := by decide +kernel
theorem d_M_release_29 : decode b_M_release 29 = .ok (.aload_n 0, 1) := by decide +kernel
theorem d_M_release_30 : decode b_M_release 30 = .ok (.getfield 20, 3) := by decide +kernel
theorem d_M_release_33 : decode b_M_release 33 = .ok (.iload_n 1, 1) := by decide +kernel
theorem d_M_release_34 : decode b_M_release 34 = .ok (.iconst 0, 1) := by decide +kernel
theorem d_M_release_35 : decode b_M_release 35 = .ok (.bastore, 1) := by decide +kernel
theorem d_M_release_36 : decode b_M_release 36 = .ok (.return_, 1) := by decide +kernel
theorem d_M_space_0 : decode b_M_space 0 = .ok (.aload_n 0, 1) := by decide +kernel
theorem d_M_space_1 : decode b_M_space 1 = .ok (.iload_n 1, 1) := by decide +kernel
theorem d_M_space_2 : decode b_M_space 2 = .ok (.bipush 16, 2) := by decide +kernel
theorem d_M_space_4 : decode b_M_space 4 = .ok (.if_icmp .lt 14, 3) := by decide +kernel
theorem d_M_space_7 : decode b_M_space 7 = .ok (.iload_n 1, 1) := by decide +kernel
theorem d_M_space_8 : decode b_M_space 8 = .ok (.sipush 16384, 3) := by decide +kernel
theorem d_M_space_11 : decode b_M_space 11 = .ok (.if_icmp .gt 7, 3) := by decide +kernel
theorem d_M_space_14 : decode b_M_space 14 = .ok (.iconst 1, 1) := by decide +kernel
theorem d_M_space_15 : decode b_M_space 15 = .ok (.goto 4, 3) := by decide +kernel
theorem d_M_space_18 : decode b_M_space 18 = .ok (.iconst 0, 1) := by decide +kernel
theorem d_M_space_19 : decode b_M_space 19 = .ok (.iconst 1, 1) := by decide +kernel
theorem d_M_space_20 : decode b_M_space 20 = .ok (.invokevirtual 30, 3) := by decide +kernel
theorem d_M_space_23 : decode b_M_space 23 = .ok (.ifCond .ne 5, 3) := by decide +kernel
theorem d_M_space_26 : decode b_M_space 26 = .ok (.iconst 0, 1) := by decide +kernel
theorem d_M_space_27 : decode b_M_space 27 = .ok (.ireturn, 1) := by decide +kernel
theorem d_M_space_28 : decode b_M_space 28 = .ok (.aload_n 0, 1) := by decide +kernel
theorem d_M_space_29 : decode b_M_space 29 = .ok (.getfield 7, 3) := by decide +kernel
theorem d_M_space_32 : decode b_M_space 32 = .ok (.istore_n 2, 1) := by decide +kernel
theorem d_M_space_33 : decode b_M_space 33 = .ok (.iconst 1, 1) := by decide +kernel
theorem d_M_space_34 : decode b_M_space 34 = .ok (.istore_n 3, 1) := by decide +kernel
theorem d_M_space_35 : decode b_M_space 35 = .ok (.iload_n 3, 1) := by decide +kernel
theorem d_M_space_36 : decode b_M_space 36 = .ok (.sipush 16384, 3) := by decide +kernel
theorem d_M_space_39 : decode b_M_space 39 = .ok (.if_icmp .gt 23, 3) := by decide +kernel
theorem d_M_space_42 : decode b_M_space 42 = .ok (.aload_n 0, 1) := by decide +kernel
theorem d_M_space_43 : decode b_M_space 43 = .ok (.getfield 13, 3) := by decide +kernel
theorem d_M_space_46 : decode b_M_space 46 = .ok (.iload_n 3, 1) := by decide +kernel
theorem d_M_space_47 : decode b_M_space 47 = .ok (.iconst 0, 1) := by decide +kernel
theorem d_M_space_48 : decode b_M_space 48 = .ok (.iastore, 1) := by decide +kernel
theorem d_M_space_49 : decode b_M_space 49 = .ok (.aload_n 0, 1) := by decide +kernel
theorem d_M_space_50 : decode b_M_space 50 = .ok (.getfield 20, 3) := by decide +kernel
theorem d_M_space_53 : decode b_M_space 53 = .ok (.iload_n 3, 1) := by decide +kernel
theorem d_M_space_54 : decode b_M_space 54 = .ok (.iconst 0, 1) := by decide +kernel
theorem d_M_space_55 : decode b_M_space 55 = .ok (.bastore, 1) := by decide +kernel
theorem d_M_space_56 : decode b_M_space 56 = .ok (.iinc 3 1, 3) := by decide +kernel
theorem d_M_space_59 : decode b_M_space 59 = .ok (.goto (-24), 3) := by decide +kernel
theorem d_M_space_62 : decode b_M_space 62 = .ok (.aload_n 0, 1) := by decide +kernel
theorem d_M_space_63 : decode b_M_space 63 = .ok (.iload_n 1, 1) := by decide +kernel
theorem d_M_space_64 : decode b_M_space 64 = .ok (.putfield 7, 3) := by decide +kernel
theorem d_M_space_67 : decode b_M_space 67 = .ok (.aload_n 0, 1) := by decide +kernel
theorem d_M_space_68 : decode b_M_space 68 = .ok (.iconst 0, 1) := by decide +kernel
theorem d_M_space_69 : decode b_M_space 69 = .ok (.putfield 34, 3) := by decide +kernel
theorem d_M_space_72 : decode b_M_space 72 = .ok (.aload_n 0, 1) := by decide +kernel
theorem d_M_space_73 : decode b_M_space 73 = .ok (.iconst 0, 1) := by decide +kernel
theorem d_M_space_74 : decode b_M_space 74 = .ok (.putfield 37, 3) := by decide +kernel
theorem d_M_space_77 : decode b_M_space 77 = .ok (.aload_n 0, 1) := by decide +kernel
theorem d_M_space_78 : decode b_M_space 78 = .ok (.iconst 0, 1) := by decide +kernel
theorem d_M_space_79 : decode b_M_space 79 = .ok (.putfield 40, 3) := by decide +kernel
theorem d_M_space_82 : decode b_M_space 82 = .ok (.aload_n 0, 1) := by decide +kernel
theorem d_M_space_83 : decode b_M_space 83 = .ok (.iconst 0, 1) := by decide +kernel
theorem d_M_space_84 : decode b_M_space 84 = .ok (.putfield 43, 3) := by decide +kernel
theorem d_M_space_87 : decode b_M_space 87 = .ok (.aload_n 0, 1) := by decide +kernel
theorem d_M_space_88 : decode b_M_space 88 = .ok (.iconst 1, 1) := by decide +kernel
theorem d_M_space_89 : decode b_M_space 89 = .ok (.iload_n 1, 1) := by decide +kernel
theorem d_M_space_90 : decode b_M_space 90 = .ok (.invokevirtual 46, 3) := by decide +kernel
theorem d_M_space_93 : decode b_M_space 93 = .ok (.iload_n 2, 1) := by decide +kernel
theorem d_M_space_94 : decode b_M_space 94 = .ok (.ireturn, 1) := by decide +kernel
theorem d_M_best_0 : decode b_M_best 0 = .ok (.iconst 0, 1) := by decide +kernel
theorem d_M_best_1 : decode b_M_best 1 = .ok (.istore_n 2, 1) := by decide +kernel
theorem d_M_best_2 : decode b_M_best 2 = .ok (.iconst 1, 1) := by decide +kernel
theorem d_M_best_3 : decode b_M_best 3 = .ok (.istore_n 3, 1) := by decide +kernel
theorem d_M_best_4 : decode b_M_best 4 = .ok (.iload_n 3, 1) := by decide +kernel
theorem d_M_best_5 : decode b_M_best 5 = .ok (.aload_n 0, 1) := by decide +kernel
theorem d_M_best_6 : decode b_M_best 6 = .ok (.getfield 7, 3) := by decide +kernel
theorem d_M_best_9 : decode b_M_best 9 = .ok (.if_icmp .gt 109, 3) := by decide +kernel
theorem d_M_best_12 : decode b_M_best 12 = .ok (.aload_n 0, 1) := by decide +kernel
theorem d_M_best_13 : decode b_M_best 13 = .ok (.getfield 13, 3) := by decide +kernel
theorem d_M_best_16 : decode b_M_best 16 = .ok (.iload_n 3, 1) := by decide +kernel
theorem d_M_best_17 : decode b_M_best 17 = .ok (.iaload, 1) := by decide +kernel
theorem d_M_best_18 : decode b_M_best 18 = .ok (.bipush (-3), 2) := by decide +kernel
theorem d_M_best_20 : decode b_M_best 20 = .ok (.if_icmp .gt 16, 3) := by decide +kernel
theorem d_M_best_23 : decode b_M_best 23 = .ok (.aload_n 0, 1) := by decide +kernel
theorem d_M_best_24 : decode b_M_best 24 = .ok (.iload_n 3, 1) := by decide +kernel
theorem d_M_best_25 : decode b_M_best 25 = .ok (.invokevirtual 50, 3) := by decide +kernel
theorem d_M_best_28 : decode b_M_best 28 = .ok (.iload_n 1, 1) := by decide +kernel
theorem d_M_best_29 : decode b_M_best 29 = .ok (.if_icmp .lt 7, 3) := by decide +kernel
theorem d_M_best_32 : decode b_M_best 32 = .ok (.iconst 1, 1) := by decide +kernel
theorem d_M_best_33 : decode b_M_best 33 = .ok (.goto 4, 3) := by decide +kernel
theorem d_M_best_36 : decode b_M_best 36 = .ok (.iconst 0, 1) := by decide +kernel
theorem d_M_best_37 : decode b_M_best 37 = .ok (.istore 4, 2) := by decide +kernel
theorem d_M_best_39 : decode b_M_best 39 = .ok (.iload_n 2, 1) := by decide +kernel
theorem d_M_best_40 : decode b_M_best 40 = .ok (.ifCond .eq 44, 3) := by decide +kernel
theorem d_M_best_43 : decode b_M_best 43 = .ok (.aload_n 0, 1) := by decide +kernel
theorem d_M_best_44 : decode b_M_best 44 = .ok (.iload_n 3, 1) := by decide +kernel
theorem d_M_best_45 : decode b_M_best 45 = .ok (.invokevirtual 50, 3) := by decide +kernel
theorem d_M_best_48 : decode b_M_best 48 = .ok (.aload_n 0, 1) := by decide +kernel
theorem d_M_best_49 : decode b_M_best 49 = .ok (.iload_n 2, 1) := by decide +kernel
theorem d_M_best_50 : decode b_M_best 50 = .ok (.invokevirtual 50, 3) := by decide +kernel
theorem d_M_best_53 : decode b_M_best 53 = .ok (.if_icmp .lt 31, 3) := by decide +kernel
theorem d_M_best_56 : decode b_M_best 56 = .ok (.aload_n 0, 1) := by decide +kernel
theorem d_M_best_57 : decode b_M_best 57 = .ok (.iload_n 3, 1) := by decide +kernel
theorem d_M_best_58 : decode b_M_best 58 = .ok (.invokevirtual 50, 3) := by decide +kernel
theorem d_M_best_61 : decode b_M_best 61 = .ok (.aload_n 0, 1) := by decide +kernel
theorem d_M_best_62 : decode b_M_best 62 = .ok (.iload_n 2, 1) := by decide +kernel
theorem d_M_best_63 : decode b_M_best 63 = .ok (.invokevirtual 50, 3) := by decide +kernel
theorem d_M_best_66 : decode b_M_best 66 = .ok (.if_icmp .ne 22, 3) := by decide +kernel
theorem d_M_best_69 : decode b_M_best 69 = .ok (.aload_n 0, 1) := by decide +kernel
theorem d_M_best_70 : decode b_M_best 70 = .ok (.getfield 17, 3) := by decide +kernel
theorem d_M_best_73 : decode b_M_best 73 = .ok (.iload_n 3, 1) := by decide +kernel
theorem d_M_best_74 : decode b_M_best 74 = .ok (.iaload, 1) := by decide +kernel
theorem d_M_best_75 : decode b_M_best 75 = .ok (.aload_n 0, 1) := by decide +kernel
theorem d_M_best_76 : decode b_M_best 76 = .ok (.getfield 17, 3) := by decide +kernel
theorem d_M_best_79 : decode b_M_best 79 = .ok (.iload_n 2, 1) := by decide +kernel
theorem d_M_best_80 : decode b_M_best 80 = .ok (.iaload, 1) := by decide +kernel
theorem d_M_best_81 : decode b_M_best 81 = .ok (.if_icmp .le 7, 3) := by decide +kernel
theorem d_M_best_84 : decode b_M_best 84 = .ok (.iconst 1, 1) := by decide +kernel
theorem d_M_best_85 : decode b_M_best 85 = .ok (.goto 4, 3) := by decide +kernel
theorem d_M_best_88 : decode b_M_best 88 = .ok (.iconst 0, 1) := by decide +kernel
theorem d_M_best_89 : decode b_M_best 89 = .ok (.istore 5, 2) := by decide +kernel
theorem d_M_best_91 : decode b_M_best 91 = .ok (.iload 4, 2) := by decide +kernel
theorem d_M_best_93 : decode b_M_best 93 = .ok (.ifCond .eq 12, 3) := by decide +kernel
theorem d_M_best_96 : decode b_M_best 96 = .ok (.iload 5, 2) := by decide +kernel
theorem d_M_best_98 : decode b_M_best 98 = .ok (.ifCond .eq 7, 3) := by decide +kernel
theorem d_M_best_101 : decode b_M_best 101 = .ok (.iload_n 3, 1) := by decide +kernel
theorem d_M_best_102 : decode b_M_best 102 = .ok (.goto 4, 3) := by decide +kernel
theorem d_M_best_105 : decode b_M_best 105 = .ok (.iload_n 2, 1) := by decide +kernel
theorem d_M_best_106 : decode b_M_best 106 = .ok (.istore_n 2, 1) := by decide +kernel
theorem d_M_best_107 : decode b_M_best 107 = .ok (.iload_n 3, 1) := by decide +kernel
theorem d_M_best_108 : decode b_M_best 108 = .ok (.aload_n 0, 1) := by decide +kernel
theorem d_M_best_109 : decode b_M_best 109 = .ok (.iload_n 3, 1) := by decide +kernel
theorem d_M_best_110 : decode b_M_best 110 = .ok (.invokevirtual 50, 3) := by decide +kernel
theorem d_M_best_113 : decode b_M_best 113 = .ok (.iadd, 1) := by decide +kernel
theorem d_M_best_114 : decode b_M_best 114 = .ok (.istore_n 3, 1) := by decide +kernel
theorem d_M_best_115 : decode b_M_best 115 = .ok (.goto (-111), 3) := by decide +kernel
theorem d_M_best_118 : decode b_M_best 118 = .ok (.iload_n 2, 1) := by decide +kernel
theorem d_M_best_119 : decode b_M_best 119 = .ok (.ireturn, 1) := by decide +kernel
theorem d_M_take_0 : decode b_M_take 0 = .ok (.aload_n 0, 1) := by decide +kernel
theorem d_M_take_1 : decode b_M_take 1 = .ok (.iload_n 1, 1) := by decide +kernel
theorem d_M_take_2 : decode b_M_take 2 = .ok (.iconst 3, 1) := by decide +kernel
theorem d_M_take_3 : decode b_M_take 3 = .ok (.if_icmp .lt 14, 3) := by decide +kernel
theorem d_M_take_6 : decode b_M_take 6 = .ok (.iload_n 1, 1) := by decide +kernel
theorem d_M_take_7 : decode b_M_take 7 = .ok (.sipush 2000, 3) := by decide +kernel
theorem d_M_take_10 : decode b_M_take 10 = .ok (.if_icmp .gt 7, 3) := by decide +kernel
theorem d_M_take_13 : decode b_M_take 13 = .ok (.iconst 1, 1) := by decide +kernel
theorem d_M_take_14 : decode b_M_take 14 = .ok (.goto 4, 3) := by decide +kernel
theorem d_M_take_17 : decode b_M_take 17 = .ok (.iconst 0, 1) := by decide +kernel
theorem d_M_take_18 : decode b_M_take 18 = .ok (.iconst 1, 1) := by decide +kernel
theorem d_M_take_19 : decode b_M_take 19 = .ok (.invokevirtual 30, 3) := by decide +kernel
theorem d_M_take_22 : decode b_M_take 22 = .ok (.ifCond .ne 5, 3) := by decide +kernel
theorem d_M_take_25 : decode b_M_take 25 = .ok (.iconst 0, 1) := by decide +kernel
theorem d_M_take_26 : decode b_M_take 26 = .ok (.ireturn, 1) := by decide +kernel
theorem d_M_take_27 : decode b_M_take 27 = .ok (.aload_n 0, 1) := by decide +kernel
theorem d_M_take_28 : decode b_M_take 28 = .ok (.iload_n 1, 1) := by decide +kernel
theorem d_M_take_29 : decode b_M_take 29 = .ok (.invokevirtual 54, 3) := by decide +kernel
theorem d_M_take_32 : decode b_M_take 32 = .ok (.istore_n 2, 1) := by decide +kernel
theorem d_M_take_33 : decode b_M_take 33 = .ok (.iload_n 2, 1) := by decide +kernel
theorem d_M_take_34 : decode b_M_take 34 = .ok (.ifCond .ne 15, 3) := by decide +kernel
theorem d_M_take_37 : decode b_M_take 37 = .ok (.aload_n 0, 1) := by decide +kernel
theorem d_M_take_38 : decode b_M_take 38 = .ok (.dup, 1) := by decide +kernel
theorem d_M_take_39 : decode b_M_take 39 = .ok (.getfield 34, 3) := by decide +kernel
theorem d_M_take_42 : decode b_M_take 42 = .ok (.iconst 1, 1) := by decide +kernel
theorem d_M_take_43 : decode b_M_take 43 = .ok (.iadd, 1) := by decide +kernel
theorem d_M_take_44 : decode b_M_take 44 = .ok (.putfield 34, 3) := by decide +kernel
theorem d_M_take_47 : decode b_M_take 47 = .ok (.iconst 0, 1) := by decide +kernel
theorem d_M_take_48 : decode b_M_take 48 = .ok (.ireturn, 1) := by decide +kernel
theorem d_M_take_49 : decode b_M_take 49 = .ok (.aload_n 0, 1) := by decide +kernel
theorem d_M_take_50 : decode b_M_take 50 = .ok (.iload_n 2, 1) := by decide +kernel
theorem d_M_take_51 : decode b_M_take 51 = .ok (.invokevirtual 50, 3) := by decide +kernel
theorem d_M_take_54 : decode b_M_take 54 = .ok (.iload_n 1, 1) := by decide +kernel
theorem d_M_take_55 : decode b_M_take 55 = .ok (.isub, 1) := by decide +kernel
theorem d_M_take_56 : decode b_M_take 56 = .ok (.istore_n 3, 1) := by decide +kernel
theorem d_M_take_57 : decode b_M_take 57 = .ok (.aload_n 0, 1) := by decide +kernel
theorem d_M_take_58 : decode b_M_take 58 = .ok (.getfield 13, 3) := by decide +kernel
theorem d_M_take_61 : decode b_M_take 61 = .ok (.iload_n 2, 1) := by decide +kernel
theorem d_M_take_62 : decode b_M_take 62 = .ok (.iload_n 1, 1) := by decide +kernel
theorem d_M_take_63 : decode b_M_take 63 = .ok (.iastore, 1) := by decide +kernel
theorem d_M_take_64 : decode b_M_take 64 = .ok (.aload_n 0, 1) := by decide +kernel
theorem d_M_take_65 : decode b_M_take 65 = .ok (.getfield 20, 3) := by decide +kernel
theorem d_M_take_68 : decode b_M_take 68 = .ok (.iload_n 2, 1) := by decide +kernel
theorem d_M_take_69 : decode b_M_take 69 = .ok (.aload_n 0, 1) := by decide +kernel
theorem d_M_take_70 : decode b_M_take 70 = .ok (.getfield 43, 3) := by decide +kernel
theorem d_M_take_73 : decode b_M_take 73 = .ok (.ifCond .le 15, 3) := by decide +kernel
theorem d_M_take_76 : decode b_M_take 76 = .ok (.iload_n 2, 1) := by decide +kernel
theorem d_M_take_77 : decode b_M_take 77 = .ok (.aload_n 0, 1) := by decide +kernel
theorem d_M_take_78 : decode b_M_take 78 = .ok (.getfield 43, 3) := by decide +kernel
theorem d_M_take_81 : decode b_M_take 81 = .ok (.if_icmp .lt 7, 3) := by decide +kernel
theorem d_M_take_84 : decode b_M_take 84 = .ok (.iconst 1, 1) := by decide +kernel
theorem d_M_take_85 : decode b_M_take 85 = .ok (.goto 4, 3) := by decide +kernel
theorem d_M_take_88 : decode b_M_take 88 = .ok (.iconst 0, 1) := by decide +kernel
theorem d_M_take_89 : decode b_M_take 89 = .ok (.bastore, 1) := by decide +kernel
theorem d_M_take_90 : decode b_M_take 90 = .ok (.iload_n 3, 1) := by decide +kernel
theorem d_M_take_91 : decode b_M_take 91 = .ok (.ifCond .le 11, 3) := by decide +kernel
theorem d_M_take_94 : decode b_M_take 94 = .ok (.aload_n 0, 1) := by decide +kernel
theorem d_M_take_95 : decode b_M_take 95 = .ok (.iload_n 2, 1) := by decide +kernel
theorem d_M_take_96 : decode b_M_take 96 = .ok (.iload_n 1, 1) := by decide +kernel
theorem d_M_take_97 : decode b_M_take 97 = .ok (.iadd, 1) := by decide +kernel
theorem d_M_take_98 : decode b_M_take 98 = .ok (.iload_n 3, 1) := by decide +kernel
theorem d_M_take_99 : decode b_M_take 99 = .ok (.invokevirtual 46, 3) := by decide +kernel
theorem d_M_take_102 : decode b_M_take 102 = .ok (.iload_n 2, 1) := by decide +kernel
theorem d_M_take_103 : decode b_M_take 103 = .ok (.ireturn, 1) := by decide +kernel
theorem d_M_used_0 : decode b_M_used 0 = .ok (.iload_n 1, 1) := by decide +kernel
theorem d_M_used_1 : decode b_M_used 1 = .ok (.iconst 1, 1) := by decide +kernel
theorem d_M_used_2 : decode b_M_used 2 = .ok (.if_icmp .lt 24, 3) := by decide +kernel
theorem d_M_used_5 : decode b_M_used 5 = .ok (.iload_n 1, 1) := by decide +kernel
theorem d_M_used_6 : decode b_M_used 6 = .ok (.aload_n 0, 1) := by decide +kernel
theorem d_M_used_7 : decode b_M_used 7 = .ok (.getfield 7, 3) := by decide +kernel
theorem d_M_used_10 : decode b_M_used 10 = .ok (.if_icmp .gt 16, 3) := by decide +kernel
theorem d_M_used_13 : decode b_M_used 13 = .ok (.aload_n 0, 1) := by decide +kernel
theorem d_M_used_14 : decode b_M_used 14 = .ok (.getfield 13, 3) := by decide +kernel
theorem d_M_used_17 : decode b_M_used 17 = .ok (.iload_n 1, 1) := by decide +kernel
theorem d_M_used_18 : decode b_M_used 18 = .ok (.iaload, 1) := by decide +kernel
theorem d_M_used_19 : decode b_M_used 19 = .ok (.ifCond .le 7, 3) := by decide +kernel
theorem d_M_used_22 : decode b_M_used 22 = .ok (.iconst 1, 1) := by decide +kernel
theorem d_M_used_23 : decode b_M_used 23 = .ok (.goto 4, 3) := by decide +kernel
theorem d_M_used_26 : decode b_M_used 26 = .ok (.iconst 0, 1) := by decide +kernel
theorem d_M_used_27 : decode b_M_used 27 = .ok (.ireturn, 1) := by decide +kernel
theorem d_M_give_0 : decode b_M_give 0 = .ok (.aload_n 0, 1) := by decide +kernel
theorem d_M_give_1 : decode b_M_give 1 = .ok (.aload_n 0, 1) := by decide +kernel
end
section
theorem d_M_give_2 : decode b_M_give 2 = .ok (.iload_n 1, 1) := by decide +kernel
theorem d_M_give_3 : decode b_M_give 3 = .ok (.invokevirtual 57, 3) := by decide +kernel
theorem d_M_give_6 : decode b_M_give 6 = .ok (.iconst 1, 1) := by decide +kernel
theorem d_M_give_7 : decode b_M_give 7 = .ok (.invokevirtual 30, 3) := by decide +kernel
theorem d_M_give_10 : decode b_M_give 10 = .ok (.ifCond .ne 5, 3) := by decide +kernel
theorem d_M_give_13 : decode b_M_give 13 = .ok (.iconst 0, 1) := by decide +kernel
theorem d_M_give_14 : decode b_M_give 14 = .ok (.ireturn, 1) := by decide +kernel
theorem d_M_give_15 : decode b_M_give 15 = .ok (.aload_n 0, 1) := by decide +kernel
theorem d_M_give_16 : decode b_M_give 16 = .ok (.getfield 13, 3) := by decide +kernel
theorem d_M_give_19 : decode b_M_give 19 = .ok (.iload_n 1, 1) := by decide +kernel
theorem d_M_give_20 : decode b_M_give 20 = .ok (.iaload, 1) := by decide +kernel
theorem d_M_give_21 : decode b_M_give 21 = .ok (.istore_n 2, 1) := by decide +kernel
theorem d_M_give_22 : decode b_M_give 22 = .ok (.aload_n 0, 1) := by decide +kernel
theorem d_M_give_23 : decode b_M_give 23 = .ok (.iload_n 1, 1) := by decide +kernel
theorem d_M_give_24 : decode b_M_give 24 = .ok (.iload_n 2, 1) := by decide +kernel
theorem d_M_give_25 : decode b_M_give 25 = .ok (.invokevirtual 46, 3) := by decide +kernel
theorem d_M_give_28 : decode b_M_give 28 = .ok (.iload_n 2, 1) := by decide +kernel
theorem d_M_give_29 : decode b_M_give 29 = .ok (.ireturn, 1) := by decide +kernel
theorem d_M_mark_0 : decode b_M_mark 0 = .ok (.aload_n 0, 1) := by decide +kernel
theorem d_M_mark_1 : decode b_M_mark 1 = .ok (.aload_n 0, 1) := by decide +kernel
theorem d_M_mark_2 : decode b_M_mark 2 = .ok (.iload_n 1, 1) := by decide +kernel
theorem d_M_mark_3 : decode b_M_mark 3 = .ok (.invokevirtual 57, 3) := by decide +kernel
theorem d_M_mark_6 : decode b_M_mark 6 = .ok (.aload_n 0, 1) := by decide +kernel
theorem d_M_mark_7 : decode b_M_mark 7 = .ok (.getfield 43, 3) := by decide +kernel
theorem d_M_mark_10 : decode b_M_mark 10 = .ok (.ifCond .ne 7, 3) := by decide +kernel
theorem d_M_mark_13 : decode b_M_mark 13 = .ok (.iconst 1, 1) := by decide +kernel
theorem d_M_mark_14 : decode b_M_mark 14 = .ok (.goto 4, 3) := by decide +kernel
theorem d_M_mark_17 : decode b_M_mark 17 = .ok (.iconst 0, 1) := by decide +kernel
theorem d_M_mark_18 : decode b_M_mark 18 = .ok (.invokevirtual 30, 3) := by decide +kernel
theorem d_M_mark_21 : decode b_M_mark 21 = .ok (.ifCond .ne 5, 3) := by decide +kernel
theorem d_M_mark_24 : decode b_M_mark 24 = .ok (.iconst 0, 1) := by decide +kernel
theorem d_M_mark_25 : decode b_M_mark 25 = .ok (.ireturn, 1) := by decide +kernel
theorem d_M_mark_26 : decode b_M_mark 26 = .ok (.aload_n 0, 1) := by decide +kernel
theorem d_M_mark_27 : decode b_M_mark 27 = .ok (.getfield 20, 3) := by decide +kernel
theorem d_M_mark_30 : decode b_M_mark 30 = .ok (.iload_n 1, 1) := by decide +kernel
theorem d_M_mark_31 : decode b_M_mark 31 = .ok (.baload, 1) := by decide +kernel
theorem d_M_mark_32 : decode b_M_mark 32 = .ok (.ifCond .ne 7, 3) := by decide +kernel
theorem d_M_mark_35 : decode b_M_mark 35 = .ok (.iconst 1, 1) := by decide +kernel
theorem d_M_mark_36 : decode b_M_mark 36 = .ok (.goto 4, 3) := by decide +kernel
theorem d_M_mark_39 : decode b_M_mark 39 = .ok (.iconst 0, 1) := by decide +kernel
theorem d_M_mark_40 : decode b_M_mark 40 = .ok (.istore_n 2, 1) := by decide +kernel
theorem d_M_mark_41 : decode b_M_mark 41 = .ok (.aload_n 0, 1) := by decide +kernel
theorem d_M_mark_42 : decode b_M_mark 42 = .ok (.getfield 20, 3) := by decide +kernel
theorem d_M_mark_45 : decode b_M_mark 45 = .ok (.iload_n 1, 1) := by decide +kernel
theorem d_M_mark_46 : decode b_M_mark 46 = .ok (.iconst 1, 1) := by decide +kernel
theorem d_M_mark_47 : decode b_M_mark 47 = .ok (.bastore, 1) := by decide +kernel
theorem d_M_mark_48 : decode b_M_mark 48 = .ok (.iload_n 2, 1) := by decide +kernel
theorem d_M_mark_49 : decode b_M_mark 49 = .ok (.ireturn, 1) := by decide +kernel
theorem d_M_marks_0 : decode b_M_marks 0 = .ok (.iconst 0, 1) := by decide +kernel
theorem d_M_marks_1 : decode b_M_marks 1 = .ok (.istore_n 1, 1) := by decide +kernel
theorem d_M_marks_2 : decode b_M_marks 2 = .ok (.iconst 1, 1) := by decide +kernel
theorem d_M_marks_3 : decode b_M_marks 3 = .ok (.istore_n 2, 1) := by decide +kernel
theorem d_M_marks_4 : decode b_M_marks 4 = .ok (.iload_n 2, 1) := by decide +kernel
theorem d_M_marks_5 : decode b_M_marks 5 = .ok (.aload_n 0, 1) := by decide +kernel
theorem d_M_marks_6 : decode b_M_marks 6 = .ok (.getfield 7, 3) := by decide +kernel
theorem d_M_marks_9 : decode b_M_marks 9 = .ok (.if_icmp .gt 31, 3) := by decide +kernel
theorem d_M_marks_12 : decode b_M_marks 12 = .ok (.aload_n 0, 1) := by decide +kernel
theorem d_M_marks_13 : decode b_M_marks 13 = .ok (.getfield 20, 3) := by decide +kernel
theorem d_M_marks_16 : decode b_M_marks 16 = .ok (.iload_n 2, 1) := by decide +kernel
theorem d_M_marks_17 : decode b_M_marks 17 = .ok (.baload, 1) := by decide +kernel
theorem d_M_marks_18 : decode b_M_marks 18 = .ok (.ifCond .eq 9, 3) := by decide +kernel
theorem d_M_marks_21 : decode b_M_marks 21 = .ok (.iload_n 1, 1) := by decide +kernel
theorem d_M_marks_22 : decode b_M_marks 22 = .ok (.iconst 1, 1) := by decide +kernel
theorem d_M_marks_23 : decode b_M_marks 23 = .ok (.iadd, 1) := by decide +kernel
theorem d_M_marks_24 : decode b_M_marks 24 = .ok (.goto 4, 3) := by decide +kernel
theorem d_M_marks_27 : decode b_M_marks 27 = .ok (.iload_n 1, 1) := by decide +kernel
theorem d_M_marks_28 : decode b_M_marks 28 = .ok (.istore_n 1, 1) := by decide +kernel
theorem d_M_marks_29 : decode b_M_marks 29 = .ok (.iload_n 2, 1) := by decide +kernel
theorem d_M_marks_30 : decode b_M_marks 30 = .ok (.aload_n 0, 1) := by decide +kernel
theorem d_M_marks_31 : decode b_M_marks 31 = .ok (.iload_n 2, 1) := by decide +kernel
theorem d_M_marks_32 : decode b_M_marks 32 = .ok (.invokevirtual 50, 3) := by decide +kernel
theorem d_M_marks_35 : decode b_M_marks 35 = .ok (.iadd, 1) := by decide +kernel
theorem d_M_marks_36 : decode b_M_marks 36 = .ok (.istore_n 2, 1) := by decide +kernel
theorem d_M_marks_37 : decode b_M_marks 37 = .ok (.goto (-33), 3) := by decide +kernel
theorem d_M_marks_40 : decode b_M_marks 40 = .ok (.iload_n 1, 1) := by decide +kernel
theorem d_M_marks_41 : decode b_M_marks 41 = .ok (.ireturn, 1) := by decide +kernel
theorem d_M_unmark_0 : decode b_M_unmark 0 = .ok (.aload_n 0, 1) := by decide +kernel
theorem d_M_unmark_1 : decode b_M_unmark 1 = .ok (.aload_n 0, 1) := by decide +kernel
theorem d_M_unmark_2 : decode b_M_unmark 2 = .ok (.getfield 43, 3) := by decide +kernel
theorem d_M_unmark_5 : decode b_M_unmark 5 = .ok (.ifCond .ne 7, 3) := by decide +kernel
theorem d_M_unmark_8 : decode b_M_unmark 8 = .ok (.iconst 1, 1) := by decide +kernel
theorem d_M_unmark_9 : decode b_M_unmark 9 = .ok (.goto 4, 3) := by decide +kernel
theorem d_M_unmark_12 : decode b_M_unmark 12 = .ok (.iconst 0, 1) := by decide +kernel
theorem d_M_unmark_13 : decode b_M_unmark 13 = .ok (.iconst 1, 1) := by decide +kernel
theorem d_M_unmark_14 : decode b_M_unmark 14 = .ok (.invokevirtual 30, 3) := by decide +kernel
theorem d_M_unmark_17 : decode b_M_unmark 17 = .ok (.ifCond .ne 5, 3) := by decide +kernel
theorem d_M_unmark_20 : decode b_M_unmark 20 = .ok (.iconst 0, 1) := by decide +kernel
theorem d_M_unmark_21 : decode b_M_unmark 21 = .ok (.ireturn, 1) := by decide +kernel
theorem d_M_unmark_22 : decode b_M_unmark 22 = .ok (.aload_n 0, 1) := by decide +kernel
theorem d_M_unmark_23 : decode b_M_unmark 23 = .ok (.invokevirtual 61, 3) := by decide +kernel
theorem d_M_unmark_26 : decode b_M_unmark 26 = .ok (.istore_n 1, 1) := by decide +kernel
theorem d_M_unmark_27 : decode b_M_unmark 27 = .ok (.iconst 1, 1) := by decide +kernel
theorem d_M_unmark_28 : decode b_M_unmark 28 = .ok (.istore_n 2, 1) := by decide +kernel
theorem d_M_unmark_29 : decode b_M_unmark 29 = .ok (.iload_n 2, 1) := by decide +kernel
theorem d_M_unmark_30 : decode b_M_unmark 30 = .ok (.aload_n 0, 1) := by decide +kernel
theorem d_M_unmark_31 : decode b_M_unmark 31 = .ok (.getfield 7, 3) := by decide +kernel
theorem d_M_unmark_34 : decode b_M_unmark 34 = .ok (.if_icmp .gt 21, 3) := by decide +kernel
theorem d_M_unmark_37 : decode b_M_unmark 37 = .ok (.aload_n 0, 1) := by decide +kernel
theorem d_M_unmark_38 : decode b_M_unmark 38 = .ok (.getfield 20, 3) := by decide +kernel
theorem d_M_unmark_41 : decode b_M_unmark 41 = .ok (.iload_n 2, 1) := by decide +kernel
theorem d_M_unmark_42 : decode b_M_unmark 42 = .ok (.iconst 0, 1) := by decide +kernel
theorem d_M_unmark_43 : decode b_M_unmark 43 = .ok (.bastore, 1) := by decide +kernel
theorem d_M_unmark_44 : decode b_M_unmark 44 = .ok (.iload_n 2, 1) := by decide +kernel
theorem d_M_unmark_45 : decode b_M_unmark 45 = .ok (.aload_n 0, 1) := by decide +kernel
theorem d_M_unmark_46 : decode b_M_unmark 46 = .ok (.iload_n 2, 1) := by decide +kernel
theorem d_M_unmark_47 : decode b_M_unmark 47 = .ok (.invokevirtual 50, 3) := by decide +kernel
theorem d_M_unmark_50 : decode b_M_unmark 50 = .ok (.iadd, 1) := by decide +kernel
theorem d_M_unmark_51 : decode b_M_unmark 51 = .ok (.istore_n 2, 1) := by decide +kernel
theorem d_M_unmark_52 : decode b_M_unmark 52 = .ok (.goto (-23), 3) := by decide +kernel
theorem d_M_unmark_55 : decode b_M_unmark 55 = .ok (.iload_n 1, 1) := by decide +kernel
theorem d_M_unmark_56 : decode b_M_unmark 56 = .ok (.ireturn, 1) := by decide +kernel
theorem d_M_begin_0 : decode b_M_begin 0 = .ok (.aload_n 0, 1) := by decide +kernel
theorem d_M_begin_1 : decode b_M_begin 1 = .ok (.aload_n 0, 1) := by decide +kernel
theorem d_M_begin_2 : decode b_M_begin 2 = .ok (.getfield 43, 3) := by decide +kernel
theorem d_M_begin_5 : decode b_M_begin 5 = .ok (.ifCond .ne 7, 3) := by decide +kernel
theorem d_M_begin_8 : decode b_M_begin 8 = .ok (.iconst 1, 1) := by decide +kernel
theorem d_M_begin_9 : decode b_M_begin 9 = .ok (.goto 4, 3) := by decide +kernel
theorem d_M_begin_12 : decode b_M_begin 12 = .ok (.iconst 0, 1) := by decide +kernel
theorem d_M_begin_13 : decode b_M_begin 13 = .ok (.iconst 1, 1) := by decide +kernel
theorem d_M_begin_14 : decode b_M_begin 14 = .ok (.invokevirtual 30, 3) := by decide +kernel
theorem d_M_begin_17 : decode b_M_begin 17 = .ok (.ifCond .eq 8, 3) := by decide +kernel
theorem d_M_begin_20 : decode b_M_begin 20 = .ok (.aload_n 0, 1) := by decide +kernel
theorem d_M_begin_21 : decode b_M_begin 21 = .ok (.iconst 1, 1) := by decide +kernel
theorem d_M_begin_22 : decode b_M_begin 22 = .ok (.putfield 43, 3) := by decide +kernel
theorem d_M_begin_25 : decode b_M_begin 25 = .ok (.return_, 1) := by decide +kernel
theorem d_M_step_0 : decode b_M_step 0 = .ok (.aload_n 0, 1) := by decide +kernel
theorem d_M_step_1 : decode b_M_step 1 = .ok (.getfield 43, 3) := by decide +kernel
theorem d_M_step_4 : decode b_M_step 4 = .ok (.istore_n 1, 1) := by decide +kernel
theorem d_M_step_5 : decode b_M_step 5 = .ok (.aload_n 0, 1) := by decide +kernel
theorem d_M_step_6 : decode b_M_step 6 = .ok (.getfield 20, 3) := by decide +kernel
theorem d_M_step_9 : decode b_M_step 9 = .ok (.iload_n 1, 1) := by decide +kernel
theorem d_M_step_10 : decode b_M_step 10 = .ok (.baload, 1) := by decide +kernel
theorem d_M_step_11 : decode b_M_step 11 = .ok (.ifCond .eq 22, 3) := by decide +kernel
theorem d_M_step_14 : decode b_M_step 14 = .ok (.aload_n 0, 1) := by decide +kernel
theorem d_M_step_15 : decode b_M_step 15 = .ok (.getfield 20, 3) := by decide +kernel
theorem d_M_step_18 : decode b_M_step 18 = .ok (.iload_n 1, 1) := by decide +kernel
theorem d_M_step_19 : decode b_M_step 19 = .ok (.iconst 0, 1) := by decide +kernel
theorem d_M_step_20 : decode b_M_step 20 = .ok (.bastore, 1) := by decide +kernel
theorem d_M_step_21 : decode b_M_step 21 = .ok (.aload_n 0, 1) := by decide +kernel
theorem d_M_step_22 : decode b_M_step 22 = .ok (.iload_n 1, 1) := by decide +kernel
theorem d_M_step_23 : decode b_M_step 23 = .ok (.aload_n 0, 1) := by decide +kernel
theorem d_M_step_24 : decode b_M_step 24 = .ok (.iload_n 1, 1) := by decide +kernel
theorem d_M_step_25 : decode b_M_step 25 = .ok (.invokevirtual 50, 3) := by decide +kernel
theorem d_M_step_28 : decode b_M_step 28 = .ok (.iadd, 1) := by decide +kernel
theorem d_M_step_29 : decode b_M_step 29 = .ok (.putfield 43, 3) := by decide +kernel
theorem d_M_step_32 : decode b_M_step 32 = .ok (.return_, 1) := by decide +kernel
theorem d_M_step_33 : decode b_M_step 33 = .ok (.iload_n 1, 1) := by decide +kernel
theorem d_M_step_34 : decode b_M_step 34 = .ok (.istore_n 2, 1) := by decide +kernel
theorem d_M_step_35 : decode b_M_step 35 = .ok (.iconst 0, 1) := by decide +kernel
theorem d_M_step_36 : decode b_M_step 36 = .ok (.istore_n 3, 1) := by decide +kernel
theorem d_M_step_37 : decode b_M_step 37 = .ok (.aload_n 0, 1) := by decide +kernel
theorem d_M_step_38 : decode b_M_step 38 = .ok (.getfield 13, 3) := by decide +kernel
theorem d_M_step_41 : decode b_M_step 41 = .ok (.iload_n 1, 1) := by decide +kernel
theorem d_M_step_42 : decode b_M_step 42 = .ok (.iaload, 1) := by decide +kernel
theorem d_M_step_43 : decode b_M_step 43 = .ok (.ifCond .ge 7, 3) := by decide +kernel
theorem d_M_step_46 : decode b_M_step 46 = .ok (.iconst 1, 1) := by decide +kernel
theorem d_M_step_47 : decode b_M_step 47 = .ok (.goto 4, 3) := by decide +kernel
theorem d_M_step_50 : decode b_M_step 50 = .ok (.iconst 0, 1) := by decide +kernel
theorem d_M_step_51 : decode b_M_step 51 = .ok (.istore 4, 2) := by decide +kernel
theorem d_M_step_53 : decode b_M_step 53 = .ok (.iload_n 2, 1) := by decide +kernel
theorem d_M_step_54 : decode b_M_step 54 = .ok (.aload_n 0, 1) := by decide +kernel
theorem d_M_step_55 : decode b_M_step 55 = .ok (.getfield 7, 3) := by decide +kernel
theorem d_M_step_58 : decode b_M_step 58 = .ok (.if_icmp .gt 77, 3) := by decide +kernel
theorem d_M_step_61 : decode b_M_step 61 = .ok (.aload_n 0, 1) := by decide +kernel
theorem d_M_step_62 : decode b_M_step 62 = .ok (.getfield 20, 3) := by decide +kernel
theorem d_M_step_65 : decode b_M_step 65 = .ok (.iload_n 2, 1) := by decide +kernel
theorem d_M_step_66 : decode b_M_step 66 = .ok (.baload, 1) := by decide +kernel
theorem d_M_step_67 : decode b_M_step 67 = .ok (.ifCond .ne 68, 3) := by decide +kernel
theorem d_M_step_70 : decode b_M_step 70 = .ok (.aload_n 0, 1) := by decide +kernel
theorem d_M_step_71 : decode b_M_step 71 = .ok (.iload_n 2, 1) := by decide +kernel
theorem d_M_step_72 : decode b_M_step 72 = .ok (.invokevirtual 50, 3) := by decide +kernel
theorem d_M_step_75 : decode b_M_step 75 = .ok (.istore 5, 2) := by decide +kernel
theorem d_M_step_77 : decode b_M_step 77 = .ok (.aload_n 0, 1) := by decide +kernel
theorem d_M_step_78 : decode b_M_step 78 = .ok (.aload_n 0, 1) := by decide +kernel
theorem d_M_step_79 : decode b_M_step 79 = .ok (.getfield 13, 3) := by decide +kernel
theorem d_M_step_82 : decode b_M_step 82 = .ok (.iload_n 2, 1) := by decide +kernel
theorem d_M_step_83 : decode b_M_step 83 = .ok (.iaload, 1) := by decide +kernel
theorem d_M_step_84 : decode b_M_step 84 = .ok (.ifCond .le 12, 3) := by decide +kernel
theorem d_M_step_87 : decode b_M_step 87 = .ok (.aload_n 0, 1) := by decide +kernel
theorem d_M_step_88 : decode b_M_step 88 = .ok (.getfield 37, 3) := by decide +kernel
theorem d_M_step_91 : decode b_M_step 91 = .ok (.iconst 1, 1) := by decide +kernel
theorem d_M_step_92 : decode b_M_step 92 = .ok (.iadd, 1) := by decide +kernel
theorem d_M_step_93 : decode b_M_step 93 = .ok (.goto 7, 3) := by decide +kernel
theorem d_M_step_96 : decode b_M_step 96 = .ok (.aload_n 0, 1) := by decide +kernel
theorem d_M_step_97 : decode b_M_step 97 = .ok (.getfield 37, 3) := by decide +kernel
theorem d_M_step_100 : decode b_M_step 100 = .ok (.putfield 37, 3) := by decide +kernel
theorem d_M_step_103 : decode b_M_step 103 = .ok (.aload_n 0, 1) := by decide +kernel
theorem d_M_step_104 : decode b_M_step 104 = .ok (.getfield 13, 3) := by decide +kernel
theorem d_M_step_107 : decode b_M_step 107 = .ok (.iload_n 2, 1) := by decide +kernel
theorem d_M_step_108 : decode b_M_step 108 = .ok (.iload_n 2, 1) := by decide +kernel
theorem d_M_step_109 : decode b_M_step 109 = .ok (.iload_n 1, 1) := by decide +kernel
theorem d_M_step_110 : decode b_M_step 110 = .ok (.if_icmp .ne 12, 3) := by decide +kernel
theorem d_M_step_113 : decode b_M_step 113 = .ok (.aload_n 0, 1) := by decide +kernel
theorem d_M_step_114 : decode b_M_step 114 = .ok (.getfield 13, 3) := by decide +kernel
theorem d_M_step_117 : decode b_M_step 117 = .ok (.iload_n 2, 1) := by decide +kernel
theorem d_M_step_118 : decode b_M_step 118 = .ok (.iaload, 1) := by decide +kernel
theorem d_M_step_119 : decode b_M_step 119 = .ok (.goto 4, 3) := by decide +kernel
theorem d_M_step_122 : decode b_M_step 122 = .ok (.iconst 0, 1) := by decide +kernel
theorem d_M_step_123 : decode b_M_step 123 = .ok (.iastore, 1) := by decide +kernel
theorem d_M_step_124 : decode b_M_step 124 = .ok (.iinc 3 1, 3) := by decide +kernel
theorem d_M_step_127 : decode b_M_step 127 = .ok (.iload_n 2, 1) := by decide +kernel
theorem d_M_step_128 : decode b_M_step 128 = .ok (.iload 5, 2) := by decide +kernel
theorem d_M_step_130 : decode b_M_step 130 = .ok (.iadd, 1) := by decide +kernel
theorem d_M_step_131 : decode b_M_step 131 = .ok (.istore_n 2, 1) := by decide +kernel
theorem d_M_step_132 : decode b_M_step 132 = .ok (.goto (-79), 3) := by decide +kernel
theorem d_M_step_135 : decode b_M_step 135 = .ok (.iload_n 3, 1) := by decide +kernel
theorem d_M_step_136 : decode b_M_step 136 = .ok (.iconst 1, 1) := by decide +kernel
theorem d_M_step_137 : decode b_M_step 137 = .ok (.if_icmp .gt 8, 3) := by decide +kernel
theorem d_M_step_140 : decode b_M_step 140 = .ok (.iload 4, 2) := by decide +kernel
theorem d_M_step_142 : decode b_M_step 142 = .ok (.ifCond .ne 11, 3) := by decide +kernel
theorem d_M_step_145 : decode b_M_step 145 = .ok (.aload_n 0, 1) := by decide +kernel
theorem d_M_step_146 : decode b_M_step 146 = .ok (.iload_n 1, 1) := by decide +kernel
theorem d_M_step_147 : decode b_M_step 147 = .ok (.iload_n 2, 1) := by decide +kernel
theorem d_M_step_148 : decode b_M_step 148 = .ok (.iload_n 1, 1) := by decide +kernel
theorem d_M_step_149 : decode b_M_step 149 = .ok (.isub, 1) := by decide +kernel
theorem d_M_step_150 : decode b_M_step 150 = .ok (.invokevirtual 46, 3) := by decide +kernel
theorem d_M_step_153 : decode b_M_step 153 = .ok (.aload_n 0, 1) := by decide +kernel
theorem d_M_step_154 : decode b_M_step 154 = .ok (.iload_n 2, 1) := by decide +kernel
theorem d_M_step_155 : decode b_M_step 155 = .ok (.putfield 43, 3) := by decide +kernel
theorem d_M_step_158 : decode b_M_step 158 = .ok (.return_, 1) := by decide +kernel
theorem d_M_sweep_0 : decode b_M_sweep 0 = .ok (.aload_n 0, 1) := by decide +kernel
theorem d_M_sweep_1 : decode b_M_sweep 1 = .ok (.iload_n 1, 1) := by decide +kernel
theorem d_M_sweep_2 : decode b_M_sweep 2 = .ok (.ifCond .lt 14, 3) := by decide +kernel
theorem d_M_sweep_5 : decode b_M_sweep 5 = .ok (.iload_n 1, 1) := by decide +kernel
theorem d_M_sweep_6 : decode b_M_sweep 6 = .ok (.sipush 5000, 3) := by decide +kernel
theorem d_M_sweep_9 : decode b_M_sweep 9 = .ok (.if_icmp .gt 7, 3) := by decide +kernel
theorem d_M_sweep_12 : decode b_M_sweep 12 = .ok (.iconst 1, 1) := by decide +kernel
theorem d_M_sweep_13 : decode b_M_sweep 13 = .ok (.goto 4, 3) := by decide +kernel
theorem d_M_sweep_16 : decode b_M_sweep 16 = .ok (.iconst 0, 1) := by decide +kernel
theorem d_M_sweep_17 : decode b_M_sweep 17 = .ok (.iconst 1, 1) := by decide +kernel
theorem d_M_sweep_18 : decode b_M_sweep 18 = .ok (.invokevirtual 30, 3) := by decide +kernel
theorem d_M_sweep_21 : decode b_M_sweep 21 = .ok (.ifCond .ne 5, 3) := by decide +kernel
theorem d_M_sweep_24 : decode b_M_sweep 24 = .ok (.iconst 0, 1) := by decide +kernel
theorem d_M_sweep_25 : decode b_M_sweep 25 = .ok (.ireturn, 1) := by decide +kernel
theorem d_M_sweep_26 : decode b_M_sweep 26 = .ok (.iconst 0, 1) := by decide +kernel
theorem d_M_sweep_27 : decode b_M_sweep 27 = .ok (.istore_n 2, 1) := by decide +kernel
theorem d_M_sweep_28 : decode b_M_sweep 28 = .ok (.iload_n 2, 1) := by decide +kernel
theorem d_M_sweep_29 : decode b_M_sweep 29 = .ok (.iload_n 1, 1) := by decide +kernel
theorem d_M_sweep_30 : decode b_M_sweep 30 = .ok (.if_icmp .ge 46, 3) := by decide +kernel
theorem d_M_sweep_33 : decode b_M_sweep 33 = .ok (.aload_n 0, 1) := by decide +kernel
theorem d_M_sweep_34 : decode b_M_sweep 34 = .ok (.getfield 43, 3) := by decide +kernel
theorem d_M_sweep_37 : decode b_M_sweep 37 = .ok (.ifCond .le 39, 3) := by decide +kernel
theorem d_M_sweep_40 : decode b_M_sweep 40 = .ok (.aload_n 0, 1) := by decide +kernel
theorem d_M_sweep_41 : decode b_M_sweep 41 = .ok (.invokevirtual 64, 3) := by decide +kernel
theorem d_M_sweep_44 : decode b_M_sweep 44 = .ok (.iinc 2 1, 3) := by decide +kernel
theorem d_M_sweep_47 : decode b_M_sweep 47 = .ok (.aload_n 0, 1) := by decide +kernel
theorem d_M_sweep_48 : decode b_M_sweep 48 = .ok (.getfield 43, 3) := by decide +kernel
theorem d_M_sweep_51 : decode b_M_sweep 51 = .ok (.aload_n 0, 1) := by decide +kernel
theorem d_M_sweep_52 : decode b_M_sweep 52 = .ok (.getfield 7, 3) := by decide +kernel
theorem d_M_sweep_55 : decode b_M_sweep 55 = .ok (.if_icmp .le (-27), 3) := by decide +kernel
theorem d_M_sweep_58 : decode b_M_sweep 58 = .ok (.aload_n 0, 1) := by decide +kernel
theorem d_M_sweep_59 : decode b_M_sweep 59 = .ok (.iconst 0, 1) := by decide +kernel
theorem d_M_sweep_60 : decode b_M_sweep 60 = .ok (.putfield 43, 3) := by decide +kernel
theorem d_M_sweep_63 : decode b_M_sweep 63 = .ok (.aload_n 0, 1) := by decide +kernel
theorem d_M_sweep_64 : decode b_M_sweep 64 = .ok (.dup, 1) := by decide +kernel
theorem d_M_sweep_65 : decode b_M_sweep 65 = .ok (.getfield 40, 3) := by decide +kernel
theorem d_M_sweep_68 : decode b_M_sweep 68 = .ok (.iconst 1, 1) := by decide +kernel
theorem d_M_sweep_69 : decode b_M_sweep 69 = .ok (.iadd, 1) := by decide +kernel
theorem d_M_sweep_70 : decode b_M_sweep 70 = .ok (.putfield 40, 3) := by decide +kernel
theorem d_M_sweep_73 : decode b_M_sweep 73 = .ok (.goto (-45), 3) := by decide +kernel
theorem d_M_sweep_76 : decode b_M_sweep 76 = .ok (.iload_n 2, 1) := by decide +kernel
theorem d_M_sweep_77 : decode b_M_sweep 77 = .ok (.ireturn, 1) := by decide +kernel
theorem d_M_hand_0 : decode b_M_hand 0 = .ok (.aload_n 0, 1) := by decide +kernel
theorem d_M_hand_1 : decode b_M_hand 1 = .ok (.iconst 0, 1) := by decide +kernel
theorem d_M_hand_2 : decode b_M_hand 2 = .ok (.putfield 24, 3) := by decide +kernel
theorem d_M_hand_5 : decode b_M_hand 5 = .ok (.aload_n 0, 1) := by decide +kernel
theorem d_M_hand_6 : decode b_M_hand 6 = .ok (.getfield 43, 3) := by decide +kernel
theorem d_M_hand_9 : decode b_M_hand 9 = .ok (.ireturn, 1) := by decide +kernel
theorem d_M_piece_0 : decode b_M_piece 0 = .ok (.aload_n 0, 1) := by decide +kernel
theorem d_M_piece_1 : decode b_M_piece 1 = .ok (.iconst 0, 1) := by decide +kernel
theorem d_M_piece_2 : decode b_M_piece 2 = .ok (.putfield 24, 3) := by decide +kernel
theorem d_M_piece_5 : decode b_M_piece 5 = .ok (.iload_n 1, 1) := by decide +kernel
theorem d_M_piece_6 : decode b_M_piece 6 = .ok (.iconst 1, 1) := by decide +kernel
theorem d_M_piece_7 : decode b_M_piece 7 = .ok (.if_icmp .lt 20, 3) := by decide +kernel
theorem d_M_piece_10 : decode b_M_piece 10 = .ok (.iload_n 1, 1) := by decide +kernel
theorem d_M_piece_11 : decode b_M_piece 11 = .ok (.aload_n 0, 1) := by decide +kernel
theorem d_M_piece_12 : decode b_M_piece 12 = .ok (.getfield 7, 3) := by decide +kernel
theorem d_M_piece_15 : decode b_M_piece 15 = .ok (.if_icmp .gt 12, 3) := by decide +kernel
theorem d_M_piece_18 : decode b_M_piece 18 = .ok (.aload_n 0, 1) := by decide +kernel
theorem d_M_piece_19 : decode b_M_piece 19 = .ok (.getfield 13, 3) := by decide +kernel
theorem d_M_piece_22 : decode b_M_piece 22 = .ok (.iload_n 1, 1) := by decide +kernel
theorem d_M_piece_23 : decode b_M_piece 23 = .ok (.iaload, 1) := by decide +kernel
theorem d_M_piece_24 : decode b_M_piece 24 = .ok (.goto 4, 3) := by decide +kernel
theorem d_M_piece_27 : decode b_M_piece 27 = .ok (.iconst 0, 1) := by decide +kernel
theorem d_M_piece_28 : decode b_M_piece 28 = .ok (.ireturn, 1) := by decide +kernel
theorem d_M_marked_0 : decode b_M_marked 0 = .ok (.aload_n 0, 1) := by decide +kernel
theorem d_M_marked_1 : decode b_M_marked 1 = .ok (.iconst 0, 1) := by decide +kernel
theorem d_M_marked_2 : decode b_M_marked 2 = .ok (.putfield 24, 3) := by decide +kernel
theorem d_M_marked_5 : decode b_M_marked 5 = .ok (.iload_n 1, 1) := by decide +kernel
theorem d_M_marked_6 : decode b_M_marked 6 = .ok (.iconst 1, 1) := by decide +kernel
theorem d_M_marked_7 : decode b_M_marked 7 = .ok (.if_icmp .lt 24, 3) := by decide +kernel
theorem d_M_marked_10 : decode b_M_marked 10 = .ok (.iload_n 1, 1) := by decide +kernel
theorem d_M_marked_11 : decode b_M_marked 11 = .ok (.aload_n 0, 1) := by decide +kernel
theorem d_M_marked_12 : decode b_M_marked 12 = .ok (.getfield 7, 3) := by decide +kernel
theorem d_M_marked_15 : decode b_M_marked 15 = .ok (.if_icmp .gt 16, 3) := by decide +kernel
theorem d_M_marked_18 : decode b_M_marked 18 = .ok (.aload_n 0, 1) := by decide +kernel
theorem d_M_marked_19 : decode b_M_marked 19 = .ok (.getfield 20, 3) := by decide +kernel
theorem d_M_marked_22 : decode b_M_marked 22 = .ok (.iload_n 1, 1) := by decide +kernel
theorem d_M_marked_23 : decode b_M_marked 23 = .ok (.baload, 1) := by decide +kernel
theorem d_M_marked_24 : decode b_M_marked 24 = .ok (.ifCond .eq 7, 3) := by decide +kernel
theorem d_M_marked_27 : decode b_M_marked 27 = .ok (.iconst 1, 1) := by decide +kernel
theorem d_M_marked_28 : decode b_M_marked 28 = .ok (.goto 4, 3) := by decide +kernel
theorem d_M_marked_31 : decode b_M_marked 31 = .ok (.iconst 0, 1) := by decide +kernel
theorem d_M_marked_32 : decode b_M_marked 32 = .ok (.ireturn, 1) := by decide +kernel
theorem d_M_greatest_0 : decode b_M_greatest 0 = .ok (.iconst 0, 1) := by decide +kernel
theorem d_M_greatest_1 : decode b_M_greatest 1 = .ok (.istore_n 1, 1) := by decide +kernel
theorem d_M_greatest_2 : decode b_M_greatest 2 = .ok (.iconst 1, 1) := by decide +kernel
theorem d_M_greatest_3 : decode b_M_greatest 3 = .ok (.istore_n 2, 1) := by decide +kernel
theorem d_M_greatest_4 : decode b_M_greatest 4 = .ok (.iload_n 2, 1) := by decide +kernel
theorem d_M_greatest_5 : decode b_M_greatest 5 = .ok (.aload_n 0, 1) := by decide +kernel
theorem d_M_greatest_6 : decode b_M_greatest 6 = .ok (.getfield 7, 3) := by decide +kernel
theorem d_M_greatest_9 : decode b_M_greatest 9 = .ok (.if_icmp .gt 42, 3) := by decide +kernel
theorem d_M_greatest_12 : decode b_M_greatest 12 = .ok (.aload_n 0, 1) := by decide +kernel
theorem d_M_greatest_13 : decode b_M_greatest 13 = .ok (.getfield 13, 3) := by decide +kernel
theorem d_M_greatest_16 : decode b_M_greatest 16 = .ok (.iload_n 2, 1) := by decide +kernel
theorem d_M_greatest_17 : decode b_M_greatest 17 = .ok (.iaload, 1) := by decide +kernel
theorem d_M_greatest_18 : decode b_M_greatest 18 = .ok (.ifCond .ge 20, 3) := by decide +kernel
theorem d_M_greatest_21 : decode b_M_greatest 21 = .ok (.aload_n 0, 1) := by decide +kernel
theorem d_M_greatest_22 : decode b_M_greatest 22 = .ok (.iload_n 2, 1) := by decide +kernel
theorem d_M_greatest_23 : decode b_M_greatest 23 = .ok (.invokevirtual 50, 3) := by decide +kernel
theorem d_M_greatest_26 : decode b_M_greatest 26 = .ok (.iload_n 1, 1) := by decide +kernel
theorem d_M_greatest_27 : decode b_M_greatest 27 = .ok (.if_icmp .le 11, 3) := by decide +kernel
theorem d_M_greatest_30 : decode b_M_greatest 30 = .ok (.aload_n 0, 1) := by decide +kernel
theorem d_M_greatest_31 : decode b_M_greatest 31 = .ok (.iload_n 2, 1) := by decide +kernel
theorem d_M_greatest_32 : decode b_M_greatest 32 = .ok (.invokevirtual 50, 3) := by decide +kernel
theorem d_M_greatest_35 : decode b_M_greatest 35 = .ok (.goto 4, 3) := by decide +kernel
theorem d_M_greatest_38 : decode b_M_greatest 38 = .ok (.iload_n 1, 1) := by decide +kernel
theorem d_M_greatest_39 : decode b_M_greatest 39 = .ok (.istore_n 1, 1) := by decide +kernel
theorem d_M_greatest_40 : decode b_M_greatest 40 = .ok (.iload_n 2, 1) := by decide +kernel
theorem d_M_greatest_41 : decode b_M_greatest 41 = .ok (.aload_n 0, 1) := by decide +kernel
end
section
theorem d_M_greatest_42 : decode b_M_greatest 42 = .ok (.iload_n 2, 1) := by decide +kernel
theorem d_M_greatest_43 : decode b_M_greatest 43 = .ok (.invokevirtual 50, 3) := by decide +kernel
theorem d_M_greatest_46 : decode b_M_greatest 46 = .ok (.iadd, 1) := by decide +kernel
theorem d_M_greatest_47 : decode b_M_greatest 47 = .ok (.istore_n 2, 1) := by decide +kernel
theorem d_M_greatest_48 : decode b_M_greatest 48 = .ok (.goto (-44), 3) := by decide +kernel
theorem d_M_greatest_51 : decode b_M_greatest 51 = .ok (.iload_n 1, 1) := by decide +kernel
theorem d_M_greatest_52 : decode b_M_greatest 52 = .ok (.ireturn, 1) := by decide +kernel
theorem d_M_count_0 : decode b_M_count 0 = .ok (.aload_n 0, 1) := by decide +kernel
theorem d_M_count_1 : decode b_M_count 1 = .ok (.iload_n 1, 1) := by decide +kernel
theorem d_M_count_2 : decode b_M_count 2 = .ok (.ifCond .lt 13, 3) := by decide +kernel
theorem d_M_count_5 : decode b_M_count 5 = .ok (.iload_n 1, 1) := by decide +kernel
theorem d_M_count_6 : decode b_M_count 6 = .ok (.bipush 10, 2) := by decide +kernel
theorem d_M_count_8 : decode b_M_count 8 = .ok (.if_icmp .gt 7, 3) := by decide +kernel
theorem d_M_count_11 : decode b_M_count 11 = .ok (.iconst 1, 1) := by decide +kernel
theorem d_M_count_12 : decode b_M_count 12 = .ok (.goto 4, 3) := by decide +kernel
theorem d_M_count_15 : decode b_M_count 15 = .ok (.iconst 0, 1) := by decide +kernel
theorem d_M_count_16 : decode b_M_count 16 = .ok (.iconst 1, 1) := by decide +kernel
theorem d_M_count_17 : decode b_M_count 17 = .ok (.invokevirtual 30, 3) := by decide +kernel
theorem d_M_count_20 : decode b_M_count 20 = .ok (.ifCond .ne 5, 3) := by decide +kernel
theorem d_M_count_23 : decode b_M_count 23 = .ok (.iconst 0, 1) := by decide +kernel
theorem d_M_count_24 : decode b_M_count 24 = .ok (.ireturn, 1) := by decide +kernel
theorem d_M_count_25 : decode b_M_count 25 = .ok (.iconst 0, 1) := by decide +kernel
theorem d_M_count_26 : decode b_M_count 26 = .ok (.istore_n 2, 1) := by decide +kernel
theorem d_M_count_27 : decode b_M_count 27 = .ok (.iconst 0, 1) := by decide +kernel
theorem d_M_count_28 : decode b_M_count 28 = .ok (.istore_n 3, 1) := by decide +kernel
theorem d_M_count_29 : decode b_M_count 29 = .ok (.iconst 0, 1) := by decide +kernel
theorem d_M_count_30 : decode b_M_count 30 = .ok (.istore 4, 2) := by decide +kernel
theorem d_M_count_32 : decode b_M_count 32 = .ok (.iconst 0, 1) := by decide +kernel
theorem d_M_count_33 : decode b_M_count 33 = .ok (.istore 5, 2) := by decide +kernel
theorem d_M_count_35 : decode b_M_count 35 = .ok (.iconst 0, 1) := by decide +kernel
theorem d_M_count_36 : decode b_M_count 36 = .ok (.istore 6, 2) := by decide +kernel
theorem d_M_count_38 : decode b_M_count 38 = .ok (.iconst 1, 1) := by decide +kernel
theorem d_M_count_39 : decode b_M_count 39 = .ok (.istore 7, 2) := by decide +kernel
theorem d_M_count_41 : decode b_M_count 41 = .ok (.iload 7, 2) := by decide +kernel
theorem d_M_count_43 : decode b_M_count 43 = .ok (.aload_n 0, 1) := by decide +kernel
theorem d_M_count_44 : decode b_M_count 44 = .ok (.getfield 7, 3) := by decide +kernel
theorem d_M_count_47 : decode b_M_count 47 = .ok (.if_icmp .gt 152, 3) := by decide +kernel
theorem d_M_count_50 : decode b_M_count 50 = .ok (.aload_n 0, 1) := by decide +kernel
theorem d_M_count_51 : decode b_M_count 51 = .ok (.getfield 13, 3) := by decide +kernel
theorem d_M_count_54 : decode b_M_count 54 = .ok (.iload 7, 2) := by decide +kernel
theorem d_M_count_56 : decode b_M_count 56 = .ok (.iaload, 1) := by decide +kernel
theorem d_M_count_57 : decode b_M_count 57 = .ok (.ifCond .le 9, 3) := by decide +kernel
theorem d_M_count_60 : decode b_M_count 60 = .ok (.iload_n 3, 1) := by decide +kernel
theorem d_M_count_61 : decode b_M_count 61 = .ok (.iconst 1, 1) := by decide +kernel
theorem d_M_count_62 : decode b_M_count 62 = .ok (.iadd, 1) := by decide +kernel
theorem d_M_count_63 : decode b_M_count 63 = .ok (.goto 4, 3) := by decide +kernel
theorem d_M_count_66 : decode b_M_count 66 = .ok (.iload_n 3, 1) := by decide +kernel
theorem d_M_count_67 : decode b_M_count 67 = .ok (.istore_n 3, 1) := by decide +kernel
theorem d_M_count_68 : decode b_M_count 68 = .ok (.aload_n 0, 1) := by decide +kernel
theorem d_M_count_69 : decode b_M_count 69 = .ok (.getfield 13, 3) := by decide +kernel
theorem d_M_count_72 : decode b_M_count 72 = .ok (.iload 7, 2) := by decide +kernel
theorem d_M_count_74 : decode b_M_count 74 = .ok (.iaload, 1) := by decide +kernel
theorem d_M_count_75 : decode b_M_count 75 = .ok (.ifCond .ge 14, 3) := by decide +kernel
theorem d_M_count_78 : decode b_M_count 78 = .ok (.iload_n 2, 1) := by decide +kernel
theorem d_M_count_79 : decode b_M_count 79 = .ok (.aload_n 0, 1) := by decide +kernel
theorem d_M_count_80 : decode b_M_count 80 = .ok (.iload 7, 2) := by decide +kernel
theorem d_M_count_82 : decode b_M_count 82 = .ok (.invokevirtual 50, 3) := by decide +kernel
theorem d_M_count_85 : decode b_M_count 85 = .ok (.iadd, 1) := by decide +kernel
theorem d_M_count_86 : decode b_M_count 86 = .ok (.goto 4, 3) := by decide +kernel
theorem d_M_count_89 : decode b_M_count 89 = .ok (.iload_n 2, 1) := by decide +kernel
theorem d_M_count_90 : decode b_M_count 90 = .ok (.istore_n 2, 1) := by decide +kernel
theorem d_M_count_91 : decode b_M_count 91 = .ok (.aload_n 0, 1) := by decide +kernel
theorem d_M_count_92 : decode b_M_count 92 = .ok (.getfield 13, 3) := by decide +kernel
theorem d_M_count_95 : decode b_M_count 95 = .ok (.iload 7, 2) := by decide +kernel
theorem d_M_count_97 : decode b_M_count 97 = .ok (.iaload, 1) := by decide +kernel
theorem d_M_count_98 : decode b_M_count 98 = .ok (.bipush (-3), 2) := by decide +kernel
theorem d_M_count_100 : decode b_M_count 100 = .ok (.if_icmp .gt 10, 3) := by decide +kernel
theorem d_M_count_103 : decode b_M_count 103 = .ok (.iload 4, 2) := by decide +kernel
theorem d_M_count_105 : decode b_M_count 105 = .ok (.iconst 1, 1) := by decide +kernel
theorem d_M_count_106 : decode b_M_count 106 = .ok (.iadd, 1) := by decide +kernel
theorem d_M_count_107 : decode b_M_count 107 = .ok (.goto 5, 3) := by decide +kernel
theorem d_M_count_110 : decode b_M_count 110 = .ok (.iload 4, 2) := by decide +kernel
theorem d_M_count_112 : decode b_M_count 112 = .ok (.istore 4, 2) := by decide +kernel
theorem d_M_count_114 : decode b_M_count 114 = .ok (.aload_n 0, 1) := by decide +kernel
theorem d_M_count_115 : decode b_M_count 115 = .ok (.getfield 13, 3) := by decide +kernel
theorem d_M_count_118 : decode b_M_count 118 = .ok (.iload 7, 2) := by decide +kernel
theorem d_M_count_120 : decode b_M_count 120 = .ok (.iaload, 1) := by decide +kernel
theorem d_M_count_121 : decode b_M_count 121 = .ok (.ifCond .ge 22, 3) := by decide +kernel
theorem d_M_count_124 : decode b_M_count 124 = .ok (.aload_n 0, 1) := by decide +kernel
theorem d_M_count_125 : decode b_M_count 125 = .ok (.getfield 13, 3) := by decide +kernel
theorem d_M_count_128 : decode b_M_count 128 = .ok (.iload 7, 2) := by decide +kernel
theorem d_M_count_130 : decode b_M_count 130 = .ok (.iaload, 1) := by decide +kernel
theorem d_M_count_131 : decode b_M_count 131 = .ok (.bipush (-3), 2) := by decide +kernel
theorem d_M_count_133 : decode b_M_count 133 = .ok (.if_icmp .le 10, 3) := by decide +kernel
theorem d_M_count_136 : decode b_M_count 136 = .ok (.iload 5, 2) := by decide +kernel
theorem d_M_count_138 : decode b_M_count 138 = .ok (.iconst 1, 1) := by decide +kernel
theorem d_M_count_139 : decode b_M_count 139 = .ok (.iadd, 1) := by decide +kernel
theorem d_M_count_140 : decode b_M_count 140 = .ok (.goto 5, 3) := by decide +kernel
theorem d_M_count_143 : decode b_M_count 143 = .ok (.iload 5, 2) := by decide +kernel
theorem d_M_count_145 : decode b_M_count 145 = .ok (.istore 5, 2) := by decide +kernel
theorem d_M_count_147 : decode b_M_count 147 = .ok (.aload_n 0, 1) := by decide +kernel
theorem d_M_count_148 : decode b_M_count 148 = .ok (.getfield 13, 3) := by decide +kernel
theorem d_M_count_151 : decode b_M_count 151 = .ok (.iload 7, 2) := by decide +kernel
theorem d_M_count_153 : decode b_M_count 153 = .ok (.iaload, 1) := by decide +kernel
theorem d_M_count_154 : decode b_M_count 154 = .ok (.ifCond .ge 27, 3) := by decide +kernel
theorem d_M_count_157 : decode b_M_count 157 = .ok (.aload_n 0, 1) := by decide +kernel
theorem d_M_count_158 : decode b_M_count 158 = .ok (.getfield 13, 3) := by decide +kernel
theorem d_M_count_161 : decode b_M_count 161 = .ok (.iload 7, 2) := by decide +kernel
theorem d_M_count_163 : decode b_M_count 163 = .ok (.iaload, 1) := by decide +kernel
theorem d_M_count_164 : decode b_M_count 164 = .ok (.bipush (-3), 2) := by decide +kernel
theorem d_M_count_166 : decode b_M_count 166 = .ok (.if_icmp .le 15, 3) := by decide +kernel
theorem d_M_count_169 : decode b_M_count 169 = .ok (.iload 6, 2) := by decide +kernel
theorem d_M_count_171 : decode b_M_count 171 = .ok (.aload_n 0, 1) := by decide +kernel
theorem d_M_count_172 : decode b_M_count 172 = .ok (.iload 7, 2) := by decide +kernel
theorem d_M_count_174 : decode b_M_count 174 = .ok (.invokevirtual 50, 3) := by decide +kernel
theorem d_M_count_177 : decode b_M_count 177 = .ok (.iadd, 1) := by decide +kernel
theorem d_M_count_178 : decode b_M_count 178 = .ok (.goto 5, 3) := by decide +kernel
theorem d_M_count_181 : decode b_M_count 181 = .ok (.iload 6, 2) := by decide +kernel
theorem d_M_count_183 : decode b_M_count 183 = .ok (.istore 6, 2) := by decide +kernel
theorem d_M_count_185 : decode b_M_count 185 = .ok (.iload 7, 2) := by decide +kernel
theorem d_M_count_187 : decode b_M_count 187 = .ok (.aload_n 0, 1) := by decide +kernel
theorem d_M_count_188 : decode b_M_count 188 = .ok (.iload 7, 2) := by decide +kernel
theorem d_M_count_190 : decode b_M_count 190 = .ok (.invokevirtual 50, 3) := by decide +kernel
theorem d_M_count_193 : decode b_M_count 193 = .ok (.iadd, 1) := by decide +kernel
theorem d_M_count_194 : decode b_M_count 194 = .ok (.istore 7, 2) := by decide +kernel
theorem d_M_count_196 : decode b_M_count 196 = .ok (.goto (-155), 3) := by decide +kernel
theorem d_M_count_199 : decode b_M_count 199 = .ok (.iload_n 1, 1) := by decide +kernel
theorem d_M_count_200 : decode b_M_count 200 = .ok (.tableswitch 94 0 9 #[56, 58, 61, 63, 66, 69, 74, 79, 84, 89], 56) := by decide +kernel
theorem d_M_count_256 : decode b_M_count 256 = .ok (.iload_n 2, 1) := by decide +kernel
theorem d_M_count_257 : decode b_M_count 257 = .ok (.ireturn, 1) := by decide +kernel
theorem d_M_count_258 : decode b_M_count 258 = .ok (.iload 6, 2) := by decide +kernel
theorem d_M_count_260 : decode b_M_count 260 = .ok (.ireturn, 1) := by decide +kernel
theorem d_M_count_261 : decode b_M_count 261 = .ok (.iload_n 3, 1) := by decide +kernel
theorem d_M_count_262 : decode b_M_count 262 = .ok (.ireturn, 1) := by decide +kernel
theorem d_M_count_263 : decode b_M_count 263 = .ok (.iload 4, 2) := by decide +kernel
theorem d_M_count_265 : decode b_M_count 265 = .ok (.ireturn, 1) := by decide +kernel
theorem d_M_count_266 : decode b_M_count 266 = .ok (.iload 5, 2) := by decide +kernel
theorem d_M_count_268 : decode b_M_count 268 = .ok (.ireturn, 1) := by decide +kernel
theorem d_M_count_269 : decode b_M_count 269 = .ok (.aload_n 0, 1) := by decide +kernel
theorem d_M_count_270 : decode b_M_count 270 = .ok (.invokevirtual 67, 3) := by decide +kernel
theorem d_M_count_273 : decode b_M_count 273 = .ok (.ireturn, 1) := by decide +kernel
theorem d_M_count_274 : decode b_M_count 274 = .ok (.aload_n 0, 1) := by decide +kernel
theorem d_M_count_275 : decode b_M_count 275 = .ok (.getfield 34, 3) := by decide +kernel
theorem d_M_count_278 : decode b_M_count 278 = .ok (.ireturn, 1) := by decide +kernel
theorem d_M_count_279 : decode b_M_count 279 = .ok (.aload_n 0, 1) := by decide +kernel
theorem d_M_count_280 : decode b_M_count 280 = .ok (.getfield 7, 3) := by decide +kernel
theorem d_M_count_283 : decode b_M_count 283 = .ok (.ireturn, 1) := by decide +kernel
theorem d_M_count_284 : decode b_M_count 284 = .ok (.aload_n 0, 1) := by decide +kernel
theorem d_M_count_285 : decode b_M_count 285 = .ok (.invokevirtual 61, 3) := by decide +kernel
theorem d_M_count_288 : decode b_M_count 288 = .ok (.ireturn, 1) := by decide +kernel
theorem d_M_count_289 : decode b_M_count 289 = .ok (.aload_n 0, 1) := by decide +kernel
theorem d_M_count_290 : decode b_M_count 290 = .ok (.getfield 37, 3) := by decide +kernel
theorem d_M_count_293 : decode b_M_count 293 = .ok (.ireturn, 1) := by decide +kernel
theorem d_M_count_294 : decode b_M_count 294 = .ok (.aload_n 0, 1) := by decide +kernel
theorem d_M_count_295 : decode b_M_count 295 = .ok (.getfield 40, 3) := by decide +kernel
theorem d_M_count_298 : decode b_M_count 298 = .ok (.ireturn, 1) := by decide +kernel
theorem d_M_faults_0 : decode b_M_faults 0 = .ok (.aload_n 0, 1) := by decide +kernel
theorem d_M_faults_1 : decode b_M_faults 1 = .ok (.iconst 0, 1) := by decide +kernel
theorem d_M_faults_2 : decode b_M_faults 2 = .ok (.putfield 24, 3) := by decide +kernel
theorem d_M_faults_5 : decode b_M_faults 5 = .ok (.iconst 0, 1) := by decide +kernel
theorem d_M_faults_6 : decode b_M_faults 6 = .ok (.ireturn, 1) := by decide +kernel
theorem d_P_init_0 : decode b_P_init 0 = .ok (.aload_n 0, 1) := by decide +kernel
theorem d_P_init_1 : decode b_P_init 1 = .ok (.invokespecial 3, 3) := by decide +kernel
theorem d_P_init_4 : decode b_P_init 4 = .ok (.aload_n 0, 1) := by decide +kernel
theorem d_P_init_5 : decode b_P_init 5 = .ok (.iload_n 1, 1) := by decide +kernel
theorem d_P_init_6 : decode b_P_init 6 = .ok (.putfield 9, 3) := by decide +kernel
theorem d_P_init_9 : decode b_P_init 9 = .ok (.aload_n 0, 1) := by decide +kernel
theorem d_P_init_10 : decode b_P_init 10 = .ok (.iload_n 2, 1) := by decide +kernel
theorem d_P_init_11 : decode b_P_init 11 = .ok (.putfield 15, 3) := by decide +kernel
theorem d_P_init_14 : decode b_P_init 14 = .ok (.aload_n 0, 1) := by decide +kernel
theorem d_P_init_15 : decode b_P_init 15 = .ok (.aload_n 3, 1) := by decide +kernel
theorem d_P_init_16 : decode b_P_init 16 = .ok (.putfield 18, 3) := by decide +kernel
theorem d_P_init_19 : decode b_P_init 19 = .ok (.return_, 1) := by decide +kernel
theorem d_P_end_0 : decode b_P_end 0 = .ok (.aload_n 0, 1) := by decide +kernel
theorem d_P_end_1 : decode b_P_end 1 = .ok (.getfield 9, 3) := by decide +kernel
theorem d_P_end_4 : decode b_P_end 4 = .ok (.aload_n 0, 1) := by decide +kernel
theorem d_P_end_5 : decode b_P_end 5 = .ok (.getfield 15, 3) := by decide +kernel
theorem d_P_end_8 : decode b_P_end 8 = .ok (.iadd, 1) := by decide +kernel
theorem d_P_end_9 : decode b_P_end 9 = .ok (.ireturn, 1) := by decide +kernel
theorem d_P_isCrumb_0 : decode b_P_isCrumb 0 = .ok (.aload_n 0, 1) := by decide +kernel
theorem d_P_isCrumb_1 : decode b_P_isCrumb 1 = .ok (.getfield 22, 3) := by decide +kernel
theorem d_P_isCrumb_4 : decode b_P_isCrumb 4 = .ok (.ifCond .ne 15, 3) := by decide +kernel
theorem d_P_isCrumb_7 : decode b_P_isCrumb 7 = .ok (.aload_n 0, 1) := by decide +kernel
theorem d_P_isCrumb_8 : decode b_P_isCrumb 8 = .ok (.getfield 15, 3) := by decide +kernel
theorem d_P_isCrumb_11 : decode b_P_isCrumb 11 = .ok (.iconst 2, 1) := by decide +kernel
theorem d_P_isCrumb_12 : decode b_P_isCrumb 12 = .ok (.if_icmp .gt 7, 3) := by decide +kernel
theorem d_P_isCrumb_15 : decode b_P_isCrumb 15 = .ok (.iconst 1, 1) := by decide +kernel
theorem d_P_isCrumb_16 : decode b_P_isCrumb 16 = .ok (.goto 4, 3) := by decide +kernel
theorem d_P_isCrumb_19 : decode b_P_isCrumb 19 = .ok (.iconst 0, 1) := by decide +kernel
theorem d_P_isCrumb_20 : decode b_P_isCrumb 20 = .ok (.ireturn, 1) := by decide +kernel
theorem d_P_isFreeForTaking_0 : decode b_P_isFreeForTaking 0 = .ok (.aload_n 0, 1) := by decide +kernel
theorem d_P_isFreeForTaking_1 : decode b_P_isFreeForTaking 1 = .ok (.getfield 22, 3) := by decide +kernel
theorem d_P_isFreeForTaking_4 : decode b_P_isFreeForTaking 4 = .ok (.ifCond .ne 15, 3) := by decide +kernel
theorem d_P_isFreeForTaking_7 : decode b_P_isFreeForTaking 7 = .ok (.aload_n 0, 1) := by decide +kernel
theorem d_P_isFreeForTaking_8 : decode b_P_isFreeForTaking 8 = .ok (.getfield 15, 3) := by decide +kernel
theorem d_P_isFreeForTaking_11 : decode b_P_isFreeForTaking 11 = .ok (.iconst 2, 1) := by decide +kernel
theorem d_P_isFreeForTaking_12 : decode b_P_isFreeForTaking 12 = .ok (.if_icmp .le 7, 3) := by decide +kernel
theorem d_P_isFreeForTaking_15 : decode b_P_isFreeForTaking 15 = .ok (.iconst 1, 1) := by decide +kernel
theorem d_P_isFreeForTaking_16 : decode b_P_isFreeForTaking 16 = .ok (.goto 4, 3) := by decide +kernel
theorem d_P_isFreeForTaking_19 : decode b_P_isFreeForTaking 19 = .ok (.iconst 0, 1) := by decide +kernel
theorem d_P_isFreeForTaking_20 : decode b_P_isFreeForTaking 20 = .ok (.ireturn, 1) := by decide +kernel
theorem d_P_isKeptBySweep_0 : decode b_P_isKeptBySweep 0 = .ok (.aload_n 0, 1) := by decide +kernel
theorem d_P_isKeptBySweep_1 : decode b_P_isKeptBySweep 1 = .ok (.getfield 22, 3) := by decide +kernel
theorem d_P_isKeptBySweep_4 : decode b_P_isKeptBySweep 4 = .ok (.ifCond .eq 14, 3) := by decide +kernel
theorem d_P_isKeptBySweep_7 : decode b_P_isKeptBySweep 7 = .ok (.aload_n 0, 1) := by decide +kernel
theorem d_P_isKeptBySweep_8 : decode b_P_isKeptBySweep 8 = .ok (.getfield 26, 3) := by decide +kernel
theorem d_P_isKeptBySweep_11 : decode b_P_isKeptBySweep 11 = .ok (.ifCond .eq 7, 3) := by decide +kernel
theorem d_P_isKeptBySweep_14 : decode b_P_isKeptBySweep 14 = .ok (.iconst 1, 1) := by decide +kernel
theorem d_P_isKeptBySweep_15 : decode b_P_isKeptBySweep 15 = .ok (.goto 4, 3) := by decide +kernel
theorem d_P_isKeptBySweep_18 : decode b_P_isKeptBySweep 18 = .ok (.iconst 0, 1) := by decide +kernel
theorem d_P_isKeptBySweep_19 : decode b_P_isKeptBySweep 19 = .ok (.ireturn, 1) := by decide +kernel
theorem d_L_space_0 : decode b_L_space 0 = .ok (.aload_n 2, 1) := by decide +kernel
theorem d_L_space_1 : decode b_L_space 1 = .ok (.iconst 0, 1) := by decide +kernel
theorem d_L_space_2 : decode b_L_space 2 = .ok (.aload_n 0, 1) := by decide +kernel
theorem d_L_space_3 : decode b_L_space 3 = .ok (.iload_n 1, 1) := by decide +kernel
theorem d_L_space_4 : decode b_L_space 4 = .ok (.invokevirtual 7, 3) := by decide +kernel
theorem d_L_space_7 : decode b_L_space 7 = .ok (.i2l, 1) := by decide +kernel
theorem d_L_space_8 : decode b_L_space 8 = .ok (.lastore, 1) := by decide +kernel
theorem d_L_space_9 : decode b_L_space 9 = .ok (.goto 6, 3) := by decide +kernel
theorem d_L_space_12 : decode b_L_space 12 = .ok (.astore_n 3, 1) := by decide +kernel
theorem d_L_space_13 : decode b_L_space 13 = .ok (.iconst 1, 1) := by decide +kernel
theorem d_L_space_14 : decode b_L_space 14 = .ok (.ireturn, 1) := by decide +kernel
theorem d_L_space_15 : decode b_L_space 15 = .ok (.iconst 0, 1) := by decide +kernel
theorem d_L_space_16 : decode b_L_space 16 = .ok (.ireturn, 1) := by decide +kernel
theorem d_L_take_0 : decode b_L_take 0 = .ok (.aload_n 2, 1) := by decide +kernel
theorem d_L_take_1 : decode b_L_take 1 = .ok (.iconst 0, 1) := by decide +kernel
theorem d_L_take_2 : decode b_L_take 2 = .ok (.aload_n 0, 1) := by decide +kernel
theorem d_L_take_3 : decode b_L_take 3 = .ok (.iload_n 1, 1) := by decide +kernel
theorem d_L_take_4 : decode b_L_take 4 = .ok (.invokevirtual 15, 3) := by decide +kernel
theorem d_L_take_7 : decode b_L_take 7 = .ok (.i2l, 1) := by decide +kernel
theorem d_L_take_8 : decode b_L_take 8 = .ok (.lastore, 1) := by decide +kernel
theorem d_L_take_9 : decode b_L_take 9 = .ok (.goto 6, 3) := by decide +kernel
theorem d_L_take_12 : decode b_L_take 12 = .ok (.astore_n 3, 1) := by decide +kernel
theorem d_L_take_13 : decode b_L_take 13 = .ok (.iconst 1, 1) := by decide +kernel
theorem d_L_take_14 : decode b_L_take 14 = .ok (.ireturn, 1) := by decide +kernel
theorem d_L_take_15 : decode b_L_take 15 = .ok (.iconst 0, 1) := by decide +kernel
theorem d_L_take_16 : decode b_L_take 16 = .ok (.ireturn, 1) := by decide +kernel
theorem d_L_give_0 : decode b_L_give 0 = .ok (.aload_n 2, 1) := by decide +kernel
theorem d_L_give_1 : decode b_L_give 1 = .ok (.iconst 0, 1) := by decide +kernel
theorem d_L_give_2 : decode b_L_give 2 = .ok (.aload_n 0, 1) := by decide +kernel
theorem d_L_give_3 : decode b_L_give 3 = .ok (.iload_n 1, 1) := by decide +kernel
theorem d_L_give_4 : decode b_L_give 4 = .ok (.invokevirtual 18, 3) := by decide +kernel
theorem d_L_give_7 : decode b_L_give 7 = .ok (.i2l, 1) := by decide +kernel
theorem d_L_give_8 : decode b_L_give 8 = .ok (.lastore, 1) := by decide +kernel
theorem d_L_give_9 : decode b_L_give 9 = .ok (.goto 6, 3) := by decide +kernel
theorem d_L_give_12 : decode b_L_give 12 = .ok (.astore_n 3, 1) := by decide +kernel
theorem d_L_give_13 : decode b_L_give 13 = .ok (.iconst 1, 1) := by decide +kernel
theorem d_L_give_14 : decode b_L_give 14 = .ok (.ireturn, 1) := by decide +kernel
theorem d_L_give_15 : decode b_L_give 15 = .ok (.iconst 0, 1) := by decide +kernel
theorem d_L_give_16 : decode b_L_give 16 = .ok (.ireturn, 1) := by decide +kernel
theorem d_L_mark_0 : decode b_L_mark 0 = .ok (.aload_n 2, 1) := by decide +kernel
theorem d_L_mark_1 : decode b_L_mark 1 = .ok (.iconst 0, 1) := by decide +kernel
theorem d_L_mark_2 : decode b_L_mark 2 = .ok (.aload_n 0, 1) := by decide +kernel
theorem d_L_mark_3 : decode b_L_mark 3 = .ok (.iload_n 1, 1) := by decide +kernel
theorem d_L_mark_4 : decode b_L_mark 4 = .ok (.invokevirtual 23, 3) := by decide +kernel
theorem d_L_mark_7 : decode b_L_mark 7 = .ok (.ifCond .eq 7, 3) := by decide +kernel
theorem d_L_mark_10 : decode b_L_mark 10 = .ok (.lconst 1, 1) := by decide +kernel
theorem d_L_mark_11 : decode b_L_mark 11 = .ok (.goto 4, 3) := by decide +kernel
theorem d_L_mark_14 : decode b_L_mark 14 = .ok (.lconst 0, 1) := by decide +kernel
theorem d_L_mark_15 : decode b_L_mark 15 = .ok (.lastore, 1) := by decide +kernel
theorem d_L_mark_16 : decode b_L_mark 16 = .ok (.goto 9, 3) := by decide +kernel
theorem d_L_mark_19 : decode b_L_mark 19 = .ok (.astore_n 3, 1) := by decide +kernel
theorem d_L_mark_20 : decode b_L_mark 20 = .ok (.iconst 1, 1) := by decide +kernel
theorem d_L_mark_21 : decode b_L_mark 21 = .ok (.ireturn, 1) := by decide +kernel
theorem d_L_mark_22 : decode b_L_mark 22 = .ok (.astore_n 3, 1) := by decide +kernel
theorem d_L_mark_23 : decode b_L_mark 23 = .ok (.iconst 2, 1) := by decide +kernel
theorem d_L_mark_24 : decode b_L_mark 24 = .ok (.ireturn, 1) := by decide +kernel
theorem d_L_mark_25 : decode b_L_mark 25 = .ok (.iconst 0, 1) := by decide +kernel
theorem d_L_mark_26 : decode b_L_mark 26 = .ok (.ireturn, 1) := by decide +kernel
theorem d_L_unmark_0 : decode b_L_unmark 0 = .ok (.aload_n 1, 1) := by decide +kernel
theorem d_L_unmark_1 : decode b_L_unmark 1 = .ok (.iconst 0, 1) := by decide +kernel
theorem d_L_unmark_2 : decode b_L_unmark 2 = .ok (.aload_n 0, 1) := by decide +kernel
theorem d_L_unmark_3 : decode b_L_unmark 3 = .ok (.invokevirtual 29, 3) := by decide +kernel
theorem d_L_unmark_6 : decode b_L_unmark 6 = .ok (.i2l, 1) := by decide +kernel
theorem d_L_unmark_7 : decode b_L_unmark 7 = .ok (.lastore, 1) := by decide +kernel
theorem d_L_unmark_8 : decode b_L_unmark 8 = .ok (.goto 6, 3) := by decide +kernel
theorem d_L_unmark_11 : decode b_L_unmark 11 = .ok (.astore_n 2, 1) := by decide +kernel
theorem d_L_unmark_12 : decode b_L_unmark 12 = .ok (.iconst 1, 1) := by decide +kernel
theorem d_L_unmark_13 : decode b_L_unmark 13 = .ok (.ireturn, 1) := by decide +kernel
theorem d_L_unmark_14 : decode b_L_unmark 14 = .ok (.iconst 0, 1) := by decide +kernel
theorem d_L_unmark_15 : decode b_L_unmark 15 = .ok (.ireturn, 1) := by decide +kernel
theorem d_L_begin_0 : decode b_L_begin 0 = .ok (.aload_n 0, 1) := by decide +kernel
theorem d_L_begin_1 : decode b_L_begin 1 = .ok (.invokevirtual 33, 3) := by decide +kernel
theorem d_L_begin_4 : decode b_L_begin 4 = .ok (.goto 6, 3) := by decide +kernel
theorem d_L_begin_7 : decode b_L_begin 7 = .ok (.astore_n 1, 1) := by decide +kernel
theorem d_L_begin_8 : decode b_L_begin 8 = .ok (.iconst 1, 1) := by decide +kernel
theorem d_L_begin_9 : decode b_L_begin 9 = .ok (.ireturn, 1) := by decide +kernel
theorem d_L_begin_10 : decode b_L_begin 10 = .ok (.iconst 0, 1) := by decide +kernel
theorem d_L_begin_11 : decode b_L_begin 11 = .ok (.ireturn, 1) := by decide +kernel
theorem d_L_sweep_0 : decode b_L_sweep 0 = .ok (.aload_n 2, 1) := by decide +kernel
theorem d_L_sweep_1 : decode b_L_sweep 1 = .ok (.iconst 0, 1) := by decide +kernel
theorem d_L_sweep_2 : decode b_L_sweep 2 = .ok (.aload_n 0, 1) := by decide +kernel
theorem d_L_sweep_3 : decode b_L_sweep 3 = .ok (.iload_n 1, 1) := by decide +kernel
theorem d_L_sweep_4 : decode b_L_sweep 4 = .ok (.invokevirtual 36, 3) := by decide +kernel
theorem d_L_sweep_7 : decode b_L_sweep 7 = .ok (.i2l, 1) := by decide +kernel
theorem d_L_sweep_8 : decode b_L_sweep 8 = .ok (.lastore, 1) := by decide +kernel
theorem d_L_sweep_9 : decode b_L_sweep 9 = .ok (.goto 6, 3) := by decide +kernel
theorem d_L_sweep_12 : decode b_L_sweep 12 = .ok (.astore_n 3, 1) := by decide +kernel
theorem d_L_sweep_13 : decode b_L_sweep 13 = .ok (.iconst 1, 1) := by decide +kernel
theorem d_L_sweep_14 : decode b_L_sweep 14 = .ok (.ireturn, 1) := by decide +kernel
theorem d_L_sweep_15 : decode b_L_sweep 15 = .ok (.iconst 0, 1) := by decide +kernel
theorem d_L_sweep_16 : decode b_L_sweep 16 = .ok (.ireturn, 1) := by decide +kernel
theorem d_L_count_0 : decode b_L_count 0 = .ok (.aload_n 2, 1) := by decide +kernel
theorem d_L_count_1 : decode b_L_count 1 = .ok (.iconst 0, 1) := by decide +kernel
theorem d_L_count_2 : decode b_L_count 2 = .ok (.aload_n 0, 1) := by decide +kernel
theorem d_L_count_3 : decode b_L_count 3 = .ok (.iload_n 1, 1) := by decide +kernel
theorem d_L_count_4 : decode b_L_count 4 = .ok (.invokevirtual 39, 3) := by decide +kernel
theorem d_L_count_7 : decode b_L_count 7 = .ok (.i2l, 1) := by decide +kernel
theorem d_L_count_8 : decode b_L_count 8 = .ok (.lastore, 1) := by decide +kernel
theorem d_L_count_9 : decode b_L_count 9 = .ok (.goto 6, 3) := by decide +kernel
theorem d_L_count_12 : decode b_L_count 12 = .ok (.astore_n 3, 1) := by decide +kernel
theorem d_L_count_13 : decode b_L_count 13 = .ok (.iconst 1, 1) := by decide +kernel
theorem d_L_count_14 : decode b_L_count 14 = .ok (.ireturn, 1) := by decide +kernel
theorem d_L_count_15 : decode b_L_count 15 = .ok (.iconst 0, 1) := by decide +kernel
theorem d_L_count_16 : decode b_L_count 16 = .ok (.ireturn, 1) := by decide +kernel
theorem d_L_law_0 : decode b_L_law 0 = .ok (.new 8, 3) := by decide +kernel
theorem d_L_law_3 : decode b_L_law 3 = .ok (.dup, 1) := by decide +kernel
theorem d_L_law_4 : decode b_L_law 4 = .ok (.invokespecial 42, 3) := by decide +kernel
theorem d_L_law_7 : decode b_L_law 7 = .ok (.astore_n 1, 1) := by decide +kernel
theorem d_L_law_8 : decode b_L_law 8 = .ok (.new 43, 3) := by decide +kernel
theorem d_L_law_11 : decode b_L_law 11 = .ok (.dup, 1) := by decide +kernel
theorem d_L_law_12 : decode b_L_law 12 = .ok (.invokespecial 45, 3) := by decide +kernel
theorem d_L_law_15 : decode b_L_law 15 = .ok (.astore_n 2, 1) := by decide +kernel
theorem d_L_law_16 : decode b_L_law 16 = .ok (.iconst 1, 1) := by decide +kernel
theorem d_L_law_17 : decode b_L_law 17 = .ok (.newarray .long, 2) := by decide +kernel
theorem d_L_law_19 : decode b_L_law 19 = .ok (.astore_n 3, 1) := by decide +kernel
theorem d_L_law_20 : decode b_L_law 20 = .ok (.iconst 0, 1) := by decide +kernel
theorem d_L_law_21 : decode b_L_law 21 = .ok (.istore 4, 2) := by decide +kernel
theorem d_L_law_23 : decode b_L_law 23 = .ok (.iload 4, 2) := by decide +kernel
theorem d_L_law_25 : decode b_L_law 25 = .ok (.aload_n 0, 1) := by decide +kernel
theorem d_L_law_26 : decode b_L_law 26 = .ok (.arraylength, 1) := by decide +kernel
theorem d_L_law_27 : decode b_L_law 27 = .ok (.iconst 2, 1) := by decide +kernel
theorem d_L_law_28 : decode b_L_law 28 = .ok (.isub, 1) := by decide +kernel
theorem d_L_law_29 : decode b_L_law 29 = .ok (.if_icmp .gt 564, 3) := by decide +kernel
theorem d_L_law_32 : decode b_L_law 32 = .ok (.aload_n 0, 1) := by decide +kernel
theorem d_L_law_33 : decode b_L_law 33 = .ok (.iload 4, 2) := by decide +kernel
theorem d_L_law_35 : decode b_L_law 35 = .ok (.iaload, 1) := by decide +kernel
theorem d_L_law_36 : decode b_L_law 36 = .ok (.bipush 15, 2) := by decide +kernel
theorem d_L_law_38 : decode b_L_law 38 = .ok (.iand, 1) := by decide +kernel
theorem d_L_law_39 : decode b_L_law 39 = .ok (.tableswitch 548 0 11 #[61, 117, 173, 229, 292, 336, 360, 416, 429, 454, 479, 535], 61) := by decide +kernel
end
section
theorem d_L_law_100 : decode b_L_law 100 = .ok (.aload_n 1, 1) := by decide +kernel
theorem d_L_law_101 : decode b_L_law 101 = .ok (.aload_n 0, 1) := by decide +kernel
theorem d_L_law_102 : decode b_L_law 102 = .ok (.iload 4, 2) := by decide +kernel
theorem d_L_law_104 : decode b_L_law 104 = .ok (.iconst 1, 1) := by decide +kernel
theorem d_L_law_105 : decode b_L_law 105 = .ok (.iadd, 1) := by decide +kernel
theorem d_L_law_106 : decode b_L_law 106 = .ok (.iaload, 1) := by decide +kernel
theorem d_L_law_107 : decode b_L_law 107 = .ok (.aload_n 3, 1) := by decide +kernel
theorem d_L_law_108 : decode b_L_law 108 = .ok (.invokestatic 46, 3) := by decide +kernel
theorem d_L_law_111 : decode b_L_law 111 = .ok (.istore 5, 2) := by decide +kernel
theorem d_L_law_113 : decode b_L_law 113 = .ok (.aload_n 2, 1) := by decide +kernel
theorem d_L_law_114 : decode b_L_law 114 = .ok (.aload_n 0, 1) := by decide +kernel
theorem d_L_law_115 : decode b_L_law 115 = .ok (.iload 4, 2) := by decide +kernel
theorem d_L_law_117 : decode b_L_law 117 = .ok (.iconst 1, 1) := by decide +kernel
theorem d_L_law_118 : decode b_L_law 118 = .ok (.iadd, 1) := by decide +kernel
theorem d_L_law_119 : decode b_L_law 119 = .ok (.iaload, 1) := by decide +kernel
theorem d_L_law_120 : decode b_L_law 120 = .ok (.invokevirtual 51, 3) := by decide +kernel
theorem d_L_law_123 : decode b_L_law 123 = .ok (.istore 6, 2) := by decide +kernel
theorem d_L_law_125 : decode b_L_law 125 = .ok (.aload_n 2, 1) := by decide +kernel
theorem d_L_law_126 : decode b_L_law 126 = .ok (.invokevirtual 52, 3) := by decide +kernel
theorem d_L_law_129 : decode b_L_law 129 = .ok (.iload 5, 2) := by decide +kernel
theorem d_L_law_131 : decode b_L_law 131 = .ok (.if_icmp .eq 5, 3) := by decide +kernel
theorem d_L_law_134 : decode b_L_law 134 = .ok (.iconst 0, 1) := by decide +kernel
theorem d_L_law_135 : decode b_L_law 135 = .ok (.ireturn, 1) := by decide +kernel
theorem d_L_law_136 : decode b_L_law 136 = .ok (.iload 5, 2) := by decide +kernel
theorem d_L_law_138 : decode b_L_law 138 = .ok (.ifCond .ne 15, 3) := by decide +kernel
theorem d_L_law_141 : decode b_L_law 141 = .ok (.aload_n 3, 1) := by decide +kernel
theorem d_L_law_142 : decode b_L_law 142 = .ok (.iconst 0, 1) := by decide +kernel
theorem d_L_law_143 : decode b_L_law 143 = .ok (.laload, 1) := by decide +kernel
theorem d_L_law_144 : decode b_L_law 144 = .ok (.iload 6, 2) := by decide +kernel
theorem d_L_law_146 : decode b_L_law 146 = .ok (.i2l, 1) := by decide +kernel
theorem d_L_law_147 : decode b_L_law 147 = .ok (.lcmp, 1) := by decide +kernel
theorem d_L_law_148 : decode b_L_law 148 = .ok (.ifCond .eq 5, 3) := by decide +kernel
theorem d_L_law_151 : decode b_L_law 151 = .ok (.iconst 0, 1) := by decide +kernel
theorem d_L_law_152 : decode b_L_law 152 = .ok (.ireturn, 1) := by decide +kernel
theorem d_L_law_153 : decode b_L_law 153 = .ok (.goto 434, 3) := by decide +kernel
theorem d_L_law_156 : decode b_L_law 156 = .ok (.aload_n 1, 1) := by decide +kernel
theorem d_L_law_157 : decode b_L_law 157 = .ok (.aload_n 0, 1) := by decide +kernel
theorem d_L_law_158 : decode b_L_law 158 = .ok (.iload 4, 2) := by decide +kernel
theorem d_L_law_160 : decode b_L_law 160 = .ok (.iconst 1, 1) := by decide +kernel
theorem d_L_law_161 : decode b_L_law 161 = .ok (.iadd, 1) := by decide +kernel
theorem d_L_law_162 : decode b_L_law 162 = .ok (.iaload, 1) := by decide +kernel
theorem d_L_law_163 : decode b_L_law 163 = .ok (.aload_n 3, 1) := by decide +kernel
theorem d_L_law_164 : decode b_L_law 164 = .ok (.invokestatic 55, 3) := by decide +kernel
theorem d_L_law_167 : decode b_L_law 167 = .ok (.istore 5, 2) := by decide +kernel
theorem d_L_law_169 : decode b_L_law 169 = .ok (.aload_n 2, 1) := by decide +kernel
theorem d_L_law_170 : decode b_L_law 170 = .ok (.aload_n 0, 1) := by decide +kernel
theorem d_L_law_171 : decode b_L_law 171 = .ok (.iload 4, 2) := by decide +kernel
theorem d_L_law_173 : decode b_L_law 173 = .ok (.iconst 1, 1) := by decide +kernel
theorem d_L_law_174 : decode b_L_law 174 = .ok (.iadd, 1) := by decide +kernel
theorem d_L_law_175 : decode b_L_law 175 = .ok (.iaload, 1) := by decide +kernel
theorem d_L_law_176 : decode b_L_law 176 = .ok (.invokevirtual 57, 3) := by decide +kernel
theorem d_L_law_179 : decode b_L_law 179 = .ok (.istore 6, 2) := by decide +kernel
theorem d_L_law_181 : decode b_L_law 181 = .ok (.aload_n 2, 1) := by decide +kernel
theorem d_L_law_182 : decode b_L_law 182 = .ok (.invokevirtual 52, 3) := by decide +kernel
theorem d_L_law_185 : decode b_L_law 185 = .ok (.iload 5, 2) := by decide +kernel
theorem d_L_law_187 : decode b_L_law 187 = .ok (.if_icmp .eq 5, 3) := by decide +kernel
theorem d_L_law_190 : decode b_L_law 190 = .ok (.iconst 0, 1) := by decide +kernel
theorem d_L_law_191 : decode b_L_law 191 = .ok (.ireturn, 1) := by decide +kernel
theorem d_L_law_192 : decode b_L_law 192 = .ok (.iload 5, 2) := by decide +kernel
theorem d_L_law_194 : decode b_L_law 194 = .ok (.ifCond .ne 15, 3) := by decide +kernel
theorem d_L_law_197 : decode b_L_law 197 = .ok (.aload_n 3, 1) := by decide +kernel
theorem d_L_law_198 : decode b_L_law 198 = .ok (.iconst 0, 1) := by decide +kernel
theorem d_L_law_199 : decode b_L_law 199 = .ok (.laload, 1) := by decide +kernel
theorem d_L_law_200 : decode b_L_law 200 = .ok (.iload 6, 2) := by decide +kernel
theorem d_L_law_202 : decode b_L_law 202 = .ok (.i2l, 1) := by decide +kernel
theorem d_L_law_203 : decode b_L_law 203 = .ok (.lcmp, 1) := by decide +kernel
theorem d_L_law_204 : decode b_L_law 204 = .ok (.ifCond .eq 5, 3) := by decide +kernel
theorem d_L_law_207 : decode b_L_law 207 = .ok (.iconst 0, 1) := by decide +kernel
theorem d_L_law_208 : decode b_L_law 208 = .ok (.ireturn, 1) := by decide +kernel
theorem d_L_law_209 : decode b_L_law 209 = .ok (.goto 378, 3) := by decide +kernel
theorem d_L_law_212 : decode b_L_law 212 = .ok (.aload_n 1, 1) := by decide +kernel
theorem d_L_law_213 : decode b_L_law 213 = .ok (.aload_n 0, 1) := by decide +kernel
theorem d_L_law_214 : decode b_L_law 214 = .ok (.iload 4, 2) := by decide +kernel
theorem d_L_law_216 : decode b_L_law 216 = .ok (.iconst 1, 1) := by decide +kernel
theorem d_L_law_217 : decode b_L_law 217 = .ok (.iadd, 1) := by decide +kernel
theorem d_L_law_218 : decode b_L_law 218 = .ok (.iaload, 1) := by decide +kernel
theorem d_L_law_219 : decode b_L_law 219 = .ok (.aload_n 3, 1) := by decide +kernel
theorem d_L_law_220 : decode b_L_law 220 = .ok (.invokestatic 58, 3) := by decide +kernel
theorem d_L_law_223 : decode b_L_law 223 = .ok (.istore 5, 2) := by decide +kernel
theorem d_L_law_225 : decode b_L_law 225 = .ok (.aload_n 2, 1) := by decide +kernel
theorem d_L_law_226 : decode b_L_law 226 = .ok (.aload_n 0, 1) := by decide +kernel
theorem d_L_law_227 : decode b_L_law 227 = .ok (.iload 4, 2) := by decide +kernel
theorem d_L_law_229 : decode b_L_law 229 = .ok (.iconst 1, 1) := by decide +kernel
theorem d_L_law_230 : decode b_L_law 230 = .ok (.iadd, 1) := by decide +kernel
theorem d_L_law_231 : decode b_L_law 231 = .ok (.iaload, 1) := by decide +kernel
theorem d_L_law_232 : decode b_L_law 232 = .ok (.invokevirtual 60, 3) := by decide +kernel
theorem d_L_law_235 : decode b_L_law 235 = .ok (.istore 6, 2) := by decide +kernel
theorem d_L_law_237 : decode b_L_law 237 = .ok (.aload_n 2, 1) := by decide +kernel
theorem d_L_law_238 : decode b_L_law 238 = .ok (.invokevirtual 52, 3) := by decide +kernel
theorem d_L_law_241 : decode b_L_law 241 = .ok (.iload 5, 2) := by decide +kernel
theorem d_L_law_243 : decode b_L_law 243 = .ok (.if_icmp .eq 5, 3) := by decide +kernel
theorem d_L_law_246 : decode b_L_law 246 = .ok (.iconst 0, 1) := by decide +kernel
theorem d_L_law_247 : decode b_L_law 247 = .ok (.ireturn, 1) := by decide +kernel
theorem d_L_law_248 : decode b_L_law 248 = .ok (.iload 5, 2) := by decide +kernel
theorem d_L_law_250 : decode b_L_law 250 = .ok (.ifCond .ne 15, 3) := by decide +kernel
theorem d_L_law_253 : decode b_L_law 253 = .ok (.aload_n 3, 1) := by decide +kernel
theorem d_L_law_254 : decode b_L_law 254 = .ok (.iconst 0, 1) := by decide +kernel
theorem d_L_law_255 : decode b_L_law 255 = .ok (.laload, 1) := by decide +kernel
theorem d_L_law_256 : decode b_L_law 256 = .ok (.iload 6, 2) := by decide +kernel
theorem d_L_law_258 : decode b_L_law 258 = .ok (.i2l, 1) := by decide +kernel
theorem d_L_law_259 : decode b_L_law 259 = .ok (.lcmp, 1) := by decide +kernel
theorem d_L_law_260 : decode b_L_law 260 = .ok (.ifCond .eq 5, 3) := by decide +kernel
theorem d_L_law_263 : decode b_L_law 263 = .ok (.iconst 0, 1) := by decide +kernel
theorem d_L_law_264 : decode b_L_law 264 = .ok (.ireturn, 1) := by decide +kernel
theorem d_L_law_265 : decode b_L_law 265 = .ok (.goto 322, 3) := by decide +kernel
theorem d_L_law_268 : decode b_L_law 268 = .ok (.aload_n 1, 1) := by decide +kernel
theorem d_L_law_269 : decode b_L_law 269 = .ok (.aload_n 0, 1) := by decide +kernel
theorem d_L_law_270 : decode b_L_law 270 = .ok (.iload 4, 2) := by decide +kernel
theorem d_L_law_272 : decode b_L_law 272 = .ok (.iconst 1, 1) := by decide +kernel
theorem d_L_law_273 : decode b_L_law 273 = .ok (.iadd, 1) := by decide +kernel
theorem d_L_law_274 : decode b_L_law 274 = .ok (.iaload, 1) := by decide +kernel
theorem d_L_law_275 : decode b_L_law 275 = .ok (.aload_n 3, 1) := by decide +kernel
theorem d_L_law_276 : decode b_L_law 276 = .ok (.invokestatic 61, 3) := by decide +kernel
theorem d_L_law_279 : decode b_L_law 279 = .ok (.istore 5, 2) := by decide +kernel
theorem d_L_law_281 : decode b_L_law 281 = .ok (.aload_n 2, 1) := by decide +kernel
theorem d_L_law_282 : decode b_L_law 282 = .ok (.aload_n 0, 1) := by decide +kernel
theorem d_L_law_283 : decode b_L_law 283 = .ok (.iload 4, 2) := by decide +kernel
theorem d_L_law_285 : decode b_L_law 285 = .ok (.iconst 1, 1) := by decide +kernel
theorem d_L_law_286 : decode b_L_law 286 = .ok (.iadd, 1) := by decide +kernel
theorem d_L_law_287 : decode b_L_law 287 = .ok (.iaload, 1) := by decide +kernel
theorem d_L_law_288 : decode b_L_law 288 = .ok (.invokevirtual 63, 3) := by decide +kernel
theorem d_L_law_291 : decode b_L_law 291 = .ok (.istore 6, 2) := by decide +kernel
theorem d_L_law_293 : decode b_L_law 293 = .ok (.aload_n 2, 1) := by decide +kernel
theorem d_L_law_294 : decode b_L_law 294 = .ok (.invokevirtual 52, 3) := by decide +kernel
theorem d_L_law_297 : decode b_L_law 297 = .ok (.iload 5, 2) := by decide +kernel
theorem d_L_law_299 : decode b_L_law 299 = .ok (.if_icmp .eq 5, 3) := by decide +kernel
theorem d_L_law_302 : decode b_L_law 302 = .ok (.iconst 0, 1) := by decide +kernel
theorem d_L_law_303 : decode b_L_law 303 = .ok (.ireturn, 1) := by decide +kernel
theorem d_L_law_304 : decode b_L_law 304 = .ok (.iload 5, 2) := by decide +kernel
theorem d_L_law_306 : decode b_L_law 306 = .ok (.ifCond .ne 22, 3) := by decide +kernel
theorem d_L_law_309 : decode b_L_law 309 = .ok (.aload_n 3, 1) := by decide +kernel
theorem d_L_law_310 : decode b_L_law 310 = .ok (.iconst 0, 1) := by decide +kernel
theorem d_L_law_311 : decode b_L_law 311 = .ok (.laload, 1) := by decide +kernel
theorem d_L_law_312 : decode b_L_law 312 = .ok (.iload 6, 2) := by decide +kernel
theorem d_L_law_314 : decode b_L_law 314 = .ok (.ifCond .eq 7, 3) := by decide +kernel
theorem d_L_law_317 : decode b_L_law 317 = .ok (.lconst 1, 1) := by decide +kernel
theorem d_L_law_318 : decode b_L_law 318 = .ok (.goto 4, 3) := by decide +kernel
theorem d_L_law_321 : decode b_L_law 321 = .ok (.lconst 0, 1) := by decide +kernel
theorem d_L_law_322 : decode b_L_law 322 = .ok (.lcmp, 1) := by decide +kernel
theorem d_L_law_323 : decode b_L_law 323 = .ok (.ifCond .eq 5, 3) := by decide +kernel
theorem d_L_law_326 : decode b_L_law 326 = .ok (.iconst 0, 1) := by decide +kernel
theorem d_L_law_327 : decode b_L_law 327 = .ok (.ireturn, 1) := by decide +kernel
theorem d_L_law_328 : decode b_L_law 328 = .ok (.goto 259, 3) := by decide +kernel
theorem d_L_law_331 : decode b_L_law 331 = .ok (.aload_n 1, 1) := by decide +kernel
theorem d_L_law_332 : decode b_L_law 332 = .ok (.aload_n 3, 1) := by decide +kernel
theorem d_L_law_333 : decode b_L_law 333 = .ok (.invokestatic 64, 3) := by decide +kernel
theorem d_L_law_336 : decode b_L_law 336 = .ok (.istore 5, 2) := by decide +kernel
theorem d_L_law_338 : decode b_L_law 338 = .ok (.aload_n 2, 1) := by decide +kernel
theorem d_L_law_339 : decode b_L_law 339 = .ok (.invokevirtual 67, 3) := by decide +kernel
theorem d_L_law_342 : decode b_L_law 342 = .ok (.istore 6, 2) := by decide +kernel
theorem d_L_law_344 : decode b_L_law 344 = .ok (.aload_n 2, 1) := by decide +kernel
theorem d_L_law_345 : decode b_L_law 345 = .ok (.invokevirtual 52, 3) := by decide +kernel
theorem d_L_law_348 : decode b_L_law 348 = .ok (.iload 5, 2) := by decide +kernel
theorem d_L_law_350 : decode b_L_law 350 = .ok (.if_icmp .eq 5, 3) := by decide +kernel
theorem d_L_law_353 : decode b_L_law 353 = .ok (.iconst 0, 1) := by decide +kernel
theorem d_L_law_354 : decode b_L_law 354 = .ok (.ireturn, 1) := by decide +kernel
theorem d_L_law_355 : decode b_L_law 355 = .ok (.iload 5, 2) := by decide +kernel
theorem d_L_law_357 : decode b_L_law 357 = .ok (.ifCond .ne 15, 3) := by decide +kernel
theorem d_L_law_360 : decode b_L_law 360 = .ok (.aload_n 3, 1) := by decide +kernel
theorem d_L_law_361 : decode b_L_law 361 = .ok (.iconst 0, 1) := by decide +kernel
theorem d_L_law_362 : decode b_L_law 362 = .ok (.laload, 1) := by decide +kernel
theorem d_L_law_363 : decode b_L_law 363 = .ok (.iload 6, 2) := by decide +kernel
theorem d_L_law_365 : decode b_L_law 365 = .ok (.i2l, 1) := by decide +kernel
theorem d_L_law_366 : decode b_L_law 366 = .ok (.lcmp, 1) := by decide +kernel
theorem d_L_law_367 : decode b_L_law 367 = .ok (.ifCond .eq 5, 3) := by decide +kernel
theorem d_L_law_370 : decode b_L_law 370 = .ok (.iconst 0, 1) := by decide +kernel
theorem d_L_law_371 : decode b_L_law 371 = .ok (.ireturn, 1) := by decide +kernel
theorem d_L_law_372 : decode b_L_law 372 = .ok (.goto 215, 3) := by decide +kernel
theorem d_L_law_375 : decode b_L_law 375 = .ok (.aload_n 1, 1) := by decide +kernel
theorem d_L_law_376 : decode b_L_law 376 = .ok (.invokestatic 68, 3) := by decide +kernel
theorem d_L_law_379 : decode b_L_law 379 = .ok (.istore 5, 2) := by decide +kernel
theorem d_L_law_381 : decode b_L_law 381 = .ok (.aload_n 2, 1) := by decide +kernel
theorem d_L_law_382 : decode b_L_law 382 = .ok (.invokevirtual 71, 3) := by decide +kernel
theorem d_L_law_385 : decode b_L_law 385 = .ok (.aload_n 2, 1) := by decide +kernel
theorem d_L_law_386 : decode b_L_law 386 = .ok (.invokevirtual 52, 3) := by decide +kernel
theorem d_L_law_389 : decode b_L_law 389 = .ok (.iload 5, 2) := by decide +kernel
theorem d_L_law_391 : decode b_L_law 391 = .ok (.if_icmp .eq 5, 3) := by decide +kernel
theorem d_L_law_394 : decode b_L_law 394 = .ok (.iconst 0, 1) := by decide +kernel
theorem d_L_law_395 : decode b_L_law 395 = .ok (.ireturn, 1) := by decide +kernel
theorem d_L_law_396 : decode b_L_law 396 = .ok (.goto 191, 3) := by decide +kernel
theorem d_L_law_399 : decode b_L_law 399 = .ok (.aload_n 1, 1) := by decide +kernel
theorem d_L_law_400 : decode b_L_law 400 = .ok (.aload_n 0, 1) := by decide +kernel
theorem d_L_law_401 : decode b_L_law 401 = .ok (.iload 4, 2) := by decide +kernel
theorem d_L_law_403 : decode b_L_law 403 = .ok (.iconst 1, 1) := by decide +kernel
theorem d_L_law_404 : decode b_L_law 404 = .ok (.iadd, 1) := by decide +kernel
theorem d_L_law_405 : decode b_L_law 405 = .ok (.iaload, 1) := by decide +kernel
theorem d_L_law_406 : decode b_L_law 406 = .ok (.aload_n 3, 1) := by decide +kernel
theorem d_L_law_407 : decode b_L_law 407 = .ok (.invokestatic 72, 3) := by decide +kernel
theorem d_L_law_410 : decode b_L_law 410 = .ok (.istore 5, 2) := by decide +kernel
theorem d_L_law_412 : decode b_L_law 412 = .ok (.aload_n 2, 1) := by decide +kernel
theorem d_L_law_413 : decode b_L_law 413 = .ok (.aload_n 0, 1) := by decide +kernel
theorem d_L_law_414 : decode b_L_law 414 = .ok (.iload 4, 2) := by decide +kernel
theorem d_L_law_416 : decode b_L_law 416 = .ok (.iconst 1, 1) := by decide +kernel
theorem d_L_law_417 : decode b_L_law 417 = .ok (.iadd, 1) := by decide +kernel
theorem d_L_law_418 : decode b_L_law 418 = .ok (.iaload, 1) := by decide +kernel
theorem d_L_law_419 : decode b_L_law 419 = .ok (.invokevirtual 74, 3) := by decide +kernel
theorem d_L_law_422 : decode b_L_law 422 = .ok (.istore 6, 2) := by decide +kernel
theorem d_L_law_424 : decode b_L_law 424 = .ok (.aload_n 2, 1) := by decide +kernel
theorem d_L_law_425 : decode b_L_law 425 = .ok (.invokevirtual 52, 3) := by decide +kernel
theorem d_L_law_428 : decode b_L_law 428 = .ok (.iload 5, 2) := by decide +kernel
theorem d_L_law_430 : decode b_L_law 430 = .ok (.if_icmp .eq 5, 3) := by decide +kernel
theorem d_L_law_433 : decode b_L_law 433 = .ok (.iconst 0, 1) := by decide +kernel
theorem d_L_law_434 : decode b_L_law 434 = .ok (.ireturn, 1) := by decide +kernel
theorem d_L_law_435 : decode b_L_law 435 = .ok (.iload 5, 2) := by decide +kernel
theorem d_L_law_437 : decode b_L_law 437 = .ok (.ifCond .ne 15, 3) := by decide +kernel
theorem d_L_law_440 : decode b_L_law 440 = .ok (.aload_n 3, 1) := by decide +kernel
theorem d_L_law_441 : decode b_L_law 441 = .ok (.iconst 0, 1) := by decide +kernel
theorem d_L_law_442 : decode b_L_law 442 = .ok (.laload, 1) := by decide +kernel
theorem d_L_law_443 : decode b_L_law 443 = .ok (.iload 6, 2) := by decide +kernel
theorem d_L_law_445 : decode b_L_law 445 = .ok (.i2l, 1) := by decide +kernel
theorem d_L_law_446 : decode b_L_law 446 = .ok (.lcmp, 1) := by decide +kernel
theorem d_L_law_447 : decode b_L_law 447 = .ok (.ifCond .eq 5, 3) := by decide +kernel
theorem d_L_law_450 : decode b_L_law 450 = .ok (.iconst 0, 1) := by decide +kernel
theorem d_L_law_451 : decode b_L_law 451 = .ok (.ireturn, 1) := by decide +kernel
theorem d_L_law_452 : decode b_L_law 452 = .ok (.goto 135, 3) := by decide +kernel
theorem d_L_law_455 : decode b_L_law 455 = .ok (.aload_n 1, 1) := by decide +kernel
theorem d_L_law_456 : decode b_L_law 456 = .ok (.invokevirtual 75, 3) := by decide +kernel
theorem d_L_law_459 : decode b_L_law 459 = .ok (.aload_n 2, 1) := by decide +kernel
theorem d_L_law_460 : decode b_L_law 460 = .ok (.invokevirtual 78, 3) := by decide +kernel
theorem d_L_law_463 : decode b_L_law 463 = .ok (.if_icmp .eq 124, 3) := by decide +kernel
theorem d_L_law_466 : decode b_L_law 466 = .ok (.iconst 0, 1) := by decide +kernel
theorem d_L_law_467 : decode b_L_law 467 = .ok (.ireturn, 1) := by decide +kernel
theorem d_L_law_468 : decode b_L_law 468 = .ok (.aload_n 1, 1) := by decide +kernel
theorem d_L_law_469 : decode b_L_law 469 = .ok (.aload_n 0, 1) := by decide +kernel
theorem d_L_law_470 : decode b_L_law 470 = .ok (.iload 4, 2) := by decide +kernel
theorem d_L_law_472 : decode b_L_law 472 = .ok (.iconst 1, 1) := by decide +kernel
theorem d_L_law_473 : decode b_L_law 473 = .ok (.iadd, 1) := by decide +kernel
theorem d_L_law_474 : decode b_L_law 474 = .ok (.iaload, 1) := by decide +kernel
theorem d_L_law_475 : decode b_L_law 475 = .ok (.invokevirtual 79, 3) := by decide +kernel
theorem d_L_law_478 : decode b_L_law 478 = .ok (.aload_n 2, 1) := by decide +kernel
theorem d_L_law_479 : decode b_L_law 479 = .ok (.aload_n 0, 1) := by decide +kernel
theorem d_L_law_480 : decode b_L_law 480 = .ok (.iload 4, 2) := by decide +kernel
theorem d_L_law_482 : decode b_L_law 482 = .ok (.iconst 1, 1) := by decide +kernel
theorem d_L_law_483 : decode b_L_law 483 = .ok (.iadd, 1) := by decide +kernel
theorem d_L_law_484 : decode b_L_law 484 = .ok (.iaload, 1) := by decide +kernel
theorem d_L_law_485 : decode b_L_law 485 = .ok (.invokevirtual 82, 3) := by decide +kernel
theorem d_L_law_488 : decode b_L_law 488 = .ok (.if_icmp .eq 99, 3) := by decide +kernel
theorem d_L_law_491 : decode b_L_law 491 = .ok (.iconst 0, 1) := by decide +kernel
theorem d_L_law_492 : decode b_L_law 492 = .ok (.ireturn, 1) := by decide +kernel
theorem d_L_law_493 : decode b_L_law 493 = .ok (.aload_n 1, 1) := by decide +kernel
theorem d_L_law_494 : decode b_L_law 494 = .ok (.aload_n 0, 1) := by decide +kernel
theorem d_L_law_495 : decode b_L_law 495 = .ok (.iload 4, 2) := by decide +kernel
theorem d_L_law_497 : decode b_L_law 497 = .ok (.iconst 1, 1) := by decide +kernel
theorem d_L_law_498 : decode b_L_law 498 = .ok (.iadd, 1) := by decide +kernel
theorem d_L_law_499 : decode b_L_law 499 = .ok (.iaload, 1) := by decide +kernel
theorem d_L_law_500 : decode b_L_law 500 = .ok (.invokevirtual 83, 3) := by decide +kernel
theorem d_L_law_503 : decode b_L_law 503 = .ok (.aload_n 2, 1) := by decide +kernel
theorem d_L_law_504 : decode b_L_law 504 = .ok (.aload_n 0, 1) := by decide +kernel
theorem d_L_law_505 : decode b_L_law 505 = .ok (.iload 4, 2) := by decide +kernel
theorem d_L_law_507 : decode b_L_law 507 = .ok (.iconst 1, 1) := by decide +kernel
theorem d_L_law_508 : decode b_L_law 508 = .ok (.iadd, 1) := by decide +kernel
theorem d_L_law_509 : decode b_L_law 509 = .ok (.iaload, 1) := by decide +kernel
theorem d_L_law_510 : decode b_L_law 510 = .ok (.invokevirtual 86, 3) := by decide +kernel
theorem d_L_law_513 : decode b_L_law 513 = .ok (.if_icmp .eq 74, 3) := by decide +kernel
theorem d_L_law_516 : decode b_L_law 516 = .ok (.iconst 0, 1) := by decide +kernel
theorem d_L_law_517 : decode b_L_law 517 = .ok (.ireturn, 1) := by decide +kernel
theorem d_L_law_518 : decode b_L_law 518 = .ok (.aload_n 1, 1) := by decide +kernel
theorem d_L_law_519 : decode b_L_law 519 = .ok (.aload_n 0, 1) := by decide +kernel
theorem d_L_law_520 : decode b_L_law 520 = .ok (.iload 4, 2) := by decide +kernel
theorem d_L_law_522 : decode b_L_law 522 = .ok (.iconst 1, 1) := by decide +kernel
theorem d_L_law_523 : decode b_L_law 523 = .ok (.iadd, 1) := by decide +kernel
theorem d_L_law_524 : decode b_L_law 524 = .ok (.iaload, 1) := by decide +kernel
theorem d_L_law_525 : decode b_L_law 525 = .ok (.aload_n 3, 1) := by decide +kernel
theorem d_L_law_526 : decode b_L_law 526 = .ok (.invokestatic 87, 3) := by decide +kernel
theorem d_L_law_529 : decode b_L_law 529 = .ok (.istore 5, 2) := by decide +kernel
theorem d_L_law_531 : decode b_L_law 531 = .ok (.aload_n 2, 1) := by decide +kernel
theorem d_L_law_532 : decode b_L_law 532 = .ok (.aload_n 0, 1) := by decide +kernel
theorem d_L_law_533 : decode b_L_law 533 = .ok (.iload 4, 2) := by decide +kernel
theorem d_L_law_535 : decode b_L_law 535 = .ok (.iconst 1, 1) := by decide +kernel
theorem d_L_law_536 : decode b_L_law 536 = .ok (.iadd, 1) := by decide +kernel
theorem d_L_law_537 : decode b_L_law 537 = .ok (.iaload, 1) := by decide +kernel
theorem d_L_law_538 : decode b_L_law 538 = .ok (.invokevirtual 89, 3) := by decide +kernel
theorem d_L_law_541 : decode b_L_law 541 = .ok (.istore 6, 2) := by decide +kernel
theorem d_L_law_543 : decode b_L_law 543 = .ok (.aload_n 2, 1) := by decide +kernel
theorem d_L_law_544 : decode b_L_law 544 = .ok (.invokevirtual 52, 3) := by decide +kernel
theorem d_L_law_547 : decode b_L_law 547 = .ok (.iload 5, 2) := by decide +kernel
theorem d_L_law_549 : decode b_L_law 549 = .ok (.if_icmp .eq 5, 3) := by decide +kernel
theorem d_L_law_552 : decode b_L_law 552 = .ok (.iconst 0, 1) := by decide +kernel
theorem d_L_law_553 : decode b_L_law 553 = .ok (.ireturn, 1) := by decide +kernel
theorem d_L_law_554 : decode b_L_law 554 = .ok (.iload 5, 2) := by decide +kernel
theorem d_L_law_556 : decode b_L_law 556 = .ok (.ifCond .ne 15, 3) := by decide +kernel
theorem d_L_law_559 : decode b_L_law 559 = .ok (.aload_n 3, 1) := by decide +kernel
theorem d_L_law_560 : decode b_L_law 560 = .ok (.iconst 0, 1) := by decide +kernel
theorem d_L_law_561 : decode b_L_law 561 = .ok (.laload, 1) := by decide +kernel
theorem d_L_law_562 : decode b_L_law 562 = .ok (.iload 6, 2) := by decide +kernel
theorem d_L_law_564 : decode b_L_law 564 = .ok (.i2l, 1) := by decide +kernel
theorem d_L_law_565 : decode b_L_law 565 = .ok (.lcmp, 1) := by decide +kernel
theorem d_L_law_566 : decode b_L_law 566 = .ok (.ifCond .eq 5, 3) := by decide +kernel
theorem d_L_law_569 : decode b_L_law 569 = .ok (.iconst 0, 1) := by decide +kernel
theorem d_L_law_570 : decode b_L_law 570 = .ok (.ireturn, 1) := by decide +kernel
theorem d_L_law_571 : decode b_L_law 571 = .ok (.goto 16, 3) := by decide +kernel
theorem d_L_law_574 : decode b_L_law 574 = .ok (.aload_n 1, 1) := by decide +kernel
theorem d_L_law_575 : decode b_L_law 575 = .ok (.invokevirtual 90, 3) := by decide +kernel
theorem d_L_law_578 : decode b_L_law 578 = .ok (.aload_n 2, 1) := by decide +kernel
theorem d_L_law_579 : decode b_L_law 579 = .ok (.invokevirtual 93, 3) := by decide +kernel
theorem d_L_law_582 : decode b_L_law 582 = .ok (.if_icmp .eq 5, 3) := by decide +kernel
theorem d_L_law_585 : decode b_L_law 585 = .ok (.iconst 0, 1) := by decide +kernel
theorem d_L_law_586 : decode b_L_law 586 = .ok (.ireturn, 1) := by decide +kernel
theorem d_L_law_587 : decode b_L_law 587 = .ok (.iinc 4 2, 3) := by decide +kernel
theorem d_L_law_590 : decode b_L_law 590 = .ok (.goto (-567), 3) := by decide +kernel
theorem d_L_law_593 : decode b_L_law 593 = .ok (.iconst 1, 1) := by decide +kernel
theorem d_L_law_594 : decode b_L_law 594 = .ok (.ireturn, 1) := by decide +kernel
end
section
/-! worlds by membership: cells may be dropped and put in another order -/
theorem sw_P_of {D : va_G} {cl : List vw_C} {ws ws' : va_W} {H : Heap} (h : va_P D cl ws H) (hs : ∀ q ∈ ws', q ∈ ws) : va_P D cl ws' H := by
  intro k q hk
  obtain ⟨i, hi⟩ := List.mem_iff_getElem?.mp (hs q (List.mem_of_getElem? hk))
  exact h i q hi
theorem sw_D_iff {A : Nat → Prop} {ws : va_W} : va_D A ws ↔ (ws.map Prod.fst).Nodup ∧ ∀ q ∈ ws, A q.1 := by
  constructor
  · intro h
    refine ⟨?_, fun q hq => ?_⟩
    · rw [List.Nodup, List.pairwise_iff_getElem]
      intro i j hi hj hij e
      rw [List.length_map] at hi hj
      rw [List.getElem_map, List.getElem_map] at e
      have := h.1 i j ws[i] ws[j] (List.getElem?_eq_getElem hi) (List.getElem?_eq_getElem hj) e
      omega
    · obtain ⟨i, hi⟩ := List.mem_iff_getElem?.mp hq
      exact h.2 i q hi
  · intro h
    obtain ⟨h1, h2⟩ := h
    rw [List.Nodup, List.pairwise_iff_getElem] at h1
    refine ⟨fun i j p q hp hq e => ?_, fun k q hk => h2 q (List.mem_of_getElem? hk)⟩
    obtain ⟨hi, hi2⟩ := List.getElem?_eq_some_iff.mp hp
    obtain ⟨hj, hj2⟩ := List.getElem?_eq_some_iff.mp hq
    rcases Nat.lt_trichotomy i j with g | g | g
    · exact absurd (by rw [List.getElem_map, List.getElem_map, hi2, hj2]; exact e) (h1 i j (by rw [List.length_map]; exact hi) (by rw [List.length_map]; exact hj) g)
    · exact g
    · exact absurd (by rw [List.getElem_map, List.getElem_map, hi2, hj2]; exact e.symm) (h1 j i (by rw [List.length_map]; exact hj) (by rw [List.length_map]; exact hi) g)
/-- the cells keep their addresses, or some fall away, or they stand in another order -/
theorem sw_D_sub {A : Nat → Prop} {ws ws' : va_W} (h : va_D A ws) (hs : (ws'.map Prod.fst).Sublist (ws.map Prod.fst)) : va_D A ws' := by
  rw [sw_D_iff] at h ⊢
  refine ⟨hs.nodup h.1, fun q hq => ?_⟩
  obtain ⟨p, hp, e⟩ := List.mem_map.mp (hs.subset (List.mem_map_of_mem hq))
  rw [← e]
  exact h.2 p hp
theorem sw_D_perm {A : Nat → Prop} {ws ws' : va_W} (h : va_D A ws) (hs : (ws.map Prod.fst).Perm (ws'.map Prod.fst)) : va_D A ws' := by
  rw [sw_D_iff] at h ⊢
  refine ⟨hs.nodup_iff.mp h.1, fun q hq => ?_⟩
  obtain ⟨p, hp, e⟩ := List.mem_map.mp (hs.mem_iff.mpr (List.mem_map_of_mem hq))
  rw [← e]
  exact h.2 p hp
/-- all cells of a world may be handed to a callee -/
theorem sw_free {A0 : Nat → Prop} {ws : va_W} {H0 H : Heap} {locs : List Loc} (hD : va_D A0 ws) (hS : va_S A0 H0 H locs) (hA : ∀ q, H0.size ≤ q → A0 q) : ∀ q, va_A ws H.size q → A0 q := by
  intro q h
  rcases h with ⟨k, e, h⟩ | h
  · exact hD.2 k (q, e) h
  · exact hA q (Nat.le_trans hS.1 h)
theorem sw_set_mid {α : Type} (A : List α) (c c' : α) (B : List α) : (A ++ c :: B).set A.length c' = A ++ c' :: B := by
  rw [List.set_append_right _ _ (Nat.le_refl _), Nat.sub_self, List.set_cons_zero]
theorem sw_get_mid {α : Type} (A : List α) (c : α) (B : List α) : (A ++ c :: B)[A.length]? = some c := by
  rw [List.getElem?_append_right (Nat.le_refl _), Nat.sub_self, List.getElem?_cons_zero]
end
section
/-! rows for a reference that may be null -/
theorem sv_nar (n : String) (x : Option Nat) : narrow (.object n) (va_rf x) = va_rf x := by cases x <;> rfl
theorem sv_fit (n : String) (x : Option Nat) : fits (.object n) (va_rf x) = true := by cases x <;> rfl
theorem sv_cat (x : Option Nat) : (va_rf x).category = 1 := by cases x <;> rfl
section SVR
variable {p : Program} {l : Launch} {e : Env} {R : Room} {s : State} {m : MethodId} {args : Array Value} {below : List Frame} {meth : Method} {c : Code} {H : Heap} {locs : List Loc} {cells slots : Nat} {Q : State → Prop}
variable {cc : ByteArray} {pc : Nat} {ls : Array Slot} {rest : List Value}
theorem sv_aload_n (hexec : p.tables.exec = Jvm.exec) (hb : c.code = cc) {k : Fin 4} {i : Nat} {x : Option Nat} (hdg : decode cc pc = .ok (.aload_n k, 1)) (hi : (k : Nat) = i) (hl : ls[i]? = some (.val (va_rf x)))
    (k9 : W p l e R s m args below meth c H locs cells slots Q (F0 m (pc + 1) ls (va_rf x :: rest))) : W p l e R s m args below meth c H locs cells slots Q (F0 m pc ls rest) := by
  cases x with
  | none => exact lv_aload_nN hexec hb hdg hi hl k9
  | some a => exact lv_aload_n hexec hb hdg hi hl k9
theorem sv_aload (hexec : p.tables.exec = Jvm.exec) (hb : c.code = cc) {i : Nat} {x : Option Nat} (hdg : decode cc pc = .ok (.aload i, 2)) (hl : ls[i]? = some (.val (va_rf x)))
    (k9 : W p l e R s m args below meth c H locs cells slots Q (F0 m (pc + 2) ls (va_rf x :: rest))) : W p l e R s m args below meth c H locs cells slots Q (F0 m pc ls rest) := by
  cases x with
  | none => exact lv_aloadN hexec hb hdg hl k9
  | some a => exact lv_aload hexec hb hdg hl k9
theorem sv_astore_n (hexec : p.tables.exec = Jvm.exec) (hb : c.code = cc) {k : Fin 4} {i nL : Nat} {x : Option Nat} {lv lv' : List (Nat × Value)} (hdg : decode cc pc = .ok (.astore_n k, 1)) (hi : (k : Nat) = i) (h : lv_has ls nL lv) (hn : i < nL) (hl : (i, va_rf x) :: lv.filter (fun q => !(q.1 == i) && !(q.1 + 1 == i && q.2.category == 2)) = lv')
    (kk : ∀ ls' : Array Slot, lv_has ls' nL lv' → W p l e R s m args below meth c H locs cells slots Q (F0 m (pc + 1) ls' rest)) : W p l e R s m args below meth c H locs cells slots Q (F0 m pc ls (va_rf x :: rest)) := by
  cases x with
  | none => exact lv_astore_nN hexec hb hdg hi h hn hl kk
  | some a => exact lv_astore_n hexec hb hdg hi h hn hl kk
theorem sv_astore (hexec : p.tables.exec = Jvm.exec) (hb : c.code = cc) {i nL : Nat} {x : Option Nat} {lv lv' : List (Nat × Value)} (hdg : decode cc pc = .ok (.astore i, 2)) (h : lv_has ls nL lv) (hn : i < nL) (hl : (i, va_rf x) :: lv.filter (fun q => !(q.1 == i) && !(q.1 + 1 == i && q.2.category == 2)) = lv')
    (kk : ∀ ls' : Array Slot, lv_has ls' nL lv' → W p l e R s m args below meth c H locs cells slots Q (F0 m (pc + 2) ls' rest)) : W p l e R s m args below meth c H locs cells slots Q (F0 m pc ls (va_rf x :: rest)) := by
  cases x with
  | none => exact lv_astoreN hexec hb hdg h hn hl kk
  | some a => exact lv_astore hexec hb hdg h hn hl kk
theorem sv_ifnull (hexec : p.tables.exec = Jvm.exec) (hb : c.code = cc) {x : Option Nat} {off : Int} {tgt : Nat} (hdg : decode cc pc = .ok (.ifnull off, 3)) (ht : (pc : Int) + off = (tgt : Int))
    (kn : x = none → W p l e R s m args below meth c H locs cells slots Q (F0 m tgt ls rest)) (ks : ∀ a : Nat, x = some a → W p l e R s m args below meth c H locs cells slots Q (F0 m (pc + 3) ls rest)) : W p l e R s m args below meth c H locs cells slots Q (F0 m pc ls (va_rf x :: rest)) := by
  cases x with
  | none => exact lv_ifnullN hexec hb hdg ht (kn rfl)
  | some a => exact lv_ifnull hexec hb hdg (ks a rfl)
theorem sv_ifnonnull (hexec : p.tables.exec = Jvm.exec) (hb : c.code = cc) {x : Option Nat} {off : Int} {tgt : Nat} (hdg : decode cc pc = .ok (.ifnonnull off, 3)) (ht : (pc : Int) + off = (tgt : Int))
    (ks : ∀ a : Nat, x = some a → W p l e R s m args below meth c H locs cells slots Q (F0 m tgt ls rest)) (kn : x = none → W p l e R s m args below meth c H locs cells slots Q (F0 m (pc + 3) ls rest)) : W p l e R s m args below meth c H locs cells slots Q (F0 m pc ls (va_rf x :: rest)) := by
  cases x with
  | none => exact lv_ifnonnullN hexec hb hdg (kn rfl)
  | some a => exact lv_ifnonnull hexec hb hdg ht (ks a rfl)
end SVR
theorem sw_set1 {α : Type} (S : α) (A : List α) (c c' : α) (B : List α) : (S :: (A ++ c :: B)).set (A.length + 1) c' = S :: (A ++ c' :: B) := by
  rw [List.set_cons_succ, sw_set_mid]
theorem sw_get1 {α : Type} (S : α) (A : List α) (c : α) (B : List α) : (S :: (A ++ c :: B))[A.length + 1]? = some c := by
  rw [List.getElem?_cons_succ, sw_get_mid]
end
section
/-! the class's pieces: a chain of cells. A piece: its address; begin, size, used, marked, time -/
abbrev PD : Type := Nat × Nat × Bool × Bool × Nat
abbrev AP : Type := Nat × PD
def bI (b : Bool) : Int32 := if b then 1 else 0
theorem bI_0 {b : Bool} : bI b = 0 ↔ b = false := by cases b <;> decide
theorem bI_n0 {b : Bool} : ¬ bI b = 0 ↔ b = true := by cases b <;> decide
theorem bI_nar (b : Bool) : narrow .boolean (.int (bI b)) = .int (bI b) := by cases b <;> rfl
theorem bI_fit (b : Bool) : fits .boolean (.int (bI b)) = true := by cases b <;> rfl
def hdO (L : List AP) (nx : Option Nat) : Option Nat := match L with
  | [] => nx
  | y :: _ => some y.1
def pcell (x : AP) (nx : Option Nat) : Nat × va_E := (x.1, .inr (1, [.int (nI x.2.1), .int (nI x.2.2.1), .int (bI x.2.2.2.1), .int (bI x.2.2.2.2.1), .long (lN x.2.2.2.2.2), va_rf nx]))
def chG : List AP → Option Nat → va_W
  | [], _ => []
  | x :: L, nx => pcell x (hdO L nx) :: chG L nx
def scell (h c : Nat) (fi ha : Option Nat) (f : Nat) (v w z : Int32) : Nat × va_E := (h, .inr (0, [.int (nI c), va_rf fi, va_rf ha, .long (lN f), .int v, .int w, .int z]))
theorem hdO_app (L M : List AP) (nx : Option Nat) : hdO (L ++ M) nx = hdO L (hdO M nx) := by cases L <;> rfl
theorem chG_app (L M : List AP) (nx : Option Nat) : chG (L ++ M) nx = chG L (hdO M nx) ++ chG M nx := by
  induction L with
  | nil => rfl
  | cons x L ih =>
    show pcell x (hdO (L ++ M) nx) :: chG (L ++ M) nx = _
    rw [ih, hdO_app]
    rfl
theorem chG_len (L : List AP) (nx : Option Nat) : (chG L nx).length = L.length := by
  induction L with
  | nil => rfl
  | cons x L ih =>
    show (chG L nx).length + 1 = _
    rw [ih]
    rfl
theorem chG_fst (L : List AP) (nx : Option Nat) : (chG L nx).map Prod.fst = L.map Prod.fst := by
  induction L with
  | nil => rfl
  | cons x L ih =>
    show x.1 :: (chG L nx).map Prod.fst = _
    rw [ih]
    rfl
theorem chG_mid (pre : List AP) (x : AP) (suf : List AP) (nx : Option Nat) : chG (pre ++ x :: suf) nx = chG pre (some x.1) ++ pcell x (hdO suf nx) :: chG suf nx := by
  rw [chG_app]
  rfl
theorem chG_at (S : Nat × va_E) (pre : List AP) (x : AP) (suf : List AP) (nx : Option Nat) : (S :: chG (pre ++ x :: suf) nx)[pre.length + 1]? = some (pcell x (hdO suf nx)) := by
  rw [chG_mid, List.getElem?_cons_succ]
  have h := sw_get_mid (chG pre (some x.1)) (pcell x (hdO suf nx)) (chG suf nx)
  rw [chG_len] at h
  exact h
theorem chG_mem (S : Nat × va_E) {L : List AP} {y : AP} (nx : Option Nat) (h : y ∈ L) : ∃ (i : Nat) (n : Option Nat), (S :: chG L nx)[i]? = some (pcell y n) := by
  obtain ⟨pre, suf, rfl⟩ := List.append_of_mem h
  exact ⟨_, _, chG_at S pre y suf nx⟩
theorem chG_set (S : Nat × va_E) (pre : List AP) (x x' : AP) (suf : List AP) (nx : Option Nat) (hx : x'.1 = x.1) : (S :: chG (pre ++ x :: suf) nx).set (pre.length + 1) (pcell x' (hdO suf nx)) = S :: chG (pre ++ x' :: suf) nx := by
  rw [chG_mid, chG_mid, hx, List.set_cons_succ]
  have h := sw_set_mid (chG pre (some x.1)) (pcell x (hdO suf nx)) (pcell x' (hdO suf nx)) (chG suf nx)
  rw [chG_len] at h
  rw [h]
/-- of its numbers no one is large -/
def Bd (L : List AP) : Prop := ∀ x ∈ L, x.2.1 < 2 ^ 30 ∧ x.2.2.1 < 2 ^ 30 ∧ x.2.2.2.2.2 < 2 ^ 62
def isFT (x : AP) : Bool := !x.2.2.2.1 && decide (2 < x.2.2.1)
def isCr (x : AP) : Bool := !x.2.2.2.1 && decide (x.2.2.1 ≤ 2)
def isKp (x : AP) : Bool := x.2.2.2.1 && x.2.2.2.2.1
def befo (x y : AP) : Bool := if x.2.2.1 = y.2.2.1 then decide (y.2.2.2.2.2 < x.2.2.2.2.2) else decide (x.2.2.1 < y.2.2.1)
def wtfC (sz : Nat) (x : AP) (acc : Option AP) : Bool := isFT x && decide (sz ≤ x.2.2.1) && (match acc with
  | none => true
  | some y => befo x y)
def wtf (sz : Nat) : List AP → Option AP → Option AP
  | [], acc => acc
  | x :: L, acc => wtf sz L (if wtfC sz x acc then some x else acc)
def pAt (a : Int32) : List AP → Option AP
  | [] => none
  | x :: L => if nI x.2.1 ≤ a then (if nI x.2.1 = a then some x else pAt a L) else none
def shr (what : Nat) (x : AP) : Nat :=
  if what = 0 then (if x.2.2.2.1 then 0 else x.2.2.1) else
  if what = 1 then (if isCr x then x.2.2.1 else 0) else
  if what = 2 then (if x.2.2.2.1 then 1 else 0) else
  if what = 3 then (if isFT x then 1 else 0) else
  if what = 4 then (if isCr x then 1 else 0) else
  if what = 8 then (if x.2.2.2.2.1 then 1 else 0) else 0
def shrS (what : Nat) : List AP → Nat
  | [] => 0
  | x :: L => shr what x + shrS what L
def grF : List AP → Nat → Nat
  | [], g => g
  | x :: L, g => grF L (if !x.2.2.2.1 && decide (g < x.2.2.1) then x.2.2.1 else g)
def unmkL (L : List AP) : List AP := L.map (fun x => (x.1, x.2.1, x.2.2.1, x.2.2.2.1, false, x.2.2.2.2.2))
/-- what a step gathers behind the hand's piece: as long as nothing is kept -/
def gaM : List AP → List AP
  | [] => []
  | x :: L => if isKp x then [] else x :: gaM L
def gaR : List AP → List AP
  | [] => []
  | x :: L => if isKp x then x :: L else gaR L
theorem gaMR (L : List AP) : gaM L ++ gaR L = L := by
  induction L with
  | nil => rfl
  | cons x L ih =>
    by_cases h : isKp x = true
    · simp [gaM, gaR, h]
    · simp [gaM, gaR, h, ih]
def szS : List AP → Nat
  | [] => 0
  | x :: L => x.2.2.1 + szS L
def usS : List AP → Nat
  | [] => 0
  | x :: L => (if x.2.2.2.1 then 1 else 0) + usS L
end
section
/-! what a method finds at its start beside its world: words of the tables that aren't good ones, the statics of Throwable, texts -/
abbrev classes : List vw_C := [(R_S, F_S, 7), (R_P, F_P, 6), (R_M, F_M, 10)]
abbrev tyL : Type := List (ClassId × FieldType)
def nwF : List (Nat × String × String) := [(47, "begin", "I"), (60, "size", "I"), (37, "used", "Z"), (50, "marked", "Z"), (114, "freedAt", "J"), (69, "next", "LSweepHand$Piece;")]
def nwM : List (Nat × MethodName) := [(107, y_P_init), (104, y_P_end), (127, y_P_isFreeForTaking), (135, y_P_isKeptBySweep), (145, y_P_isCrumb)]
def nwC : List String := ["java/lang/IllegalArgumentException", "java/util/NoSuchElementException", "java/lang/IllegalStateException"]
def nwD : List String := ["java/lang/RuntimeException", "java/lang/Exception", "java/lang/Throwable"]
def NW (U : State) : Prop := (∀ q ∈ nwF, va_Nw (.fieldLinkNest R_S q.1 "SweepHand$Piece" q.2.1 q.2.2 "SweepHand") U) ∧ (∀ q ∈ nwM, va_Nw (.methodLinkNest R_S q.1 q.2 "SweepHand") U) ∧ (∀ q ∈ nwC, va_Nw (.castable q q) U) ∧ (∀ q ∈ nwD, va_Nw (.declares ⟨q, "<init>", "(Ljava/lang/String;)V"⟩) U) ∧ va_Nc "java/lang/IllegalStateException" "java/util/NoSuchElementException" U
theorem NW.warm {s U : State} (hW : s.WarmedH U.vm) (h : NW s) : NW U :=
  ⟨fun q hq => va_Nw.warmF hW (h.1 q hq), fun q hq => va_Nw.warmM hW (h.2.1 q hq), fun q hq => va_Nw.warmC hW (h.2.2.1 q hq), fun q hq => va_Nw.warmD hW (h.2.2.2.1 q hq), va_Nc.moved hW.alike h.2.2.2.2⟩
def txS : List (Nat × String) := [(15, "the number of cells is not 16 .. 16384"), (24, "the size is not 3 .. 2000"), (124, "no used piece begins there"), (119, "there is a sweep"), (72, "the number of steps is not 0 .. 5000"), (94, "what to count is not 0 .. 10")]
def EV (N0 : Nat) (U : State) (H : Heap) : Prop := vx_Zq Bundle.tN "UNASSIGNED_STACK" Bundle.steD (fun q => N0 ≤ q) U H ∧ vx_Zq Bundle.tN "SUPPRESSED_SENTINEL" Bundle.listD (fun q => N0 ≤ q) U H ∧ ∀ q ∈ txS, ∃ a, vk_R R_S q.1 q.2 a U
theorem EV.warm {N0 : Nat} {s U : State} {H : Heap} (hW : s.WarmedH U.vm) (h : EV N0 s H) : EV N0 U H :=
  ⟨h.1.moved hW.alike, h.2.1.moved hW.alike, fun q hq => (h.2.2 q hq).elim fun a ha => ⟨a, vk_R.warm hW ha⟩⟩
theorem EV.kept {N0 : Nat} {s : State} {H H1 : Heap} (hq : ∀ a : Nat, a < H.size → ¬ N0 ≤ a → H1[a]? = H[a]?) (h : EV N0 s H) : EV N0 s H1 :=
  ⟨h.1.kept hq, h.2.1.kept hq, h.2.2⟩
/-- a reader's start -/
def at0 (D : va_G) (ty : tyL) (ws : va_W) (U : State) : Prop := va_P D classes ws U.heap ∧ va_K D classes ty U ∧ NW U
theorem at0.of {D : va_G} {ty : tyL} {ws : va_W} {s U : State} {H : Heap} (hP : va_P D classes ws H) (hK : va_K D classes ty s) (hN : NW s) (hU : U.heap = H) (hW : s.WarmedH U.vm) : at0 D ty ws U :=
  ⟨by rw [hU]; exact hP, va_K.moved hW.alike hK, hN.warm hW⟩
theorem at0.call {D : va_G} {ty : tyL} {ws : va_W} {U : State} {g : JFrame} {mk : MethodId} {a : Array Value} (h : at0 D ty ws U) : at0 D ty ws (U.calling g mk a) :=
  ⟨h.1, va_K.moved (u := U) (U := U.calling g mk a) (Vm.Alike.refl U.vm) h.2.1, NW.warm (s := U) (U := U.calling g mk a) (State.WarmedH.refl U) h.2.2⟩
/-- a writer's start -/
def at1 (D : va_G) (ty : tyL) (N0 sz : Nat) (ws : va_W) (U : State) : Prop := U.heap.size = sz ∧ N0 ≤ sz ∧ at0 D ty ws U ∧ va_D (fun q => N0 ≤ q) ws ∧ EV N0 U U.heap
/-- a writer's end -/
def at2 (D : va_G) (ty : tyL) (A : Nat → Prop) (ws : va_W) (t : State) : Prop := va_P D classes ws t.heap ∧ va_K D classes ty t ∧ va_D A ws
theorem at2.of {D : va_G} {ty : tyL} {ws : va_W} {A : Nat → Prop} {s t : State} {H : Heap} (hP : va_P D classes ws H) (hK : va_K D classes ty s) (hD : va_D A ws) (ht : t.heap = H) (hW : s.WarmedH t.vm) : at2 D ty A ws t :=
  ⟨by rw [ht]; exact hP, va_K.moved hW.alike hK, hD⟩
/-- where an exception leaves: the class's name, the world as it is -/
def atX (D : va_G) (ty : tyL) (A : Nat → Prop) (E : String) (ws : va_W) (t : State) : Prop := va_P D classes ws t.heap ∧ va_K D classes ty t ∧ va_D A ws
theorem at1.call {D : va_G} {ty : tyL} {N0 sz : Nat} {ws : va_W} {U : State} {g : JFrame} {mk : MethodId} {a : Array Value} (h : at1 D ty N0 sz ws U) : at1 D ty N0 sz ws (U.calling g mk a) :=
  ⟨h.1, h.2.1, h.2.2.1.call, h.2.2.2.1, EV.warm (s := U) (U := U.calling g mk a) (State.WarmedH.refl U) h.2.2.2.2⟩
theorem at1.of {D : va_G} {ty : tyL} {N0 : Nat} {ws : va_W} {A : Nat → Prop} {locs : List Loc} {s U : State} {H : Heap} (hP : va_P D classes ws H) (hK : va_K D classes ty s) (hN : NW s) (hD : va_D A ws) (hS : va_S A s.heap H locs) (hAN : ∀ q, A q → N0 ≤ q) (hN0 : N0 ≤ s.heap.size) (hE : EV N0 s s.heap) (hU : U.heap = H) (hW : s.WarmedH U.vm) : at1 D ty N0 H.size ws U :=
  ⟨by rw [hU], Nat.le_trans hN0 hS.1, at0.of hP hK hN hU hW, hD.weaken (fun _ _ _ h => hAN _ h), by rw [hU]; exact EV.warm hW (EV.kept (fun a h1 h2 => hS.2.1 a h1 (fun h => h2 (hAN a h))) hE)⟩
section PRE
variable {D : va_G} {ty : tyL} {N0 : Nat} {ws : va_W} {A : Nat → Prop} {locs : List Loc} {s : State} {H : Heap} {As : List Value}
theorem pre_roS (hP : va_P D classes ws H) (hK : va_K D classes ty s) (hN : NW s) : PreS s H (va_Pc As (at0 D ty ws)) As :=
  ⟨fun a U g mk q => ⟨q.1, q.2.call⟩, fun U hU hW => ⟨rfl, at0.of hP hK hN hU hW⟩⟩
theorem pre_roV {b k ci : Nat} {q : vw_C} {fs : List Value} (hP : va_P D classes ws H) (hK : va_K D classes ty s) (hN : NW s) (hc : classes[ci]? = some q) (he : ws[k]? = some (b, .inr (ci, fs))) : PreV s H q.1 b (va_Pc (.ref b :: As) (at0 D ty ws)) As :=
  ⟨fun a U g mk q => ⟨q.1, q.2.call⟩, va_recv hK hP hc he, fun U hU hW => ⟨rfl, at0.of hP hK hN hU hW⟩⟩
theorem pre_wrS (hP : va_P D classes ws H) (hK : va_K D classes ty s) (hN : NW s) (hD : va_D A ws) (hS : va_S A s.heap H locs) (hAN : ∀ q, A q → N0 ≤ q) (hN0 : N0 ≤ s.heap.size) (hE : EV N0 s s.heap) : PreS s H (va_Pc As (at1 D ty N0 H.size ws)) As :=
  ⟨fun a U g mk q => ⟨q.1, q.2.call⟩, fun U hU hW => ⟨rfl, at1.of hP hK hN hD hS hAN hN0 hE hU hW⟩⟩
theorem pre_wrV {b k ci : Nat} {q : vw_C} {fs : List Value} (hP : va_P D classes ws H) (hK : va_K D classes ty s) (hN : NW s) (hD : va_D A ws) (hS : va_S A s.heap H locs) (hAN : ∀ q, A q → N0 ≤ q) (hN0 : N0 ≤ s.heap.size) (hE : EV N0 s s.heap) (hc : classes[ci]? = some q) (he : ws[k]? = some (b, .inr (ci, fs))) : PreV s H q.1 b (va_Pc (.ref b :: As) (at1 D ty N0 H.size ws)) As :=
  ⟨fun a U g mk q => ⟨q.1, q.2.call⟩, va_recv hK hP hc he, fun U hU hW => ⟨rfl, at1.of hP hK hN hD hS hAN hN0 hE hU hW⟩⟩
end PRE
theorem sw_AN {N0 : Nat} {ws : va_W} {sz : Nat} (hD : va_D (fun q => N0 ≤ q) ws) (h : N0 ≤ sz) : ∀ q, va_A ws sz q → N0 ≤ q := by
  intro q hq
  rcases hq with ⟨k, e, hk⟩ | hq
  · exact hD.2 k (q, e) hk
  · exact Nat.le_trans h hq
end
section
set_option maxHeartbeats 4000000 in
set_option maxRecDepth 100000 in
theorem c_P_end (l : Launch) (D : va_G) (ty : tyL) (ws : va_W) (k : Nat) (x : AP) (nx : Option Nat) (he : ws[k]? = some (pcell x nx)) : Met l y_P_end (Cond.code y_P_end b_P_end 1 (some .int) :: GW) ({ frames := 0, cells := 0, slots := 0, locals := 0 }) (va_Pc [.ref x.1] (at0 D ty ws)) (vp_Si (fun r => r = nI (x.2.1 + x.2.2.1))) 0 0 (fun _ => False) := by
  refine Met.ofW (cc := b_P_end) (maxL := 1) (ret := (some .int)) (by decide) rfl ?_
  intro p e s m args below meth c s₁ B hml hv
  obtain ⟨rfl, hP, hK, hN⟩ := hv
  have hx := B.exec
  have hb := B.bytes
  have hr := B.returns
  have hg : ∀ w ∈ GW, w.before _ s = true := fun w h => atoms_spec (ws := Cond.code y_P_end b_P_end 1 (some .int) :: GW) B.pre w (List.mem_cons_of_mem _ h)
  have hown : s.vm.findClass R_P = some m.cls := findClass_of_methodNamed B.named
  have hlocks := B.notSynchronized
  have hl := lv_entry ([.ref x.1]) (n := 1) (Nat.le_of_ble_eq_true rfl)
  rw [lg_entry_eq]
  generalize (lg_sl ([.ref x.1]) ++ List.replicate (1 - (lg_sl ([.ref x.1])).length) Slot.unset).toArray = ls at hl ⊢
  replace hl : lv_has ls 1 [(0, .ref x.1)] := hl
  refine lv_aload_n hx hb d_P_end_0 rfl (lv_at hl 0 rfl) ?_
  refine va_get (D := D) (ci := 1) (v := .int (nI x.2.1)) (C := R_P) (T := F_P) (N := 6) hx hb hg gi_P hown hK hP k he rfl 0 (by decide) (hg _ gw_53) (fun _ h9 => h9) rfl d_P_end_1 ?_
  refine lv_aload_n hx hb d_P_end_4 rfl (lv_at hl 0 rfl) ?_
  refine va_get (D := D) (ci := 1) (v := .int (nI x.2.2.1)) (C := R_P) (T := F_P) (N := 6) hx hb hg gi_P hown hK hP k he rfl 1 (by decide) (hg _ gw_55) (fun _ h9 => h9) rfl d_P_end_5 ?_
  refine lv_iadd hx hb d_P_end_8 ?_
  exact W.iret (v := ((nI x.2.1) + (nI x.2.2.1))) hx hb hr (fun t ht hW => ⟨_, rfl, (nI_add _ _), ht⟩) (fun q h => nomatch h) d_P_end_9
set_option maxHeartbeats 4000000 in
set_option maxRecDepth 100000 in
theorem c_P_isCrumb (l : Launch) (D : va_G) (ty : tyL) (ws : va_W) (k : Nat) (x : AP) (nx : Option Nat) (he : ws[k]? = some (pcell x nx)) (hn : x.2.2.1 < 2 ^ 31) : Met l y_P_isCrumb (Cond.code y_P_isCrumb b_P_isCrumb 1 (some .boolean) :: GW) ({ frames := 0, cells := 0, slots := 0, locals := 0 }) (va_Pc [.ref x.1] (at0 D ty ws)) (vp_Si (fun r => r = bI (isCr x))) 0 0 (fun _ => False) := by
  refine Met.ofW (cc := b_P_isCrumb) (maxL := 1) (ret := (some .boolean)) (by decide) rfl ?_
  intro p e s m args below meth c s₁ B hml hv
  obtain ⟨rfl, hP, hK, hN⟩ := hv
  have hx := B.exec
  have hb := B.bytes
  have hr := B.returns
  have hg : ∀ w ∈ GW, w.before _ s = true := fun w h => atoms_spec (ws := Cond.code y_P_isCrumb b_P_isCrumb 1 (some .boolean) :: GW) B.pre w (List.mem_cons_of_mem _ h)
  have hown : s.vm.findClass R_P = some m.cls := findClass_of_methodNamed B.named
  have hlocks := B.notSynchronized
  have hl := lv_entry ([.ref x.1]) (n := 1) (Nat.le_of_ble_eq_true rfl)
  rw [lg_entry_eq]
  generalize (lg_sl ([.ref x.1]) ++ List.replicate (1 - (lg_sl ([.ref x.1])).length) Slot.unset).toArray = ls at hl ⊢
  replace hl : lv_has ls 1 [(0, .ref x.1)] := hl
  refine lv_aload_n hx hb d_P_isCrumb_0 rfl (lv_at hl 0 rfl) ?_
  refine va_get (D := D) (ci := 1) (v := .int (bI x.2.2.2.1)) (C := R_P) (T := F_P) (N := 6) hx hb hg gi_P hown hK hP k he rfl 2 (by decide) (hg _ gw_57) (fun _ h9 => h9) rfl d_P_isCrumb_1 ?_
  refine lv_if_ne (tgt := 19) hx hb d_P_isCrumb_4 (by decide) (fun c_4 => ?_) (fun c_4 => ?_)
  · refine lv_iconst (v := 0) hx hb d_P_isCrumb_19 (by decide) ?_
    exact W.zret (v := 0) hx hb hr rfl (fun t ht hW => ⟨_, rfl, (by simp [isCr, bI_n0.mp c_4, bI]), ht⟩) (fun q h => nomatch h) d_P_isCrumb_20
  · refine lv_aload_n hx hb d_P_isCrumb_7 rfl (lv_at hl 0 rfl) ?_
    refine va_get (D := D) (ci := 1) (v := .int (nI x.2.2.1)) (C := R_P) (T := F_P) (N := 6) hx hb hg gi_P hown hK hP k he rfl 1 (by decide) (hg _ gw_55) (fun _ h9 => h9) rfl d_P_isCrumb_8 ?_
    refine lv_iconst (v := 2) hx hb d_P_isCrumb_11 (by decide) ?_
    refine lv_icmp_gt (tgt := 19) hx hb d_P_isCrumb_12 (by decide) (fun c_12 => ?_) (fun c_12 => ?_)
    · refine lv_iconst (v := 0) hx hb d_P_isCrumb_19 (by decide) ?_
      exact W.zret (v := 0) hx hb hr rfl (fun t ht hW => ⟨_, rfl, (by have h := (nI_ltI (a := 2) (by decide) hn).mp c_12; simp [isCr, bI_0.mp c_4, bI, Nat.not_le.mpr h]), ht⟩) (fun q h => nomatch h) d_P_isCrumb_20
    · refine lv_iconst (v := 1) hx hb d_P_isCrumb_15 (by decide) ?_
      refine lv_goto (tgt := 20) hx hb d_P_isCrumb_16 (by decide) ?_
      exact W.zret (v := 1) hx hb hr rfl (fun t ht hW => ⟨_, rfl, (by have h := Nat.not_lt.mp (fun h => c_12 ((nI_ltI (a := 2) (by decide) hn).mpr h)); simp [isCr, bI_0.mp c_4, bI, h]), ht⟩) (fun q h => nomatch h) d_P_isCrumb_20
set_option maxHeartbeats 4000000 in
set_option maxRecDepth 100000 in
theorem c_P_isFreeForTaking (l : Launch) (D : va_G) (ty : tyL) (ws : va_W) (k : Nat) (x : AP) (nx : Option Nat) (he : ws[k]? = some (pcell x nx)) (hn : x.2.2.1 < 2 ^ 31) : Met l y_P_isFreeForTaking (Cond.code y_P_isFreeForTaking b_P_isFreeForTaking 1 (some .boolean) :: GW) ({ frames := 0, cells := 0, slots := 0, locals := 0 }) (va_Pc [.ref x.1] (at0 D ty ws)) (vp_Si (fun r => r = bI (isFT x))) 0 0 (fun _ => False) := by
  refine Met.ofW (cc := b_P_isFreeForTaking) (maxL := 1) (ret := (some .boolean)) (by decide) rfl ?_
  intro p e s m args below meth c s₁ B hml hv
  obtain ⟨rfl, hP, hK, hN⟩ := hv
  have hx := B.exec
  have hb := B.bytes
  have hr := B.returns
  have hg : ∀ w ∈ GW, w.before _ s = true := fun w h => atoms_spec (ws := Cond.code y_P_isFreeForTaking b_P_isFreeForTaking 1 (some .boolean) :: GW) B.pre w (List.mem_cons_of_mem _ h)
  have hown : s.vm.findClass R_P = some m.cls := findClass_of_methodNamed B.named
  have hlocks := B.notSynchronized
  have hl := lv_entry ([.ref x.1]) (n := 1) (Nat.le_of_ble_eq_true rfl)
  rw [lg_entry_eq]
  generalize (lg_sl ([.ref x.1]) ++ List.replicate (1 - (lg_sl ([.ref x.1])).length) Slot.unset).toArray = ls at hl ⊢
  replace hl : lv_has ls 1 [(0, .ref x.1)] := hl
  refine lv_aload_n hx hb d_P_isFreeForTaking_0 rfl (lv_at hl 0 rfl) ?_
  refine va_get (D := D) (ci := 1) (v := .int (bI x.2.2.2.1)) (C := R_P) (T := F_P) (N := 6) hx hb hg gi_P hown hK hP k he rfl 2 (by decide) (hg _ gw_57) (fun _ h9 => h9) rfl d_P_isFreeForTaking_1 ?_
  refine lv_if_ne (tgt := 19) hx hb d_P_isFreeForTaking_4 (by decide) (fun c_4 => ?_) (fun c_4 => ?_)
  · refine lv_iconst (v := 0) hx hb d_P_isFreeForTaking_19 (by decide) ?_
    exact W.zret (v := 0) hx hb hr rfl (fun t ht hW => ⟨_, rfl, (by simp [isFT, bI_n0.mp c_4, bI]), ht⟩) (fun q h => nomatch h) d_P_isFreeForTaking_20
  · refine lv_aload_n hx hb d_P_isFreeForTaking_7 rfl (lv_at hl 0 rfl) ?_
    refine va_get (D := D) (ci := 1) (v := .int (nI x.2.2.1)) (C := R_P) (T := F_P) (N := 6) hx hb hg gi_P hown hK hP k he rfl 1 (by decide) (hg _ gw_55) (fun _ h9 => h9) rfl d_P_isFreeForTaking_8 ?_
    refine lv_iconst (v := 2) hx hb d_P_isFreeForTaking_11 (by decide) ?_
    refine lv_icmp_le (tgt := 19) hx hb d_P_isFreeForTaking_12 (by decide) (fun c_12 => ?_) (fun c_12 => ?_)
    · refine lv_iconst (v := 0) hx hb d_P_isFreeForTaking_19 (by decide) ?_
      exact W.zret (v := 0) hx hb hr rfl (fun t ht hW => ⟨_, rfl, (by have h := (nI_leI (b := 2) hn (by decide)).mp c_12; simp [isFT, bI_0.mp c_4, bI, Nat.not_lt.mpr h]), ht⟩) (fun q h => nomatch h) d_P_isFreeForTaking_20
    · refine lv_iconst (v := 1) hx hb d_P_isFreeForTaking_15 (by decide) ?_
      refine lv_goto (tgt := 20) hx hb d_P_isFreeForTaking_16 (by decide) ?_
      exact W.zret (v := 1) hx hb hr rfl (fun t ht hW => ⟨_, rfl, (by have h := Nat.not_le.mp (fun h => c_12 ((nI_leI (b := 2) hn (by decide)).mpr h)); simp [isFT, bI_0.mp c_4, bI, h]), ht⟩) (fun q h => nomatch h) d_P_isFreeForTaking_20
set_option maxHeartbeats 4000000 in
set_option maxRecDepth 100000 in
theorem c_P_isKeptBySweep (l : Launch) (D : va_G) (ty : tyL) (ws : va_W) (k : Nat) (x : AP) (nx : Option Nat) (he : ws[k]? = some (pcell x nx)) : Met l y_P_isKeptBySweep (Cond.code y_P_isKeptBySweep b_P_isKeptBySweep 1 (some .boolean) :: GW) ({ frames := 0, cells := 0, slots := 0, locals := 0 }) (va_Pc [.ref x.1] (at0 D ty ws)) (vp_Si (fun r => r = bI (isKp x))) 0 0 (fun _ => False) := by
  refine Met.ofW (cc := b_P_isKeptBySweep) (maxL := 1) (ret := (some .boolean)) (by decide) rfl ?_
  intro p e s m args below meth c s₁ B hml hv
  obtain ⟨rfl, hP, hK, hN⟩ := hv
  have hx := B.exec
  have hb := B.bytes
  have hr := B.returns
  have hg : ∀ w ∈ GW, w.before _ s = true := fun w h => atoms_spec (ws := Cond.code y_P_isKeptBySweep b_P_isKeptBySweep 1 (some .boolean) :: GW) B.pre w (List.mem_cons_of_mem _ h)
  have hown : s.vm.findClass R_P = some m.cls := findClass_of_methodNamed B.named
  have hlocks := B.notSynchronized
  have hl := lv_entry ([.ref x.1]) (n := 1) (Nat.le_of_ble_eq_true rfl)
  rw [lg_entry_eq]
  generalize (lg_sl ([.ref x.1]) ++ List.replicate (1 - (lg_sl ([.ref x.1])).length) Slot.unset).toArray = ls at hl ⊢
  replace hl : lv_has ls 1 [(0, .ref x.1)] := hl
  refine lv_aload_n hx hb d_P_isKeptBySweep_0 rfl (lv_at hl 0 rfl) ?_
  refine va_get (D := D) (ci := 1) (v := .int (bI x.2.2.2.1)) (C := R_P) (T := F_P) (N := 6) hx hb hg gi_P hown hK hP k he rfl 2 (by decide) (hg _ gw_57) (fun _ h9 => h9) rfl d_P_isKeptBySweep_1 ?_
  refine lv_if_eq (tgt := 18) hx hb d_P_isKeptBySweep_4 (by decide) (fun c_4 => ?_) (fun c_4 => ?_)
  · refine lv_iconst (v := 0) hx hb d_P_isKeptBySweep_18 (by decide) ?_
    exact W.zret (v := 0) hx hb hr rfl (fun t ht hW => ⟨_, rfl, (by simp [isKp, bI_0.mp c_4, bI]), ht⟩) (fun q h => nomatch h) d_P_isKeptBySweep_19
  · refine lv_aload_n hx hb d_P_isKeptBySweep_7 rfl (lv_at hl 0 rfl) ?_
    refine va_get (D := D) (ci := 1) (v := .int (bI x.2.2.2.2.1)) (C := R_P) (T := F_P) (N := 6) hx hb hg gi_P hown hK hP k he rfl 3 (by decide) (hg _ gw_60) (fun _ h9 => h9) rfl d_P_isKeptBySweep_8 ?_
    refine lv_if_eq (tgt := 18) hx hb d_P_isKeptBySweep_11 (by decide) (fun c_11 => ?_) (fun c_11 => ?_)
    · refine lv_iconst (v := 0) hx hb d_P_isKeptBySweep_18 (by decide) ?_
      exact W.zret (v := 0) hx hb hr rfl (fun t ht hW => ⟨_, rfl, (by simp [isKp, bI_0.mp c_11, bI]), ht⟩) (fun q h => nomatch h) d_P_isKeptBySweep_19
    · refine lv_iconst (v := 1) hx hb d_P_isKeptBySweep_14 (by decide) ?_
      refine lv_goto (tgt := 19) hx hb d_P_isKeptBySweep_15 (by decide) ?_
      exact W.zret (v := 1) hx hb hr rfl (fun t ht hW => ⟨_, rfl, (by simp [isKp, bI_n0.mp c_4, bI_n0.mp c_11, bI]), ht⟩) (fun q h => nomatch h) d_P_isKeptBySweep_19
end
section
set_option maxHeartbeats 4000000 in
set_option maxRecDepth 100000 in
theorem c_S_isTakenBefore (l : Launch) (D : va_G) (ty : tyL) (ws : va_W) (i j : Nat) (x y : AP) (nx ny : Option Nat) (hi : ws[i]? = some (pcell x nx)) (hj : ws[j]? = some (pcell y ny)) (h1 : x.2.2.1 < 2 ^ 31) (h2 : y.2.2.1 < 2 ^ 31) (h3 : x.2.2.2.2.2 < 2 ^ 63) (h4 : y.2.2.2.2.2 < 2 ^ 63) : Met l y_S_isTakenBefore (Cond.code y_S_isTakenBefore b_S_isTakenBefore 2 (some .boolean) :: GW) ({ frames := 0, cells := 0, slots := 0, locals := 0 }) (va_Pc [.ref x.1, .ref y.1] (at0 D ty ws)) (vp_Si (fun r => r = bI (befo x y))) 0 0 (fun _ => False) := by
  refine Met.ofW (cc := b_S_isTakenBefore) (maxL := 2) (ret := (some .boolean)) (by decide) rfl ?_
  intro p e s m args below meth c s₁ B hml hv
  obtain ⟨rfl, hP, hK, hN⟩ := hv
  have hx := B.exec
  have hb := B.bytes
  have hr := B.returns
  have hg : ∀ w ∈ GW, w.before _ s = true := fun w h => atoms_spec (ws := Cond.code y_S_isTakenBefore b_S_isTakenBefore 2 (some .boolean) :: GW) B.pre w (List.mem_cons_of_mem _ h)
  have hown : s.vm.findClass R_S = some m.cls := findClass_of_methodNamed B.named
  have hlocks := B.notSynchronized
  have hl := lv_entry ([.ref x.1, .ref y.1]) (n := 2) (Nat.le_of_ble_eq_true rfl)
  rw [lg_entry_eq]
  generalize (lg_sl ([.ref x.1, .ref y.1]) ++ List.replicate (2 - (lg_sl ([.ref x.1, .ref y.1])).length) Slot.unset).toArray = ls at hl ⊢
  replace hl : lv_has ls 2 [(0, .ref x.1), (1, .ref y.1)] := hl
  refine lv_aload_n hx hb d_S_isTakenBefore_0 rfl (lv_at hl 0 rfl) ?_
  refine va_getN (D := D) (ci := 1) (v := .int (nI x.2.2.1)) (C := R_P) (T := F_P) (N := 6) hx hb hg gi_P hown hK hP i hi rfl 1 (by decide) (va_Nw.use rfl (hN.1 (60, "size", "I") (by decide))) (fun _ h9 => h9) rfl d_S_isTakenBefore_1 ?_
  refine lv_aload_n hx hb d_S_isTakenBefore_4 rfl (lv_at hl 1 rfl) ?_
  refine va_getN (D := D) (ci := 1) (v := .int (nI y.2.2.1)) (C := R_P) (T := F_P) (N := 6) hx hb hg gi_P hown hK hP j hj rfl 1 (by decide) (va_Nw.use rfl (hN.1 (60, "size", "I") (by decide))) (fun _ h9 => h9) rfl d_S_isTakenBefore_5 ?_
  refine lv_icmp_eq (tgt := 28) hx hb d_S_isTakenBefore_8 (by decide) (fun c_8 => ?_) (fun c_8 => ?_)
  · refine lv_aload_n hx hb d_S_isTakenBefore_28 rfl (lv_at hl 0 rfl) ?_
    refine va_getN (D := D) (ci := 1) (v := .long (lN x.2.2.2.2.2)) (C := R_P) (T := F_P) (N := 6) hx hb hg gi_P hown hK hP i hi rfl 4 (by decide) (va_Nw.use rfl (hN.1 (114, "freedAt", "J") (by decide))) (fun _ h9 => h9) rfl d_S_isTakenBefore_29 ?_
    refine lv_aload_n hx hb d_S_isTakenBefore_32 rfl (lv_at hl 1 rfl) ?_
    refine va_getN (D := D) (ci := 1) (v := .long (lN y.2.2.2.2.2)) (C := R_P) (T := F_P) (N := 6) hx hb hg gi_P hown hK hP j hj rfl 4 (by decide) (va_Nw.use rfl (hN.1 (114, "freedAt", "J") (by decide))) (fun _ h9 => h9) rfl d_S_isTakenBefore_33 ?_
    refine W.lcmp hx hb d_S_isTakenBefore_36 ?_
    refine lv_if_le (tgt := 44) hx hb d_S_isTakenBefore_37 (by decide) (fun c_37 => ?_) (fun c_37 => ?_)
    · refine lv_iconst (v := 0) hx hb d_S_isTakenBefore_44 (by decide) ?_
      exact W.zret (v := 0) hx hb hr rfl (fun t ht hW => ⟨_, rfl, (by have h := (pk_lLE h3 h4).mp ((lg_cmp_le _ _).mp c_37); simp [befo, (nI_eq h1 h2).mp c_8, Nat.not_lt.mpr h, bI]), ht⟩) (fun q h => nomatch h) d_S_isTakenBefore_45
    · refine lv_iconst (v := 1) hx hb d_S_isTakenBefore_40 (by decide) ?_
      refine lv_goto (tgt := 45) hx hb d_S_isTakenBefore_41 (by decide) ?_
      exact W.zret (v := 1) hx hb hr rfl (fun t ht hW => ⟨_, rfl, (by have h := Nat.not_le.mp (fun h => c_37 ((lg_cmp_le _ _).mpr ((pk_lLE h3 h4).mpr h))); simp [befo, (nI_eq h1 h2).mp c_8, h, bI]), ht⟩) (fun q h => nomatch h) d_S_isTakenBefore_45
  · refine lv_aload_n hx hb d_S_isTakenBefore_11 rfl (lv_at hl 0 rfl) ?_
    refine va_getN (D := D) (ci := 1) (v := .int (nI x.2.2.1)) (C := R_P) (T := F_P) (N := 6) hx hb hg gi_P hown hK hP i hi rfl 1 (by decide) (va_Nw.use rfl (hN.1 (60, "size", "I") (by decide))) (fun _ h9 => h9) rfl d_S_isTakenBefore_12 ?_
    refine lv_aload_n hx hb d_S_isTakenBefore_15 rfl (lv_at hl 1 rfl) ?_
    refine va_getN (D := D) (ci := 1) (v := .int (nI y.2.2.1)) (C := R_P) (T := F_P) (N := 6) hx hb hg gi_P hown hK hP j hj rfl 1 (by decide) (va_Nw.use rfl (hN.1 (60, "size", "I") (by decide))) (fun _ h9 => h9) rfl d_S_isTakenBefore_16 ?_
    refine lv_icmp_ge (tgt := 26) hx hb d_S_isTakenBefore_19 (by decide) (fun c_19 => ?_) (fun c_19 => ?_)
    · refine lv_iconst (v := 0) hx hb d_S_isTakenBefore_26 (by decide) ?_
      exact W.zret (v := 0) hx hb hr rfl (fun t ht hW => ⟨_, rfl, (by have h := (nI_leI h2 h1).mp c_19; simp [befo, show ¬ x.2.2.1 = y.2.2.1 from (fun h => c_8 (by rw [h])), Nat.not_lt.mpr h, bI]), ht⟩) (fun q h => nomatch h) d_S_isTakenBefore_27
    · refine lv_iconst (v := 1) hx hb d_S_isTakenBefore_22 (by decide) ?_
      refine lv_goto (tgt := 27) hx hb d_S_isTakenBefore_23 (by decide) ?_
      exact W.zret (v := 1) hx hb hr rfl (fun t ht hW => ⟨_, rfl, (by have h := Nat.not_le.mp (fun h => c_19 ((nI_leI h2 h1).mpr h)); simp [befo, show ¬ x.2.2.1 = y.2.2.1 from (fun h => c_8 (by rw [h])), h, bI]), ht⟩) (fun q h => nomatch h) d_S_isTakenBefore_27
set_option maxHeartbeats 4000000 in
set_option maxRecDepth 100000 in
theorem c_S_pieceAt (l : Launch) (D : va_G) (ty : tyL) (h cn : Nat) (ha : Option Nat) (f : Nat) (v w z : Int32) (L : List AP) (a : Int32) : Met l y_S_pieceAt (Cond.code y_S_pieceAt b_S_pieceAt 3 (some (.object "SweepHand$Piece")) :: GW) ({ frames := 0, cells := 0, slots := 0, locals := 0 }) (va_Pc [.ref h, .int a] (at0 D ty (scell h cn (hdO L none) ha f v w z :: chG L none))) (va_Sq (fun r => r = (pAt a L).map Prod.fst)) 0 0 (fun _ => False) := by
  refine Met.ofW (cc := b_S_pieceAt) (maxL := 3) (ret := (some (.object "SweepHand$Piece"))) (by decide) rfl ?_
  intro p e s m args below meth c s₁ B hml hv
  obtain ⟨rfl, hP, hK, hN⟩ := hv
  have hx := B.exec
  have hb := B.bytes
  have hr := B.returns
  have hg : ∀ w ∈ GW, w.before _ s = true := fun w h => atoms_spec (ws := Cond.code y_S_pieceAt b_S_pieceAt 3 (some (.object "SweepHand$Piece")) :: GW) B.pre w (List.mem_cons_of_mem _ h)
  have hown : s.vm.findClass R_S = some m.cls := findClass_of_methodNamed B.named
  have hlocks := B.notSynchronized
  have hl := lv_entry ([.ref h, .int a]) (n := 3) (Nat.le_of_ble_eq_true rfl)
  rw [lg_entry_eq]
  generalize (lg_sl ([.ref h, .int a]) ++ List.replicate (3 - (lg_sl ([.ref h, .int a])).length) Slot.unset).toArray = ls at hl ⊢
  replace hl : lv_has ls 3 [(0, .ref h), (1, .int a)] := hl
  refine lv_aload_n hx hb d_S_pieceAt_0 rfl (lv_at hl 0 rfl) ?_
  refine va_get (D := D) (ci := 0) (v := va_rf (hdO L none)) (C := R_S) (T := F_S) (N := 7) hx hb hg gi_S hown hK hP 0 rfl rfl 1 (by decide) (hg _ gw_82) (fun _ h9 => h9) rfl d_S_pieceAt_1 ?_
  refine sv_astore_n (lv' := [(2, va_rf (hdO L none)), (0, .ref h), (1, .int a)]) hx hb d_S_pieceAt_4 rfl hl (by decide) rfl (fun ls hl => ?_)
  obtain ⟨suf, hs⟩ : ∃ suf, suf = L := ⟨_, rfl⟩
  replace hl := lv_sub hl [0, 1, 2] rfl
  replace hl : lv_has ls 3 [(2, va_rf (hdO L none)), (0, .ref h), (1, .int a)] := hl
  replace hl : lv_has ls 3 [(2, va_rf (hdO suf none)), (0, .ref h), (1, .int a)] := by rw [hs]; exact hl
  have hpre : ∃ pre, L = pre ++ suf := ⟨[], hs.symm⟩
  have hq : pAt a L = pAt a suf := by rw [hs]
  clear hs
  revert hq; revert hpre; revert hl; revert ls
  induction suf with
  | nil =>
    intro ls hl hpre hq
    replace hl : lv_has ls 3 [(2, .null), (0, .ref h), (1, .int a)] := hl
    refine lv_aload_nN hx hb d_S_pieceAt_5 rfl (lv_at hl 0 rfl) ?_
    refine lv_ifnullN (tgt := 35) hx hb d_S_pieceAt_6 (by decide) ?_
    refine lv_null hx hb d_S_pieceAt_35 ?_
    exact W.aret (v := .null) hx hb hr (Or.inl ⟨_, rfl⟩) (Or.inl rfl) (fun t ht hW => ⟨none, rfl, (by rw [hq]; rfl), ht⟩) (fun q h => nomatch h) d_S_pieceAt_36
  | cons x suf ih =>
    intro ls hl hpre hq
    replace hl : lv_has ls 3 [(2, .ref x.1), (0, .ref h), (1, .int a)] := hl
    obtain ⟨pre, hpre⟩ := hpre
    have he := chG_at (scell h cn (hdO L none) ha f v w z) pre x suf none
    rw [← hpre] at he
    refine lv_aload_n hx hb d_S_pieceAt_5 rfl (lv_at hl 0 rfl) ?_
    refine lv_ifnull hx hb d_S_pieceAt_6 ?_
    refine lv_aload_n hx hb d_S_pieceAt_9 rfl (lv_at hl 0 rfl) ?_
    refine va_getN (D := D) (ci := 1) (v := .int (nI x.2.1)) (C := R_P) (T := F_P) (N := 6) hx hb hg gi_P hown hK hP (pre.length + 1) he rfl 0 (by decide) (va_Nw.use rfl (hN.1 (47, "begin", "I") (by decide))) (fun _ h9 => h9) rfl d_S_pieceAt_10 ?_
    refine lv_iload_n hx hb d_S_pieceAt_13 rfl (lv_at hl 2 rfl) ?_
    refine lv_icmp_gt (tgt := 35) hx hb d_S_pieceAt_14 (by decide) (fun c_14 => ?_) (fun c_14 => ?_)
    · refine lv_null hx hb d_S_pieceAt_35 ?_
      exact W.aret (v := .null) hx hb hr (Or.inl ⟨_, rfl⟩) (Or.inl rfl) (fun t ht hW => ⟨none, rfl, (by rw [hq, pAt, if_neg (Int32.not_le.mpr c_14)]; rfl), ht⟩) (fun q h => nomatch h) d_S_pieceAt_36
    · refine lv_aload_n hx hb d_S_pieceAt_17 rfl (lv_at hl 0 rfl) ?_
      refine va_getN (D := D) (ci := 1) (v := .int (nI x.2.1)) (C := R_P) (T := F_P) (N := 6) hx hb hg gi_P hown hK hP (pre.length + 1) he rfl 0 (by decide) (va_Nw.use rfl (hN.1 (47, "begin", "I") (by decide))) (fun _ h9 => h9) rfl d_S_pieceAt_18 ?_
      refine lv_iload_n hx hb d_S_pieceAt_21 rfl (lv_at hl 2 rfl) ?_
      refine lv_icmp_ne (tgt := 27) hx hb d_S_pieceAt_22 (by decide) (fun c_22 => ?_) (fun c_22 => ?_)
      · refine lv_aload_n hx hb d_S_pieceAt_27 rfl (lv_at hl 0 rfl) ?_
        refine va_getN (D := D) (ci := 1) (v := va_rf (hdO suf none)) (C := R_P) (T := F_P) (N := 6) hx hb hg gi_P hown hK hP (pre.length + 1) he rfl 5 (by decide) (va_Nw.use rfl (hN.1 (69, "next", "LSweepHand$Piece;") (by decide))) (fun _ h9 => h9) rfl d_S_pieceAt_28 ?_
        refine sv_astore_n (lv' := [(2, va_rf (hdO suf none)), (0, .ref h), (1, .int a)]) hx hb d_S_pieceAt_31 rfl hl (by decide) rfl (fun ls hl => ?_)
        refine lv_goto (tgt := 5) hx hb d_S_pieceAt_32 (by decide) ?_
        exact ih ls (lv_sub hl [0, 1, 2] rfl) ⟨pre ++ [x], by rw [hpre, List.append_assoc]; rfl⟩ (by rw [hq, pAt, if_pos (Int32.not_lt.mp c_14), if_neg c_22])
      · refine lv_aload_n hx hb d_S_pieceAt_25 rfl (lv_at hl 0 rfl) ?_
        exact W.aret (v := .ref x.1) hx hb hr (Or.inl ⟨_, rfl⟩) (Or.inr ⟨_, rfl⟩) (fun t ht hW => ⟨(some x.1), rfl, (by rw [hq, pAt, if_pos (Int32.not_lt.mp c_14), if_pos c_22]; rfl), ht⟩) (fun q h => nomatch h) d_S_pieceAt_26
set_option maxHeartbeats 4000000 in
set_option maxRecDepth 100000 in
theorem c_S_whatIsTakenFor (l : Launch) (D : va_G) (ty : tyL) (h cn : Nat) (ha : Option Nat) (f : Nat) (v w z : Int32) (L : List AP) (n : Nat) (hBd : Bd L) (hn : n < 2 ^ 31) : Met l y_S_whatIsTakenFor (Cond.code y_S_whatIsTakenFor b_S_whatIsTakenFor 4 (some (.object "SweepHand$Piece")) :: GW) ({ frames := 1, cells := 0, slots := 0, locals := 21 }) (va_Pc [.ref h, .int (nI n)] (at0 D ty (scell h cn (hdO L none) ha f v w z :: chG L none))) (va_Sq (fun r => r = (wtf n L none).map Prod.fst)) 0 0 (fun _ => False) := by
  refine Met.ofW (cc := b_S_whatIsTakenFor) (maxL := 4) (ret := (some (.object "SweepHand$Piece"))) (by decide) rfl ?_
  intro p e s m args below meth c s₁ B hml hv
  obtain ⟨rfl, hP, hK, hN⟩ := hv
  have hx := B.exec
  have hb := B.bytes
  have hr := B.returns
  have hg : ∀ w ∈ GW, w.before _ s = true := fun w h => atoms_spec (ws := Cond.code y_S_whatIsTakenFor b_S_whatIsTakenFor 4 (some (.object "SweepHand$Piece")) :: GW) B.pre w (List.mem_cons_of_mem _ h)
  have hown : s.vm.findClass R_S = some m.cls := findClass_of_methodNamed B.named
  have hlocks := B.notSynchronized
  have hl := lv_entry ([.ref h, .int (nI n)]) (n := 4) (Nat.le_of_ble_eq_true rfl)
  rw [lg_entry_eq]
  generalize (lg_sl ([.ref h, .int (nI n)]) ++ List.replicate (4 - (lg_sl ([.ref h, .int (nI n)])).length) Slot.unset).toArray = ls at hl ⊢
  replace hl : lv_has ls 4 [(0, .ref h), (1, .int (nI n))] := hl
  refine lv_null hx hb d_S_whatIsTakenFor_0 ?_
  refine lv_astore_nN (lv' := [(2, .null), (0, .ref h), (1, .int (nI n))]) hx hb d_S_whatIsTakenFor_1 rfl hl (by decide) rfl (fun ls hl => ?_)
  refine lv_aload_n hx hb d_S_whatIsTakenFor_2 rfl (lv_at hl 1 rfl) ?_
  refine va_get (D := D) (ci := 0) (v := va_rf (hdO L none)) (C := R_S) (T := F_S) (N := 7) hx hb hg gi_S hown hK hP 0 rfl rfl 1 (by decide) (hg _ gw_82) (fun _ h9 => h9) rfl d_S_whatIsTakenFor_3 ?_
  refine sv_astore_n (lv' := [(3, va_rf (hdO L none)), (2, .null), (0, .ref h), (1, .int (nI n))]) hx hb d_S_whatIsTakenFor_6 rfl hl (by decide) rfl (fun ls hl => ?_)
  obtain ⟨acc, hacc⟩ : ∃ acc : Option AP, acc = none := ⟨_, rfl⟩
  obtain ⟨suf, hs⟩ : ∃ suf, suf = L := ⟨_, rfl⟩
  replace hl := lv_sub hl [0, 1, 2, 3] rfl
  replace hl : lv_has ls 4 [(3, va_rf (hdO L none)), (2, .null), (0, .ref h), (1, .int (nI n))] := hl
  replace hl : lv_has ls 4 [(3, va_rf (hdO suf none)), (2, va_rf (acc.map Prod.fst)), (0, .ref h), (1, .int (nI n))] := by rw [hs, hacc]; exact hl
  have hpre : ∃ pre, L = pre ++ suf := ⟨[], hs.symm⟩
  have hq : wtf n L none = wtf n suf acc := by rw [hs, hacc]
  have hm : ∀ y, acc = some y → y ∈ L := by rw [hacc]; intro y h; cases h
  clear hs hacc
  revert hm; revert hq; revert hpre; revert hl; revert acc; revert ls
  induction suf with
  | nil =>
    intro ls acc hl hpre hq hm
    replace hl : lv_has ls 4 [(3, .null), (2, va_rf (acc.map Prod.fst)), (0, .ref h), (1, .int (nI n))] := hl
    refine lv_aload_nN hx hb d_S_whatIsTakenFor_7 rfl (lv_at hl 0 rfl) ?_
    refine lv_ifnullN (tgt := 48) hx hb d_S_whatIsTakenFor_8 (by decide) ?_
    refine sv_aload_n hx hb d_S_whatIsTakenFor_48 rfl (lv_at hl 1 rfl) ?_
    exact W.aret (v := va_rf (acc.map Prod.fst)) hx hb hr (Or.inl ⟨_, rfl⟩) (va_rf_or _) (fun t ht hW => ⟨(acc.map Prod.fst), rfl, (by rw [hq]; rfl), ht⟩) (fun q h => nomatch h) d_S_whatIsTakenFor_49
  | cons x suf ih =>
    intro ls acc hl hpre hq hm
    replace hl : lv_has ls 4 [(3, .ref x.1), (2, va_rf (acc.map Prod.fst)), (0, .ref h), (1, .int (nI n))] := hl
    obtain ⟨pre, hpre⟩ := hpre
    have he := chG_at (scell h cn (hdO L none) ha f v w z) pre x suf none
    rw [← hpre] at he
    have hxL : x ∈ L := by rw [hpre]; simp
    obtain ⟨hb1, hb2, hb3⟩ := hBd x hxL
    refine lv_aload_n hx hb d_S_whatIsTakenFor_7 rfl (lv_at hl 0 rfl) ?_
    refine lv_ifnull hx hb d_S_whatIsTakenFor_8 ?_
    refine lv_aload_n hx hb d_S_whatIsTakenFor_11 rfl (lv_at hl 0 rfl) ?_
    refine vp_callSi (va_runVN (As := []) (rest := []) ⟨hx, hb, hml, hown, hg⟩ (c_P_isFreeForTaking l D ty _ (pre.length + 1) x (hdO suf none) he (by omega)) ⟨va_cnB 0 hg (gw_c gw_225) rfl rfl rfl (hN.2.1 (127, y_P_isFreeForTaking) (by decide +kernel)) (hg _ gw_27) (by decide +kernel) ⟨Nat.le_of_ble_eq_true rfl, Nat.le_of_ble_eq_true rfl⟩, hg _ gw_224, hg _ gw_7⟩ (pre_roV hP hK hN (ci := 1) rfl he) rfl rfl hl.1 rfl (lv_room (Nat.le_of_ble_eq_true rfl)) d_S_whatIsTakenFor_12 ⟨Nat.le_of_ble_eq_true rfl, Nat.le_of_ble_eq_true rfl⟩).run (fun r1 hr1 => ?_)
    refine lv_if_eq (tgt := 40) hx hb d_S_whatIsTakenFor_15 (by decide) (fun c_15 => ?_) (fun c_15 => ?_)
    · refine lv_aload_n hx hb d_S_whatIsTakenFor_40 rfl (lv_at hl 0 rfl) ?_
      refine va_getN (D := D) (ci := 1) (v := va_rf (hdO suf none)) (C := R_P) (T := F_P) (N := 6) hx hb hg gi_P hown hK hP (pre.length + 1) he rfl 5 (by decide) (va_Nw.use rfl (hN.1 (69, "next", "LSweepHand$Piece;") (by decide))) (fun _ h9 => h9) rfl d_S_whatIsTakenFor_41 ?_
      refine sv_astore_n (lv' := [(3, va_rf (hdO suf none)), (2, va_rf (acc.map Prod.fst)), (0, .ref h), (1, .int (nI n))]) hx hb d_S_whatIsTakenFor_44 rfl hl (by decide) (by generalize (acc.map Prod.fst) = o9; cases o9 <;> rfl) (fun ls hl => ?_)
      refine lv_goto (tgt := 7) hx hb d_S_whatIsTakenFor_45 (by decide) ?_
      exact ih ls acc (lv_sub hl [0, 1, 2, 3] rfl) ⟨pre ++ [x], by rw [hpre, List.append_assoc]; rfl⟩ (by rw [hq, wtf, if_neg (by simp [wtfC, show isFT x = false from bI_0.mp (by rw [← hr1]; exact c_15)])]) hm
    · refine lv_aload_n hx hb d_S_whatIsTakenFor_18 rfl (lv_at hl 0 rfl) ?_
      refine va_getN (D := D) (ci := 1) (v := .int (nI x.2.2.1)) (C := R_P) (T := F_P) (N := 6) hx hb hg gi_P hown hK hP (pre.length + 1) he rfl 1 (by decide) (va_Nw.use rfl (hN.1 (60, "size", "I") (by decide))) (fun _ h9 => h9) rfl d_S_whatIsTakenFor_19 ?_
      refine lv_iload_n hx hb d_S_whatIsTakenFor_22 rfl (lv_at hl 3 rfl) ?_
      refine lv_icmp_lt (tgt := 40) hx hb d_S_whatIsTakenFor_23 (by decide) (fun c_23 => ?_) (fun c_23 => ?_)
      · refine lv_aload_n hx hb d_S_whatIsTakenFor_40 rfl (lv_at hl 0 rfl) ?_
        refine va_getN (D := D) (ci := 1) (v := va_rf (hdO suf none)) (C := R_P) (T := F_P) (N := 6) hx hb hg gi_P hown hK hP (pre.length + 1) he rfl 5 (by decide) (va_Nw.use rfl (hN.1 (69, "next", "LSweepHand$Piece;") (by decide))) (fun _ h9 => h9) rfl d_S_whatIsTakenFor_41 ?_
        refine sv_astore_n (lv' := [(3, va_rf (hdO suf none)), (2, va_rf (acc.map Prod.fst)), (0, .ref h), (1, .int (nI n))]) hx hb d_S_whatIsTakenFor_44 rfl hl (by decide) (by generalize (acc.map Prod.fst) = o9; cases o9 <;> rfl) (fun ls hl => ?_)
        refine lv_goto (tgt := 7) hx hb d_S_whatIsTakenFor_45 (by decide) ?_
        exact ih ls acc (lv_sub hl [0, 1, 2, 3] rfl) ⟨pre ++ [x], by rw [hpre, List.append_assoc]; rfl⟩ (by rw [hq, wtf, if_neg (by simp [wtfC, Nat.not_le.mpr ((nI_ltI (by omega) hn).mp c_23)])]) hm
      · rcases acc with _ | y
        · replace hl : lv_has ls 4 [(3, .ref x.1), (2, .null), (0, .ref h), (1, .int (nI n))] := hl
          refine lv_aload_nN hx hb d_S_whatIsTakenFor_26 rfl (lv_at hl 1 rfl) ?_
          refine lv_ifnullN (tgt := 38) hx hb d_S_whatIsTakenFor_27 (by decide) ?_
          refine lv_aload_n hx hb d_S_whatIsTakenFor_38 rfl (lv_at hl 0 rfl) ?_
          refine lv_astore_n (lv' := [(2, .ref x.1), (3, .ref x.1), (0, .ref h), (1, .int (nI n))]) hx hb d_S_whatIsTakenFor_39 rfl hl (by decide) rfl (fun ls hl => ?_)
          refine lv_aload_n hx hb d_S_whatIsTakenFor_40 rfl (lv_at hl 1 rfl) ?_
          refine va_getN (D := D) (ci := 1) (v := va_rf (hdO suf none)) (C := R_P) (T := F_P) (N := 6) hx hb hg gi_P hown hK hP (pre.length + 1) he rfl 5 (by decide) (va_Nw.use rfl (hN.1 (69, "next", "LSweepHand$Piece;") (by decide))) (fun _ h9 => h9) rfl d_S_whatIsTakenFor_41 ?_
          refine sv_astore_n (lv' := [(3, va_rf (hdO suf none)), (2, .ref x.1), (0, .ref h), (1, .int (nI n))]) hx hb d_S_whatIsTakenFor_44 rfl hl (by decide) rfl (fun ls hl => ?_)
          refine lv_goto (tgt := 7) hx hb d_S_whatIsTakenFor_45 (by decide) ?_
          exact ih ls (some x) (lv_sub hl [0, 1, 2, 3] rfl) ⟨pre ++ [x], by rw [hpre, List.append_assoc]; rfl⟩ (by rw [hq, wtf, if_pos (by simp [wtfC, show isFT x = true from bI_n0.mp (by rw [← hr1]; exact c_15), show n ≤ x.2.2.1 from Nat.not_lt.mp (fun h9 => c_23 ((nI_ltI (by omega) hn).mpr h9))])]) (fun y9 h9 => by cases h9; exact hxL)
        · replace hl : lv_has ls 4 [(3, .ref x.1), (2, .ref y.1), (0, .ref h), (1, .int (nI n))] := hl
          have hyL := hm y rfl
          obtain ⟨hy1, hy2, hy3⟩ := hBd y hyL
          obtain ⟨jy, ny, hj⟩ := chG_mem (scell h cn (hdO L none) ha f v w z) none hyL
          refine lv_aload_n hx hb d_S_whatIsTakenFor_26 rfl (lv_at hl 1 rfl) ?_
          refine lv_ifnull hx hb d_S_whatIsTakenFor_27 ?_
          refine lv_aload_n hx hb d_S_whatIsTakenFor_30 rfl (lv_at hl 0 rfl) ?_
          refine lv_aload_n hx hb d_S_whatIsTakenFor_31 rfl (lv_at hl 1 rfl) ?_
          refine vp_callSi (va_runS (As := [.ref x.1, .ref y.1]) (rest := []) ⟨hx, hb, hml, hown, hg⟩ (c_S_isTakenBefore l D ty _ (pre.length + 1) jy x y (hdO suf none) ny he hj (by omega) (by omega) (by omega) (by omega)) (va_cwS 2 hg (gw_S gw_226 gw_227 gw_26 gw_228) rfl rfl rfl (by decide +kernel) ⟨Nat.le_of_ble_eq_true rfl, Nat.le_of_ble_eq_true rfl⟩) (pre_roS hP hK hN) rfl rfl hl.1 rfl (lv_room (Nat.le_of_ble_eq_true rfl)) d_S_whatIsTakenFor_32 ⟨Nat.le_of_ble_eq_true rfl, Nat.le_of_ble_eq_true rfl⟩).run (fun r2 hr2 => ?_)
          refine lv_if_eq (tgt := 40) hx hb d_S_whatIsTakenFor_35 (by decide) (fun c_35 => ?_) (fun c_35 => ?_)
          · refine lv_aload_n hx hb d_S_whatIsTakenFor_40 rfl (lv_at hl 0 rfl) ?_
            refine va_getN (D := D) (ci := 1) (v := va_rf (hdO suf none)) (C := R_P) (T := F_P) (N := 6) hx hb hg gi_P hown hK hP (pre.length + 1) he rfl 5 (by decide) (va_Nw.use rfl (hN.1 (69, "next", "LSweepHand$Piece;") (by decide))) (fun _ h9 => h9) rfl d_S_whatIsTakenFor_41 ?_
            refine sv_astore_n (lv' := [(3, va_rf (hdO suf none)), (2, .ref y.1), (0, .ref h), (1, .int (nI n))]) hx hb d_S_whatIsTakenFor_44 rfl hl (by decide) rfl (fun ls hl => ?_)
            refine lv_goto (tgt := 7) hx hb d_S_whatIsTakenFor_45 (by decide) ?_
            exact ih ls (some y) (lv_sub hl [0, 1, 2, 3] rfl) ⟨pre ++ [x], by rw [hpre, List.append_assoc]; rfl⟩ (by rw [hq, wtf, if_neg (by simp [wtfC, show befo x y = false from bI_0.mp (by rw [← hr2]; exact c_35)])]) hm
          · refine lv_aload_n hx hb d_S_whatIsTakenFor_38 rfl (lv_at hl 0 rfl) ?_
            refine lv_astore_n (lv' := [(2, .ref x.1), (3, .ref x.1), (0, .ref h), (1, .int (nI n))]) hx hb d_S_whatIsTakenFor_39 rfl hl (by decide) rfl (fun ls hl => ?_)
            refine lv_aload_n hx hb d_S_whatIsTakenFor_40 rfl (lv_at hl 1 rfl) ?_
            refine va_getN (D := D) (ci := 1) (v := va_rf (hdO suf none)) (C := R_P) (T := F_P) (N := 6) hx hb hg gi_P hown hK hP (pre.length + 1) he rfl 5 (by decide) (va_Nw.use rfl (hN.1 (69, "next", "LSweepHand$Piece;") (by decide))) (fun _ h9 => h9) rfl d_S_whatIsTakenFor_41 ?_
            refine sv_astore_n (lv' := [(3, va_rf (hdO suf none)), (2, .ref x.1), (0, .ref h), (1, .int (nI n))]) hx hb d_S_whatIsTakenFor_44 rfl hl (by decide) rfl (fun ls hl => ?_)
            refine lv_goto (tgt := 7) hx hb d_S_whatIsTakenFor_45 (by decide) ?_
            exact ih ls (some x) (lv_sub hl [0, 1, 2, 3] rfl) ⟨pre ++ [x], by rw [hpre, List.append_assoc]; rfl⟩ (by rw [hq, wtf, if_pos (by simp [wtfC, show isFT x = true from bI_n0.mp (by rw [← hr1]; exact c_15), show n ≤ x.2.2.1 from Nat.not_lt.mp (fun h9 => c_23 ((nI_ltI (by omega) hn).mpr h9)), show befo x y = true from bI_n0.mp (by rw [← hr2]; exact c_35)])]) (fun y9 h9 => by cases h9; exact hxL)
end
section
theorem pAt_mem {a : Int32} {L : List AP} {x : AP} (h : pAt a L = some x) : x ∈ L ∧ nI x.2.1 = a := by
  induction L with
  | nil => cases h
  | cons y L ih =>
    rw [pAt] at h
    split at h
    · split at h
      · next h2 => cases h; exact ⟨List.mem_cons_self, h2⟩
      · exact ⟨List.mem_cons_of_mem _ (ih h).1, (ih h).2⟩
    · cases h
/-- the pieces tile the cells from d on up to e -/
def Til : Nat → List AP → Nat → Prop
  | d, [], e => d = e
  | d, x :: L, e => x.2.1 = d ∧ 1 ≤ x.2.2.1 ∧ Til (d + x.2.2.1) L e
def hdB : List AP → Nat
  | [] => 0
  | x :: _ => x.2.1
/-- only used pieces are marked -/
def MkU (L : List AP) : Prop := ∀ x ∈ L, x.2.2.2.2.1 = true → x.2.2.2.1 = true
/-- the times of the free pieces -/
def TmO (f : Nat) (L : List AP) : Prop := ∀ x ∈ L, x.2.2.2.1 = false → 1 ≤ x.2.2.2.2.2 ∧ x.2.2.2.2.2 ≤ f
/-- with a sweep no mark before the hand -/
def NoM (p0 s0 : List AP) : Prop := s0 ≠ [] → ∀ x ∈ p0, x.2.2.2.2.1 = false
end
section
set_option maxHeartbeats 4000000 in
set_option maxRecDepth 100000 in
theorem c_S_shareOf (l : Launch) (D : va_G) (ty : tyL) (ws : va_W) (k : Nat) (x : AP) (nx : Option Nat) (he : ws[k]? = some (pcell x nx)) (what : Nat) (hn : x.2.2.1 < 2 ^ 31) (hw : what = 0 ∨ what = 1 ∨ what = 2 ∨ what = 3 ∨ what = 4 ∨ what = 8) : Met l y_S_shareOf (Cond.code y_S_shareOf b_S_shareOf 2 (some .int) :: GW) ({ frames := 1, cells := 0, slots := 0, locals := 20 }) (va_Pc [.ref x.1, .int (nI what)] (at0 D ty ws)) (vp_Si (fun r => r = nI (shr what x))) 0 0 (fun _ => False) := by
  refine Met.ofW (cc := b_S_shareOf) (maxL := 2) (ret := (some .int)) (by decide) rfl ?_
  intro p e s m args below meth c s₁ B hml hv
  obtain ⟨rfl, hP, hK, hN⟩ := hv
  have hx := B.exec
  have hb := B.bytes
  have hr := B.returns
  have hg : ∀ w ∈ GW, w.before _ s = true := fun w h => atoms_spec (ws := Cond.code y_S_shareOf b_S_shareOf 2 (some .int) :: GW) B.pre w (List.mem_cons_of_mem _ h)
  have hown : s.vm.findClass R_S = some m.cls := findClass_of_methodNamed B.named
  have hlocks := B.notSynchronized
  have hl := lv_entry ([.ref x.1, .int (nI what)]) (n := 2) (Nat.le_of_ble_eq_true rfl)
  rw [lg_entry_eq]
  generalize (lg_sl ([.ref x.1, .int (nI what)]) ++ List.replicate (2 - (lg_sl ([.ref x.1, .int (nI what)])).length) Slot.unset).toArray = ls at hl ⊢
  replace hl : lv_has ls 2 [(0, .ref x.1), (1, .int (nI what))] := hl
  refine lv_iload_n hx hb d_S_shareOf_0 rfl (lv_at hl 1 rfl) ?_
  rcases hw with rfl | rfl | rfl | rfl | rfl | rfl
  · refine lv_tableIn (off := 51) (tgt := 52) hx hb d_S_shareOf_1 (by decide +kernel) (by decide +kernel) (by decide +kernel) (by decide) ?_
    refine lv_aload_n hx hb d_S_shareOf_52 rfl (lv_at hl 0 rfl) ?_
    refine va_getN (D := D) (ci := 1) (v := .int (bI x.2.2.2.1)) (C := R_P) (T := F_P) (N := 6) hx hb hg gi_P hown hK hP k he rfl 2 (by decide) (va_Nw.use rfl (hN.1 (37, "used", "Z") (by decide))) (fun _ h9 => h9) rfl d_S_shareOf_53 ?_
    refine lv_if_eq (tgt := 63) hx hb d_S_shareOf_56 (by decide) (fun c_56 => ?_) (fun c_56 => ?_)
    · refine lv_aload_n hx hb d_S_shareOf_63 rfl (lv_at hl 0 rfl) ?_
      refine va_getN (D := D) (ci := 1) (v := .int (nI x.2.2.1)) (C := R_P) (T := F_P) (N := 6) hx hb hg gi_P hown hK hP k he rfl 1 (by decide) (va_Nw.use rfl (hN.1 (60, "size", "I") (by decide))) (fun _ h9 => h9) rfl d_S_shareOf_64 ?_
      exact W.iret (v := (nI x.2.2.1)) hx hb hr (fun t ht hW => ⟨_, rfl, (by simp [shr, show x.2.2.2.1 = false from bI_0.mp c_56]), ht⟩) (fun q h => nomatch h) d_S_shareOf_67
    · refine lv_iconst (v := 0) hx hb d_S_shareOf_59 (by decide) ?_
      refine lv_goto (tgt := 67) hx hb d_S_shareOf_60 (by decide) ?_
      exact W.iret (v := 0) hx hb hr (fun t ht hW => ⟨_, rfl, (by simp [shr, show x.2.2.2.1 = true from bI_n0.mp c_56]; rfl), ht⟩) (fun q h => nomatch h) d_S_shareOf_67
  · refine lv_tableIn (off := 67) (tgt := 68) hx hb d_S_shareOf_1 (by decide +kernel) (by decide +kernel) (by decide +kernel) (by decide) ?_
    refine lv_aload_n hx hb d_S_shareOf_68 rfl (lv_at hl 0 rfl) ?_
    refine vp_callSi (va_runVN (As := []) (rest := []) ⟨hx, hb, hml, hown, hg⟩ (c_P_isCrumb l D ty _ k x nx he hn) ⟨va_cnB 0 hg (gw_c gw_340) rfl rfl rfl (hN.2.1 (145, y_P_isCrumb) (by decide +kernel)) (hg _ gw_27) (by decide +kernel) ⟨Nat.le_of_ble_eq_true rfl, Nat.le_of_ble_eq_true rfl⟩, hg _ gw_339, hg _ gw_15⟩ (pre_roV hP hK hN (ci := 1) rfl he) rfl rfl hl.1 rfl (lv_room (Nat.le_of_ble_eq_true rfl)) d_S_shareOf_69 ⟨Nat.le_of_ble_eq_true rfl, Nat.le_of_ble_eq_true rfl⟩).run (fun r1 hr1 => ?_)
    refine lv_if_eq (tgt := 82) hx hb d_S_shareOf_72 (by decide) (fun c_72 => ?_) (fun c_72 => ?_)
    · refine lv_iconst (v := 0) hx hb d_S_shareOf_82 (by decide) ?_
      exact W.iret (v := 0) hx hb hr (fun t ht hW => ⟨_, rfl, (by simp [shr, show isCr x = false from bI_0.mp (by rw [← hr1]; exact c_72)]; rfl), ht⟩) (fun q h => nomatch h) d_S_shareOf_83
    · refine lv_aload_n hx hb d_S_shareOf_75 rfl (lv_at hl 0 rfl) ?_
      refine va_getN (D := D) (ci := 1) (v := .int (nI x.2.2.1)) (C := R_P) (T := F_P) (N := 6) hx hb hg gi_P hown hK hP k he rfl 1 (by decide) (va_Nw.use rfl (hN.1 (60, "size", "I") (by decide))) (fun _ h9 => h9) rfl d_S_shareOf_76 ?_
      refine lv_goto (tgt := 83) hx hb d_S_shareOf_79 (by decide) ?_
      exact W.iret (v := (nI x.2.2.1)) hx hb hr (fun t ht hW => ⟨_, rfl, (by simp [shr, show isCr x = true from bI_n0.mp (by rw [← hr1]; exact c_72)]), ht⟩) (fun q h => nomatch h) d_S_shareOf_83
  · refine lv_tableIn (off := 83) (tgt := 84) hx hb d_S_shareOf_1 (by decide +kernel) (by decide +kernel) (by decide +kernel) (by decide) ?_
    refine lv_aload_n hx hb d_S_shareOf_84 rfl (lv_at hl 0 rfl) ?_
    refine va_getN (D := D) (ci := 1) (v := .int (bI x.2.2.2.1)) (C := R_P) (T := F_P) (N := 6) hx hb hg gi_P hown hK hP k he rfl 2 (by decide) (va_Nw.use rfl (hN.1 (37, "used", "Z") (by decide))) (fun _ h9 => h9) rfl d_S_shareOf_85 ?_
    refine lv_if_eq (tgt := 95) hx hb d_S_shareOf_88 (by decide) (fun c_88 => ?_) (fun c_88 => ?_)
    · refine lv_iconst (v := 0) hx hb d_S_shareOf_95 (by decide) ?_
      exact W.iret (v := 0) hx hb hr (fun t ht hW => ⟨_, rfl, (by simp [shr, show x.2.2.2.1 = false from bI_0.mp c_88]; rfl), ht⟩) (fun q h => nomatch h) d_S_shareOf_96
    · refine lv_iconst (v := 1) hx hb d_S_shareOf_91 (by decide) ?_
      refine lv_goto (tgt := 96) hx hb d_S_shareOf_92 (by decide) ?_
      exact W.iret (v := 1) hx hb hr (fun t ht hW => ⟨_, rfl, (by simp [shr, show x.2.2.2.1 = true from bI_n0.mp c_88]; rfl), ht⟩) (fun q h => nomatch h) d_S_shareOf_96
  · refine lv_tableIn (off := 96) (tgt := 97) hx hb d_S_shareOf_1 (by decide +kernel) (by decide +kernel) (by decide +kernel) (by decide) ?_
    refine lv_aload_n hx hb d_S_shareOf_97 rfl (lv_at hl 0 rfl) ?_
    refine vp_callSi (va_runVN (As := []) (rest := []) ⟨hx, hb, hml, hown, hg⟩ (c_P_isFreeForTaking l D ty _ k x nx he hn) ⟨va_cnB 0 hg (gw_c gw_225) rfl rfl rfl (hN.2.1 (127, y_P_isFreeForTaking) (by decide +kernel)) (hg _ gw_27) (by decide +kernel) ⟨Nat.le_of_ble_eq_true rfl, Nat.le_of_ble_eq_true rfl⟩, hg _ gw_224, hg _ gw_7⟩ (pre_roV hP hK hN (ci := 1) rfl he) rfl rfl hl.1 rfl (lv_room (Nat.le_of_ble_eq_true rfl)) d_S_shareOf_98 ⟨Nat.le_of_ble_eq_true rfl, Nat.le_of_ble_eq_true rfl⟩).run (fun r1 hr1 => ?_)
    refine lv_if_eq (tgt := 108) hx hb d_S_shareOf_101 (by decide) (fun c_101 => ?_) (fun c_101 => ?_)
    · refine lv_iconst (v := 0) hx hb d_S_shareOf_108 (by decide) ?_
      exact W.iret (v := 0) hx hb hr (fun t ht hW => ⟨_, rfl, (by simp [shr, show isFT x = false from bI_0.mp (by rw [← hr1]; exact c_101)]; rfl), ht⟩) (fun q h => nomatch h) d_S_shareOf_109
    · refine lv_iconst (v := 1) hx hb d_S_shareOf_104 (by decide) ?_
      refine lv_goto (tgt := 109) hx hb d_S_shareOf_105 (by decide) ?_
      exact W.iret (v := 1) hx hb hr (fun t ht hW => ⟨_, rfl, (by simp [shr, show isFT x = true from bI_n0.mp (by rw [← hr1]; exact c_101)]; rfl), ht⟩) (fun q h => nomatch h) d_S_shareOf_109
  · refine lv_tableIn (off := 109) (tgt := 110) hx hb d_S_shareOf_1 (by decide +kernel) (by decide +kernel) (by decide +kernel) (by decide) ?_
    refine lv_aload_n hx hb d_S_shareOf_110 rfl (lv_at hl 0 rfl) ?_
    refine vp_callSi (va_runVN (As := []) (rest := []) ⟨hx, hb, hml, hown, hg⟩ (c_P_isCrumb l D ty _ k x nx he hn) ⟨va_cnB 0 hg (gw_c gw_340) rfl rfl rfl (hN.2.1 (145, y_P_isCrumb) (by decide +kernel)) (hg _ gw_27) (by decide +kernel) ⟨Nat.le_of_ble_eq_true rfl, Nat.le_of_ble_eq_true rfl⟩, hg _ gw_339, hg _ gw_15⟩ (pre_roV hP hK hN (ci := 1) rfl he) rfl rfl hl.1 rfl (lv_room (Nat.le_of_ble_eq_true rfl)) d_S_shareOf_111 ⟨Nat.le_of_ble_eq_true rfl, Nat.le_of_ble_eq_true rfl⟩).run (fun r1 hr1 => ?_)
    refine lv_if_eq (tgt := 121) hx hb d_S_shareOf_114 (by decide) (fun c_114 => ?_) (fun c_114 => ?_)
    · refine lv_iconst (v := 0) hx hb d_S_shareOf_121 (by decide) ?_
      exact W.iret (v := 0) hx hb hr (fun t ht hW => ⟨_, rfl, (by simp [shr, show isCr x = false from bI_0.mp (by rw [← hr1]; exact c_114)]; rfl), ht⟩) (fun q h => nomatch h) d_S_shareOf_122
    · refine lv_iconst (v := 1) hx hb d_S_shareOf_117 (by decide) ?_
      refine lv_goto (tgt := 122) hx hb d_S_shareOf_118 (by decide) ?_
      exact W.iret (v := 1) hx hb hr (fun t ht hW => ⟨_, rfl, (by simp [shr, show isCr x = true from bI_n0.mp (by rw [← hr1]; exact c_114)]; rfl), ht⟩) (fun q h => nomatch h) d_S_shareOf_122
  · refine lv_tableIn (off := 122) (tgt := 123) hx hb d_S_shareOf_1 (by decide +kernel) (by decide +kernel) (by decide +kernel) (by decide) ?_
    refine lv_aload_n hx hb d_S_shareOf_123 rfl (lv_at hl 0 rfl) ?_
    refine va_getN (D := D) (ci := 1) (v := .int (bI x.2.2.2.2.1)) (C := R_P) (T := F_P) (N := 6) hx hb hg gi_P hown hK hP k he rfl 3 (by decide) (va_Nw.use rfl (hN.1 (50, "marked", "Z") (by decide))) (fun _ h9 => h9) rfl d_S_shareOf_124 ?_
    refine lv_if_eq (tgt := 134) hx hb d_S_shareOf_127 (by decide) (fun c_127 => ?_) (fun c_127 => ?_)
    · refine lv_iconst (v := 0) hx hb d_S_shareOf_134 (by decide) ?_
      exact W.iret (v := 0) hx hb hr (fun t ht hW => ⟨_, rfl, (by simp [shr, show x.2.2.2.2.1 = false from bI_0.mp c_127]; rfl), ht⟩) (fun q h => nomatch h) d_S_shareOf_135
    · refine lv_iconst (v := 1) hx hb d_S_shareOf_130 (by decide) ?_
      refine lv_goto (tgt := 135) hx hb d_S_shareOf_131 (by decide) ?_
      exact W.iret (v := 1) hx hb hr (fun t ht hW => ⟨_, rfl, (by simp [shr, show x.2.2.2.2.1 = true from bI_n0.mp c_127]; rfl), ht⟩) (fun q h => nomatch h) d_S_shareOf_135
set_option maxHeartbeats 4000000 in
set_option maxRecDepth 100000 in
theorem c_S_sumOverPieces (l : Launch) (D : va_G) (ty : tyL) (h cn : Nat) (ha : Option Nat) (f : Nat) (v w z : Int32) (L : List AP) (what : Nat) (hBd : Bd L) (hw : what = 0 ∨ what = 1 ∨ what = 2 ∨ what = 3 ∨ what = 4 ∨ what = 8) : Met l y_S_sumOverPieces (Cond.code y_S_sumOverPieces b_S_sumOverPieces 4 (some .int) :: GW) ({ frames := 2, cells := 0, slots := 0, locals := 41 }) (va_Pc [.ref h, .int (nI what)] (at0 D ty (scell h cn (hdO L none) ha f v w z :: chG L none))) (vp_Si (fun r => r = nI (shrS what L))) 0 0 (fun _ => False) := by
  refine Met.ofW (cc := b_S_sumOverPieces) (maxL := 4) (ret := (some .int)) (by decide) rfl ?_
  intro p e s m args below meth c s₁ B hml hv
  obtain ⟨rfl, hP, hK, hN⟩ := hv
  have hx := B.exec
  have hb := B.bytes
  have hr := B.returns
  have hg : ∀ w ∈ GW, w.before _ s = true := fun w h => atoms_spec (ws := Cond.code y_S_sumOverPieces b_S_sumOverPieces 4 (some .int) :: GW) B.pre w (List.mem_cons_of_mem _ h)
  have hown : s.vm.findClass R_S = some m.cls := findClass_of_methodNamed B.named
  have hlocks := B.notSynchronized
  have hl := lv_entry ([.ref h, .int (nI what)]) (n := 4) (Nat.le_of_ble_eq_true rfl)
  rw [lg_entry_eq]
  generalize (lg_sl ([.ref h, .int (nI what)]) ++ List.replicate (4 - (lg_sl ([.ref h, .int (nI what)])).length) Slot.unset).toArray = ls at hl ⊢
  replace hl : lv_has ls 4 [(0, .ref h), (1, .int (nI what))] := hl
  refine lv_iconst (v := 0) hx hb d_S_sumOverPieces_0 (by decide) ?_
  refine lv_istore_n (lv' := [(2, .int 0), (0, .ref h), (1, .int (nI what))]) hx hb d_S_sumOverPieces_1 rfl hl (by decide) rfl (fun ls hl => ?_)
  refine lv_aload_n hx hb d_S_sumOverPieces_2 rfl (lv_at hl 1 rfl) ?_
  refine va_get (D := D) (ci := 0) (v := va_rf (hdO L none)) (C := R_S) (T := F_S) (N := 7) hx hb hg gi_S hown hK hP 0 rfl rfl 1 (by decide) (hg _ gw_82) (fun _ h9 => h9) rfl d_S_sumOverPieces_3 ?_
  refine sv_astore_n (lv' := [(3, va_rf (hdO L none)), (2, .int 0), (0, .ref h), (1, .int (nI what))]) hx hb d_S_sumOverPieces_6 rfl hl (by decide) rfl (fun ls hl => ?_)
  obtain ⟨g, hg⟩ : ∃ q : Nat, q = 0 := ⟨_, rfl⟩
  obtain ⟨suf, hs⟩ : ∃ suf, suf = L := ⟨_, rfl⟩
  replace hl := lv_sub hl [0, 1, 2, 3] rfl
  replace hl : lv_has ls 4 [(3, va_rf (hdO L none)), (2, .int 0), (0, .ref h), (1, .int (nI what))] := hl
  replace hl : lv_has ls 4 [(3, va_rf (hdO suf none)), (2, .int (nI g)), (0, .ref h), (1, .int (nI what))] := by rw [hs, hg, nI_0]; exact hl
  have hpre : ∃ pre, L = pre ++ suf := ⟨[], hs.symm⟩
  have hq : shrS what L = g + shrS what suf := by rw [hs, hg, Nat.zero_add]
  clear hs hg
  revert hq
  revert hpre
  revert hl
  revert g
  revert ls
  induction suf with
  | nil =>
    intro ls g hl hpre hq
    replace hl : lv_has ls 4 [(3, .null), (2, .int (nI g)), (0, .ref h), (1, .int (nI what))] := hl
    refine lv_aload_nN hx hb d_S_sumOverPieces_7 rfl (lv_at hl 0 rfl) ?_
    refine lv_ifnullN (tgt := 27) hx hb d_S_sumOverPieces_8 (by decide) ?_
    refine lv_iload_n hx hb d_S_sumOverPieces_27 rfl (lv_at hl 1 rfl) ?_
    exact W.iret (v := (nI g)) hx hb hr (fun t ht hW => ⟨_, rfl, (by rw [hq]; rfl), ht⟩) (fun q h => nomatch h) d_S_sumOverPieces_28
  | cons x suf ih =>
    intro ls g hl hpre hq
    replace hl : lv_has ls 4 [(3, .ref x.1), (2, .int (nI g)), (0, .ref h), (1, .int (nI what))] := hl
    obtain ⟨pre, hpre⟩ := hpre
    have he := chG_at (scell h cn (hdO L none) ha f v w z) pre x suf none
    rw [← hpre] at he
    have hxL : x ∈ L := by rw [hpre]; simp
    obtain ⟨hb1, hb2, hb3⟩ := hBd x hxL
    refine lv_aload_n hx hb d_S_sumOverPieces_7 rfl (lv_at hl 0 rfl) ?_
    refine lv_ifnull hx hb d_S_sumOverPieces_8 ?_
    refine lv_iload_n hx hb d_S_sumOverPieces_11 rfl (lv_at hl 1 rfl) ?_
    refine lv_aload_n hx hb d_S_sumOverPieces_12 rfl (lv_at hl 0 rfl) ?_
    refine lv_iload_n hx hb d_S_sumOverPieces_13 rfl (lv_at hl 3 rfl) ?_
    refine vp_callSi (va_runS (As := [.ref x.1, .int (nI what)]) (rest := [.int (nI g)]) ⟨hx, hb, hml, hown, hg⟩ (c_S_shareOf l D ty _ (pre.length + 1) x (hdO suf none) he what (by omega) hw) (va_cwS 2 hg (gw_S gw_334 gw_335 gw_26 gw_336) rfl rfl rfl (by decide +kernel) ⟨Nat.le_of_ble_eq_true rfl, Nat.le_of_ble_eq_true rfl⟩) (pre_roS hP hK hN) rfl rfl hl.1 rfl (lv_room (Nat.le_of_ble_eq_true rfl)) d_S_sumOverPieces_14 ⟨Nat.le_of_ble_eq_true rfl, Nat.le_of_ble_eq_true rfl⟩).run (fun r1 hr1 => ?_)
    refine lv_iadd hx hb d_S_sumOverPieces_17 ?_
    refine lv_topi (fun y1 ey1 => ?_)
    obtain rfl : y1 = nI (g + shr what x) := ey1.trans (by rw [hr1]; exact nI_add _ _)
    clear ey1
    refine lv_istore_n (lv' := [(2, .int (nI (g + shr what x))), (3, .ref x.1), (0, .ref h), (1, .int (nI what))]) hx hb d_S_sumOverPieces_18 rfl hl (by decide) rfl (fun ls hl => ?_)
    refine lv_aload_n hx hb d_S_sumOverPieces_19 rfl (lv_at hl 1 rfl) ?_
    refine va_getN (D := D) (ci := 1) (v := va_rf (hdO suf none)) (C := R_P) (T := F_P) (N := 6) hx hb hg gi_P hown hK hP (pre.length + 1) he rfl 5 (by decide) (va_Nw.use rfl (hN.1 (69, "next", "LSweepHand$Piece;") (by decide))) (fun _ h9 => h9) rfl d_S_sumOverPieces_20 ?_
    refine sv_astore_n (lv' := [(3, va_rf (hdO suf none)), (2, .int (nI (g + shr what x))), (0, .ref h), (1, .int (nI what))]) hx hb d_S_sumOverPieces_23 rfl hl (by decide) rfl (fun ls hl => ?_)
    refine lv_goto (tgt := 7) hx hb d_S_sumOverPieces_24 (by decide) ?_
    exact ih ls (g + shr what x) (lv_sub hl [0, 1, 2, 3] rfl) ⟨pre ++ [x], by rw [hpre, List.append_assoc]; rfl⟩ (by rw [hq, shrS]; omega)
set_option maxHeartbeats 4000000 in
set_option maxRecDepth 100000 in
theorem c_S_greatestFree (l : Launch) (D : va_G) (ty : tyL) (h cn : Nat) (ha : Option Nat) (f : Nat) (v w z : Int32) (L : List AP) (hBd : Bd L) : Met l y_S_greatestFree (Cond.code y_S_greatestFree b_S_greatestFree 3 (some .int) :: GW) ({ frames := 0, cells := 0, slots := 0, locals := 0 }) (va_Pc [.ref h] (at0 D ty (scell h cn (hdO L none) ha f v w z :: chG L none))) (vp_Si (fun r => r = nI (grF L 0))) 0 0 (fun _ => False) := by
  refine Met.ofW (cc := b_S_greatestFree) (maxL := 3) (ret := (some .int)) (by decide) rfl ?_
  intro p e s m args below meth c s₁ B hml hv
  obtain ⟨rfl, hP, hK, hN⟩ := hv
  have hx := B.exec
  have hb := B.bytes
  have hr := B.returns
  have hg : ∀ w ∈ GW, w.before _ s = true := fun w h => atoms_spec (ws := Cond.code y_S_greatestFree b_S_greatestFree 3 (some .int) :: GW) B.pre w (List.mem_cons_of_mem _ h)
  have hown : s.vm.findClass R_S = some m.cls := findClass_of_methodNamed B.named
  have hlocks := B.notSynchronized
  have hl := lv_entry ([.ref h]) (n := 3) (Nat.le_of_ble_eq_true rfl)
  rw [lg_entry_eq]
  generalize (lg_sl ([.ref h]) ++ List.replicate (3 - (lg_sl ([.ref h])).length) Slot.unset).toArray = ls at hl ⊢
  replace hl : lv_has ls 3 [(0, .ref h)] := hl
  refine lv_iconst (v := 0) hx hb d_S_greatestFree_0 (by decide) ?_
  refine lv_istore_n (lv' := [(1, .int 0), (0, .ref h)]) hx hb d_S_greatestFree_1 rfl hl (by decide) rfl (fun ls hl => ?_)
  refine lv_aload_n hx hb d_S_greatestFree_2 rfl (lv_at hl 1 rfl) ?_
  refine va_get (D := D) (ci := 0) (v := va_rf (hdO L none)) (C := R_S) (T := F_S) (N := 7) hx hb hg gi_S hown hK hP 0 rfl rfl 1 (by decide) (hg _ gw_82) (fun _ h9 => h9) rfl d_S_greatestFree_3 ?_
  refine sv_astore_n (lv' := [(2, va_rf (hdO L none)), (1, .int 0), (0, .ref h)]) hx hb d_S_greatestFree_6 rfl hl (by decide) rfl (fun ls hl => ?_)
  obtain ⟨g, hg⟩ : ∃ q : Nat, q = 0 := ⟨_, rfl⟩
  obtain ⟨suf, hs⟩ : ∃ suf, suf = L := ⟨_, rfl⟩
  replace hl := lv_sub hl [0, 1, 2] rfl
  replace hl : lv_has ls 3 [(2, va_rf (hdO L none)), (1, .int 0), (0, .ref h)] := hl
  replace hl : lv_has ls 3 [(2, va_rf (hdO suf none)), (1, .int (nI g)), (0, .ref h)] := by rw [hs, hg, nI_0]; exact hl
  have hpre : ∃ pre, L = pre ++ suf := ⟨[], hs.symm⟩
  have hq : grF L 0 = grF suf g := by rw [hs, hg]
  have hg2 : g < 2 ^ 30 := by rw [hg]; decide
  clear hs hg
  revert hg2
  revert hq
  revert hpre
  revert hl
  revert g
  revert ls
  induction suf with
  | nil =>
    intro ls g hl hpre hq hg2
    replace hl : lv_has ls 3 [(2, .null), (1, .int (nI g)), (0, .ref h)] := hl
    refine lv_aload_nN hx hb d_S_greatestFree_7 rfl (lv_at hl 0 rfl) ?_
    refine lv_ifnullN (tgt := 39) hx hb d_S_greatestFree_8 (by decide) ?_
    refine lv_iload_n hx hb d_S_greatestFree_39 rfl (lv_at hl 1 rfl) ?_
    exact W.iret (v := (nI g)) hx hb hr (fun t ht hW => ⟨_, rfl, (by rw [hq]; rfl), ht⟩) (fun q h => nomatch h) d_S_greatestFree_40
  | cons x suf ih =>
    intro ls g hl hpre hq hg2
    replace hl : lv_has ls 3 [(2, .ref x.1), (1, .int (nI g)), (0, .ref h)] := hl
    obtain ⟨pre, hpre⟩ := hpre
    have he := chG_at (scell h cn (hdO L none) ha f v w z) pre x suf none
    rw [← hpre] at he
    have hxL : x ∈ L := by rw [hpre]; simp
    obtain ⟨hb1, hb2, hb3⟩ := hBd x hxL
    refine lv_aload_n hx hb d_S_greatestFree_7 rfl (lv_at hl 0 rfl) ?_
    refine lv_ifnull hx hb d_S_greatestFree_8 ?_
    refine lv_aload_n hx hb d_S_greatestFree_11 rfl (lv_at hl 0 rfl) ?_
    refine va_getN (D := D) (ci := 1) (v := .int (bI x.2.2.2.1)) (C := R_P) (T := F_P) (N := 6) hx hb hg gi_P hown hK hP (pre.length + 1) he rfl 2 (by decide) (va_Nw.use rfl (hN.1 (37, "used", "Z") (by decide))) (fun _ h9 => h9) rfl d_S_greatestFree_12 ?_
    refine lv_if_ne (tgt := 31) hx hb d_S_greatestFree_15 (by decide) (fun c_15 => ?_) (fun c_15 => ?_)
    · refine lv_aload_n hx hb d_S_greatestFree_31 rfl (lv_at hl 0 rfl) ?_
      refine va_getN (D := D) (ci := 1) (v := va_rf (hdO suf none)) (C := R_P) (T := F_P) (N := 6) hx hb hg gi_P hown hK hP (pre.length + 1) he rfl 5 (by decide) (va_Nw.use rfl (hN.1 (69, "next", "LSweepHand$Piece;") (by decide))) (fun _ h9 => h9) rfl d_S_greatestFree_32 ?_
      refine sv_astore_n (lv' := [(2, va_rf (hdO suf none)), (1, .int (nI g)), (0, .ref h)]) hx hb d_S_greatestFree_35 rfl hl (by decide) rfl (fun ls hl => ?_)
      refine lv_goto (tgt := 7) hx hb d_S_greatestFree_36 (by decide) ?_
      exact ih ls g (lv_sub hl [0, 1, 2] rfl) ⟨pre ++ [x], by rw [hpre, List.append_assoc]; rfl⟩ (by rw [hq, grF, if_neg (by simp [bI_n0.mp c_15])]) hg2
    · refine lv_aload_n hx hb d_S_greatestFree_18 rfl (lv_at hl 0 rfl) ?_
      refine va_getN (D := D) (ci := 1) (v := .int (nI x.2.2.1)) (C := R_P) (T := F_P) (N := 6) hx hb hg gi_P hown hK hP (pre.length + 1) he rfl 1 (by decide) (va_Nw.use rfl (hN.1 (60, "size", "I") (by decide))) (fun _ h9 => h9) rfl d_S_greatestFree_19 ?_
      refine lv_iload_n hx hb d_S_greatestFree_22 rfl (lv_at hl 1 rfl) ?_
      refine lv_icmp_le (tgt := 31) hx hb d_S_greatestFree_23 (by decide) (fun c_23 => ?_) (fun c_23 => ?_)
      · refine lv_aload_n hx hb d_S_greatestFree_31 rfl (lv_at hl 0 rfl) ?_
        refine va_getN (D := D) (ci := 1) (v := va_rf (hdO suf none)) (C := R_P) (T := F_P) (N := 6) hx hb hg gi_P hown hK hP (pre.length + 1) he rfl 5 (by decide) (va_Nw.use rfl (hN.1 (69, "next", "LSweepHand$Piece;") (by decide))) (fun _ h9 => h9) rfl d_S_greatestFree_32 ?_
        refine sv_astore_n (lv' := [(2, va_rf (hdO suf none)), (1, .int (nI g)), (0, .ref h)]) hx hb d_S_greatestFree_35 rfl hl (by decide) rfl (fun ls hl => ?_)
        refine lv_goto (tgt := 7) hx hb d_S_greatestFree_36 (by decide) ?_
        exact ih ls g (lv_sub hl [0, 1, 2] rfl) ⟨pre ++ [x], by rw [hpre, List.append_assoc]; rfl⟩ (by rw [hq, grF, if_neg (by simp [Nat.not_lt.mpr ((nI_leI (by omega) (by omega)).mp c_23)])]) hg2
      · refine lv_aload_n hx hb d_S_greatestFree_26 rfl (lv_at hl 0 rfl) ?_
        refine va_getN (D := D) (ci := 1) (v := .int (nI x.2.2.1)) (C := R_P) (T := F_P) (N := 6) hx hb hg gi_P hown hK hP (pre.length + 1) he rfl 1 (by decide) (va_Nw.use rfl (hN.1 (60, "size", "I") (by decide))) (fun _ h9 => h9) rfl d_S_greatestFree_27 ?_
        refine lv_istore_n (lv' := [(1, .int (nI x.2.2.1)), (2, .ref x.1), (0, .ref h)]) hx hb d_S_greatestFree_30 rfl hl (by decide) rfl (fun ls hl => ?_)
        refine lv_aload_n hx hb d_S_greatestFree_31 rfl (lv_at hl 1 rfl) ?_
        refine va_getN (D := D) (ci := 1) (v := va_rf (hdO suf none)) (C := R_P) (T := F_P) (N := 6) hx hb hg gi_P hown hK hP (pre.length + 1) he rfl 5 (by decide) (va_Nw.use rfl (hN.1 (69, "next", "LSweepHand$Piece;") (by decide))) (fun _ h9 => h9) rfl d_S_greatestFree_32 ?_
        refine sv_astore_n (lv' := [(2, va_rf (hdO suf none)), (1, .int (nI x.2.2.1)), (0, .ref h)]) hx hb d_S_greatestFree_35 rfl hl (by decide) rfl (fun ls hl => ?_)
        refine lv_goto (tgt := 7) hx hb d_S_greatestFree_36 (by decide) ?_
        exact ih ls x.2.2.1 (lv_sub hl [0, 1, 2] rfl) ⟨pre ++ [x], by rw [hpre, List.append_assoc]; rfl⟩ (by rw [hq, grF, if_pos (by simp [bI_0.mp c_15, Nat.not_le.mp (fun h9 => c_23 ((nI_leI (by omega) (by omega)).mpr h9))])]) hb2
set_option maxHeartbeats 4000000 in
set_option maxRecDepth 100000 in
theorem c_S_isMarkRight (l : Launch) (D : va_G) (ty : tyL) (ws : va_W) (k : Nat) (x : AP) (nx : Option Nat) (he : ws[k]? = some (pcell x nx)) (fl : Bool) : Met l y_S_isMarkRight (Cond.code y_S_isMarkRight b_S_isMarkRight 2 (some .boolean) :: GW) ({ frames := 0, cells := 0, slots := 0, locals := 0 }) (va_Pc [.ref x.1, .int (bI fl)] (at0 D ty ws)) (vp_Si (fun r => r = bI (!x.2.2.2.2.1 || (x.2.2.2.1 && fl)))) 0 0 (fun _ => False) := by
  refine Met.ofW (cc := b_S_isMarkRight) (maxL := 2) (ret := (some .boolean)) (by decide) rfl ?_
  intro p e s m args below meth c s₁ B hml hv
  obtain ⟨rfl, hP, hK, hN⟩ := hv
  have hx := B.exec
  have hb := B.bytes
  have hr := B.returns
  have hg : ∀ w ∈ GW, w.before _ s = true := fun w h => atoms_spec (ws := Cond.code y_S_isMarkRight b_S_isMarkRight 2 (some .boolean) :: GW) B.pre w (List.mem_cons_of_mem _ h)
  have hown : s.vm.findClass R_S = some m.cls := findClass_of_methodNamed B.named
  have hlocks := B.notSynchronized
  have hl := lv_entry ([.ref x.1, .int (bI fl)]) (n := 2) (Nat.le_of_ble_eq_true rfl)
  rw [lg_entry_eq]
  generalize (lg_sl ([.ref x.1, .int (bI fl)]) ++ List.replicate (2 - (lg_sl ([.ref x.1, .int (bI fl)])).length) Slot.unset).toArray = ls at hl ⊢
  replace hl : lv_has ls 2 [(0, .ref x.1), (1, .int (bI fl))] := hl
  refine lv_aload_n hx hb d_S_isMarkRight_0 rfl (lv_at hl 0 rfl) ?_
  refine va_getN (D := D) (ci := 1) (v := .int (bI x.2.2.2.2.1)) (C := R_P) (T := F_P) (N := 6) hx hb hg gi_P hown hK hP k he rfl 3 (by decide) (va_Nw.use rfl (hN.1 (50, "marked", "Z") (by decide))) (fun _ h9 => h9) rfl d_S_isMarkRight_1 ?_
  refine lv_if_eq (tgt := 18) hx hb d_S_isMarkRight_4 (by decide) (fun c_4 => ?_) (fun c_4 => ?_)
  · refine lv_iconst (v := 1) hx hb d_S_isMarkRight_18 (by decide) ?_
    refine lv_goto (tgt := 23) hx hb d_S_isMarkRight_19 (by decide) ?_
    exact W.zret (v := 1) hx hb hr rfl (fun t ht hW => ⟨_, rfl, (by simp [show x.2.2.2.2.1 = false from bI_0.mp c_4, bI]), ht⟩) (fun q h => nomatch h) d_S_isMarkRight_23
  · refine lv_aload_n hx hb d_S_isMarkRight_7 rfl (lv_at hl 0 rfl) ?_
    refine va_getN (D := D) (ci := 1) (v := .int (bI x.2.2.2.1)) (C := R_P) (T := F_P) (N := 6) hx hb hg gi_P hown hK hP k he rfl 2 (by decide) (va_Nw.use rfl (hN.1 (37, "used", "Z") (by decide))) (fun _ h9 => h9) rfl d_S_isMarkRight_8 ?_
    refine lv_if_eq (tgt := 22) hx hb d_S_isMarkRight_11 (by decide) (fun c_11 => ?_) (fun c_11 => ?_)
    · refine lv_iconst (v := 0) hx hb d_S_isMarkRight_22 (by decide) ?_
      exact W.zret (v := 0) hx hb hr rfl (fun t ht hW => ⟨_, rfl, (by simp [show x.2.2.2.2.1 = true from bI_n0.mp c_4, show x.2.2.2.1 = false from bI_0.mp c_11, bI]), ht⟩) (fun q h => nomatch h) d_S_isMarkRight_23
    · refine lv_iload_n hx hb d_S_isMarkRight_14 rfl (lv_at hl 1 rfl) ?_
      refine lv_if_eq (tgt := 22) hx hb d_S_isMarkRight_15 (by decide) (fun c_15 => ?_) (fun c_15 => ?_)
      · refine lv_iconst (v := 0) hx hb d_S_isMarkRight_22 (by decide) ?_
        exact W.zret (v := 0) hx hb hr rfl (fun t ht hW => ⟨_, rfl, (by simp [show x.2.2.2.2.1 = true from bI_n0.mp c_4, show x.2.2.2.1 = true from bI_n0.mp c_11, show fl = false from bI_0.mp c_15, bI]), ht⟩) (fun q h => nomatch h) d_S_isMarkRight_23
      · refine lv_iconst (v := 1) hx hb d_S_isMarkRight_18 (by decide) ?_
        refine lv_goto (tgt := 23) hx hb d_S_isMarkRight_19 (by decide) ?_
        exact W.zret (v := 1) hx hb hr rfl (fun t ht hW => ⟨_, rfl, (by simp [show x.2.2.2.2.1 = true from bI_n0.mp c_4, show x.2.2.2.1 = true from bI_n0.mp c_11, show fl = true from bI_n0.mp c_15, bI]), ht⟩) (fun q h => nomatch h) d_S_isMarkRight_23
set_option maxHeartbeats 4000000 in
set_option maxRecDepth 100000 in
theorem c_S_isTimeRight (l : Launch) (D : va_G) (ty : tyL) (h cn : Nat) (ha : Option Nat) (f : Nat) (v w z : Int32) (L : List AP) (k : Nat) (x : AP) (nx : Option Nat) (he : (scell h cn (hdO L none) ha f v w z :: chG L none)[k]? = some (pcell x nx)) (htt : x.2.2.2.2.2 < 2 ^ 63) (hf : f < 2 ^ 63) : Met l y_S_isTimeRight (Cond.code y_S_isTimeRight b_S_isTimeRight 2 (some .boolean) :: GW) ({ frames := 0, cells := 0, slots := 0, locals := 0 }) (va_Pc [.ref h, .ref x.1] (at0 D ty (scell h cn (hdO L none) ha f v w z :: chG L none))) (vp_Si (fun r => r = bI (x.2.2.2.1 || (decide (1 ≤ x.2.2.2.2.2) && decide (x.2.2.2.2.2 ≤ f))))) 0 0 (fun _ => False) := by
  refine Met.ofW (cc := b_S_isTimeRight) (maxL := 2) (ret := (some .boolean)) (by decide) rfl ?_
  intro p e s m args below meth c s₁ B hml hv
  obtain ⟨rfl, hP, hK, hN⟩ := hv
  have hx := B.exec
  have hb := B.bytes
  have hr := B.returns
  have hg : ∀ w ∈ GW, w.before _ s = true := fun w h => atoms_spec (ws := Cond.code y_S_isTimeRight b_S_isTimeRight 2 (some .boolean) :: GW) B.pre w (List.mem_cons_of_mem _ h)
  have hown : s.vm.findClass R_S = some m.cls := findClass_of_methodNamed B.named
  have hlocks := B.notSynchronized
  have hl := lv_entry ([.ref h, .ref x.1]) (n := 2) (Nat.le_of_ble_eq_true rfl)
  rw [lg_entry_eq]
  generalize (lg_sl ([.ref h, .ref x.1]) ++ List.replicate (2 - (lg_sl ([.ref h, .ref x.1])).length) Slot.unset).toArray = ls at hl ⊢
  replace hl : lv_has ls 2 [(0, .ref h), (1, .ref x.1)] := hl
  refine lv_aload_n hx hb d_S_isTimeRight_0 rfl (lv_at hl 1 rfl) ?_
  refine va_getN (D := D) (ci := 1) (v := .int (bI x.2.2.2.1)) (C := R_P) (T := F_P) (N := 6) hx hb hg gi_P hown hK hP k he rfl 2 (by decide) (va_Nw.use rfl (hN.1 (37, "used", "Z") (by decide))) (fun _ h9 => h9) rfl d_S_isTimeRight_1 ?_
  refine lv_if_ne (tgt := 28) hx hb d_S_isTimeRight_4 (by decide) (fun c_4 => ?_) (fun c_4 => ?_)
  · refine lv_iconst (v := 1) hx hb d_S_isTimeRight_28 (by decide) ?_
    refine lv_goto (tgt := 33) hx hb d_S_isTimeRight_29 (by decide) ?_
    exact W.zret (v := 1) hx hb hr rfl (fun t ht hW => ⟨_, rfl, (by simp [show x.2.2.2.1 = true from bI_n0.mp c_4, bI]), ht⟩) (fun q h => nomatch h) d_S_isTimeRight_33
  · refine lv_aload_n hx hb d_S_isTimeRight_7 rfl (lv_at hl 1 rfl) ?_
    refine va_getN (D := D) (ci := 1) (v := .long (lN x.2.2.2.2.2)) (C := R_P) (T := F_P) (N := 6) hx hb hg gi_P hown hK hP k he rfl 4 (by decide) (va_Nw.use rfl (hN.1 (114, "freedAt", "J") (by decide))) (fun _ h9 => h9) rfl d_S_isTimeRight_8 ?_
    refine lv_lconst (v := 1) hx hb d_S_isTimeRight_11 (by decide) ?_
    refine W.lcmp hx hb d_S_isTimeRight_12 ?_
    refine lv_if_lt (tgt := 32) hx hb d_S_isTimeRight_13 (by decide) (fun c_13 => ?_) (fun c_13 => ?_)
    · refine lv_iconst (v := 0) hx hb d_S_isTimeRight_32 (by decide) ?_
      exact W.zret (v := 0) hx hb hr rfl (fun t ht hW => ⟨_, rfl, (by have h9 := (pk_lLT (b := 1) htt (by decide)).mp ((lg_cmp_lt _ _).mp c_13); simp [show x.2.2.2.1 = false from bI_0.mp c_4, bI]; omega), ht⟩) (fun q h => nomatch h) d_S_isTimeRight_33
    · refine lv_aload_n hx hb d_S_isTimeRight_16 rfl (lv_at hl 1 rfl) ?_
      refine va_getN (D := D) (ci := 1) (v := .long (lN x.2.2.2.2.2)) (C := R_P) (T := F_P) (N := 6) hx hb hg gi_P hown hK hP k he rfl 4 (by decide) (va_Nw.use rfl (hN.1 (114, "freedAt", "J") (by decide))) (fun _ h9 => h9) rfl d_S_isTimeRight_17 ?_
      refine lv_aload_n hx hb d_S_isTimeRight_20 rfl (lv_at hl 0 rfl) ?_
      refine va_get (D := D) (ci := 0) (v := .long (lN f)) (C := R_S) (T := F_S) (N := 7) hx hb hg gi_S hown hK hP 0 rfl rfl 3 (by decide) (hg _ gw_84) (fun _ h9 => h9) rfl d_S_isTimeRight_21 ?_
      refine W.lcmp hx hb d_S_isTimeRight_24 ?_
      refine lv_if_gt (tgt := 32) hx hb d_S_isTimeRight_25 (by decide) (fun c_25 => ?_) (fun c_25 => ?_)
      · refine lv_iconst (v := 0) hx hb d_S_isTimeRight_32 (by decide) ?_
        exact W.zret (v := 0) hx hb hr rfl (fun t ht hW => ⟨_, rfl, (by have h8 := Nat.not_lt.mp (fun h9 => c_13 ((lg_cmp_lt _ _).mpr ((pk_lLT (b := 1) htt (by decide)).mpr h9))); have h9 := (pk_lLT hf htt).mp ((lg_cmp_gt _ _).mp c_25); simp [show x.2.2.2.1 = false from bI_0.mp c_4, bI]; omega), ht⟩) (fun q h => nomatch h) d_S_isTimeRight_33
      · refine lv_iconst (v := 1) hx hb d_S_isTimeRight_28 (by decide) ?_
        refine lv_goto (tgt := 33) hx hb d_S_isTimeRight_29 (by decide) ?_
        exact W.zret (v := 1) hx hb hr rfl (fun t ht hW => ⟨_, rfl, (by have h8 := Nat.not_lt.mp (fun h9 => c_13 ((lg_cmp_lt _ _).mpr ((pk_lLT (b := 1) htt (by decide)).mpr h9))); have h9 := Nat.not_lt.mp (fun h9 => c_25 ((lg_cmp_gt _ _).mpr ((pk_lLT hf htt).mpr h9))); simp [show x.2.2.2.1 = false from bI_0.mp c_4, bI, h8, h9]), ht⟩) (fun q h => nomatch h) d_S_isTimeRight_33
end
section
set_option maxHeartbeats 4000000 in
set_option maxRecDepth 100000 in
theorem c_S_hand (l : Launch) (D : va_G) (ty : tyL) (h cn f : Nat) (v w z : Int32) (p0 s0 : List AP) : Met l y_S_hand (Cond.code y_S_hand b_S_hand 1 (some .int) :: GW) ({ frames := 0, cells := 0, slots := 0, locals := 0 }) (va_Pc [.ref h] (at0 D ty (scell h cn (hdO (p0 ++ s0) none) (hdO s0 none) f v w z :: chG (p0 ++ s0) none))) (vp_Si (fun r => r = nI (hdB s0))) 0 0 (fun _ => False) := by
  refine Met.ofW (cc := b_S_hand) (maxL := 1) (ret := (some .int)) (by decide) rfl ?_
  intro p e s m args below meth c s₁ B hml hv
  obtain ⟨rfl, hP, hK, hN⟩ := hv
  have hx := B.exec
  have hb := B.bytes
  have hr := B.returns
  have hg : ∀ w ∈ GW, w.before _ s = true := fun w h => atoms_spec (ws := Cond.code y_S_hand b_S_hand 1 (some .int) :: GW) B.pre w (List.mem_cons_of_mem _ h)
  have hown : s.vm.findClass R_S = some m.cls := findClass_of_methodNamed B.named
  have hlocks := B.notSynchronized
  have hl := lv_entry ([.ref h]) (n := 1) (Nat.le_of_ble_eq_true rfl)
  rw [lg_entry_eq]
  generalize (lg_sl ([.ref h]) ++ List.replicate (1 - (lg_sl ([.ref h])).length) Slot.unset).toArray = ls at hl ⊢
  replace hl : lv_has ls 1 [(0, .ref h)] := hl
  rcases s0 with _ | ⟨x, s0⟩
  · refine lv_aload_n hx hb d_S_hand_0 rfl (lv_at hl 0 rfl) ?_
    refine va_get (D := D) (ci := 0) (v := .null) (C := R_S) (T := F_S) (N := 7) hx hb hg gi_S hown hK hP 0 rfl rfl 2 (by decide) (hg _ gw_83) (fun _ h9 => h9) rfl d_S_hand_1 ?_
    refine lv_ifnonnullN hx hb d_S_hand_4 ?_
    refine lv_iconst (v := 0) hx hb d_S_hand_7 (by decide) ?_
    refine lv_goto (tgt := 18) hx hb d_S_hand_8 (by decide) ?_
    exact W.iret (v := 0) hx hb hr (fun t ht hW => ⟨_, rfl, rfl, ht⟩) (fun q h => nomatch h) d_S_hand_18
  · have he := chG_at (scell h cn (hdO (p0 ++ x :: s0) none) (hdO (x :: s0) none) f v w z) p0 x s0 none
    refine lv_aload_n hx hb d_S_hand_0 rfl (lv_at hl 0 rfl) ?_
    refine va_get (D := D) (ci := 0) (v := .ref x.1) (C := R_S) (T := F_S) (N := 7) hx hb hg gi_S hown hK hP 0 rfl rfl 2 (by decide) (hg _ gw_83) (fun _ h9 => h9) rfl d_S_hand_1 ?_
    refine lv_ifnonnull (tgt := 11) hx hb d_S_hand_4 (by decide) ?_
    refine lv_aload_n hx hb d_S_hand_11 rfl (lv_at hl 0 rfl) ?_
    refine va_get (D := D) (ci := 0) (v := .ref x.1) (C := R_S) (T := F_S) (N := 7) hx hb hg gi_S hown hK hP 0 rfl rfl 2 (by decide) (hg _ gw_83) (fun _ h9 => h9) rfl d_S_hand_12 ?_
    refine va_getN (D := D) (ci := 1) (v := .int (nI x.2.1)) (C := R_P) (T := F_P) (N := 6) hx hb hg gi_P hown hK hP (p0.length + 1) he rfl 0 (by decide) (va_Nw.use rfl (hN.1 (47, "begin", "I") (by decide))) (fun _ h9 => h9) rfl d_S_hand_15 ?_
    exact W.iret (v := (nI x.2.1)) hx hb hr (fun t ht hW => ⟨_, rfl, rfl, ht⟩) (fun q h => nomatch h) d_S_hand_18
set_option maxHeartbeats 4000000 in
set_option maxRecDepth 100000 in
theorem c_S_piece (l : Launch) (D : va_G) (ty : tyL) (h cn : Nat) (ha : Option Nat) (f : Nat) (v w z : Int32) (L : List AP) (a : Int32) : Met l y_S_piece (Cond.code y_S_piece b_S_piece 3 (some .int) :: GW) ({ frames := 1, cells := 0, slots := 0, locals := 22 }) (va_Pc [.ref h, .int a] (at0 D ty (scell h cn (hdO L none) ha f v w z :: chG L none))) (vp_Si (fun r => r = (match pAt a L with | none => 0 | some x => if x.2.2.2.1 then nI x.2.2.1 else -nI x.2.2.1))) 0 0 (fun _ => False) := by
  refine Met.ofW (cc := b_S_piece) (maxL := 3) (ret := (some .int)) (by decide) rfl ?_
  intro p e s m args below meth c s₁ B hml hv
  obtain ⟨rfl, hP, hK, hN⟩ := hv
  have hx := B.exec
  have hb := B.bytes
  have hr := B.returns
  have hg : ∀ w ∈ GW, w.before _ s = true := fun w h => atoms_spec (ws := Cond.code y_S_piece b_S_piece 3 (some .int) :: GW) B.pre w (List.mem_cons_of_mem _ h)
  have hown : s.vm.findClass R_S = some m.cls := findClass_of_methodNamed B.named
  have hlocks := B.notSynchronized
  have hl := lv_entry ([.ref h, .int a]) (n := 3) (Nat.le_of_ble_eq_true rfl)
  rw [lg_entry_eq]
  generalize (lg_sl ([.ref h, .int a]) ++ List.replicate (3 - (lg_sl ([.ref h, .int a])).length) Slot.unset).toArray = ls at hl ⊢
  replace hl : lv_has ls 3 [(0, .ref h), (1, .int a)] := hl
  refine lv_aload_n hx hb d_S_piece_0 rfl (lv_at hl 0 rfl) ?_
  refine lv_iload_n hx hb d_S_piece_1 rfl (lv_at hl 1 rfl) ?_
  refine va_csq (va_runV (As := [.int a]) (rest := []) ⟨hx, hb, hml, hown, hg⟩ (c_S_pieceAt l D ty h cn ha f v w z L a) (cwV 1 hg (gw_V gw_111 gw_113 gw_2 gw_26 gw_114) rfl rfl rfl (by decide +kernel) ⟨Nat.le_of_ble_eq_true rfl, Nat.le_of_ble_eq_true rfl⟩) (pre_roV hP hK hN (ci := 0) (k := 0) rfl rfl) rfl rfl hl.1 rfl (lv_room (Nat.le_of_ble_eq_true rfl)) d_S_piece_2 ⟨Nat.le_of_ble_eq_true rfl, Nat.le_of_ble_eq_true rfl⟩).run (fun r1 hr1 => ?_)
  rcases hpa : pAt a L with _ | x
  · rw [hpa] at hr1
    replace hr1 : r1 = none := hr1
    subst hr1
    refine lv_astore_nN (lv' := [(2, .null), (0, .ref h), (1, .int a)]) hx hb d_S_piece_5 rfl hl (by decide) rfl (fun ls hl => ?_)
    refine lv_aload_nN hx hb d_S_piece_6 rfl (lv_at hl 0 rfl) ?_
    refine lv_ifnonnullN hx hb d_S_piece_7 ?_
    refine lv_iconst (v := 0) hx hb d_S_piece_10 (by decide) ?_
    exact W.iret (v := 0) hx hb hr (fun t ht hW => ⟨_, rfl, rfl, ht⟩) (fun q h => nomatch h) d_S_piece_11
  · rw [hpa] at hr1
    replace hr1 : r1 = some x.1 := hr1
    subst hr1
    obtain ⟨jx, nx, he⟩ := chG_mem (scell h cn (hdO L none) ha f v w z) none (pAt_mem hpa).1
    refine lv_astore_n (lv' := [(2, .ref x.1), (0, .ref h), (1, .int a)]) hx hb d_S_piece_5 rfl hl (by decide) rfl (fun ls hl => ?_)
    refine lv_aload_n hx hb d_S_piece_6 rfl (lv_at hl 0 rfl) ?_
    refine lv_ifnonnull (tgt := 12) hx hb d_S_piece_7 (by decide) ?_
    refine lv_aload_n hx hb d_S_piece_12 rfl (lv_at hl 0 rfl) ?_
    refine va_getN (D := D) (ci := 1) (v := .int (bI x.2.2.2.1)) (C := R_P) (T := F_P) (N := 6) hx hb hg gi_P hown hK hP jx he rfl 2 (by decide) (va_Nw.use rfl (hN.1 (37, "used", "Z") (by decide))) (fun _ h9 => h9) rfl d_S_piece_13 ?_
    refine lv_if_eq (tgt := 26) hx hb d_S_piece_16 (by decide) (fun c_16 => ?_) (fun c_16 => ?_)
    · refine lv_aload_n hx hb d_S_piece_26 rfl (lv_at hl 0 rfl) ?_
      refine va_getN (D := D) (ci := 1) (v := .int (nI x.2.2.1)) (C := R_P) (T := F_P) (N := 6) hx hb hg gi_P hown hK hP jx he rfl 1 (by decide) (va_Nw.use rfl (hN.1 (60, "size", "I") (by decide))) (fun _ h9 => h9) rfl d_S_piece_27 ?_
      refine lv_ineg hx hb d_S_piece_30 ?_
      exact W.iret (v := (-(nI x.2.2.1))) hx hb hr (fun t ht hW => ⟨_, rfl, (by simp [hpa, show x.2.2.2.1 = false from bI_0.mp c_16]), ht⟩) (fun q h => nomatch h) d_S_piece_31
    · refine lv_aload_n hx hb d_S_piece_19 rfl (lv_at hl 0 rfl) ?_
      refine va_getN (D := D) (ci := 1) (v := .int (nI x.2.2.1)) (C := R_P) (T := F_P) (N := 6) hx hb hg gi_P hown hK hP jx he rfl 1 (by decide) (va_Nw.use rfl (hN.1 (60, "size", "I") (by decide))) (fun _ h9 => h9) rfl d_S_piece_20 ?_
      refine lv_goto (tgt := 31) hx hb d_S_piece_23 (by decide) ?_
      exact W.iret (v := (nI x.2.2.1)) hx hb hr (fun t ht hW => ⟨_, rfl, (by simp [hpa, show x.2.2.2.1 = true from bI_n0.mp c_16]), ht⟩) (fun q h => nomatch h) d_S_piece_31
set_option maxHeartbeats 4000000 in
set_option maxRecDepth 100000 in
theorem c_S_marked (l : Launch) (D : va_G) (ty : tyL) (h cn : Nat) (ha : Option Nat) (f : Nat) (v w z : Int32) (L : List AP) (a : Int32) : Met l y_S_marked (Cond.code y_S_marked b_S_marked 3 (some .boolean) :: GW) ({ frames := 1, cells := 0, slots := 0, locals := 22 }) (va_Pc [.ref h, .int a] (at0 D ty (scell h cn (hdO L none) ha f v w z :: chG L none))) (vp_Si (fun r => r = bI (match pAt a L with | none => false | some x => x.2.2.2.2.1))) 0 0 (fun _ => False) := by
  refine Met.ofW (cc := b_S_marked) (maxL := 3) (ret := (some .boolean)) (by decide) rfl ?_
  intro p e s m args below meth c s₁ B hml hv
  obtain ⟨rfl, hP, hK, hN⟩ := hv
  have hx := B.exec
  have hb := B.bytes
  have hr := B.returns
  have hg : ∀ w ∈ GW, w.before _ s = true := fun w h => atoms_spec (ws := Cond.code y_S_marked b_S_marked 3 (some .boolean) :: GW) B.pre w (List.mem_cons_of_mem _ h)
  have hown : s.vm.findClass R_S = some m.cls := findClass_of_methodNamed B.named
  have hlocks := B.notSynchronized
  have hl := lv_entry ([.ref h, .int a]) (n := 3) (Nat.le_of_ble_eq_true rfl)
  rw [lg_entry_eq]
  generalize (lg_sl ([.ref h, .int a]) ++ List.replicate (3 - (lg_sl ([.ref h, .int a])).length) Slot.unset).toArray = ls at hl ⊢
  replace hl : lv_has ls 3 [(0, .ref h), (1, .int a)] := hl
  refine lv_aload_n hx hb d_S_marked_0 rfl (lv_at hl 0 rfl) ?_
  refine lv_iload_n hx hb d_S_marked_1 rfl (lv_at hl 1 rfl) ?_
  refine va_csq (va_runV (As := [.int a]) (rest := []) ⟨hx, hb, hml, hown, hg⟩ (c_S_pieceAt l D ty h cn ha f v w z L a) (cwV 1 hg (gw_V gw_111 gw_113 gw_2 gw_26 gw_114) rfl rfl rfl (by decide +kernel) ⟨Nat.le_of_ble_eq_true rfl, Nat.le_of_ble_eq_true rfl⟩) (pre_roV hP hK hN (ci := 0) (k := 0) rfl rfl) rfl rfl hl.1 rfl (lv_room (Nat.le_of_ble_eq_true rfl)) d_S_marked_2 ⟨Nat.le_of_ble_eq_true rfl, Nat.le_of_ble_eq_true rfl⟩).run (fun r1 hr1 => ?_)
  rcases hpa : pAt a L with _ | x
  · rw [hpa] at hr1
    replace hr1 : r1 = none := hr1
    subst hr1
    refine lv_astore_nN (lv' := [(2, .null), (0, .ref h), (1, .int a)]) hx hb d_S_marked_5 rfl hl (by decide) rfl (fun ls hl => ?_)
    refine lv_aload_nN hx hb d_S_marked_6 rfl (lv_at hl 0 rfl) ?_
    refine lv_ifnullN (tgt := 21) hx hb d_S_marked_7 (by decide) ?_
    refine lv_iconst (v := 0) hx hb d_S_marked_21 (by decide) ?_
    exact W.zret (v := 0) hx hb hr rfl (fun t ht hW => ⟨_, rfl, rfl, ht⟩) (fun q h => nomatch h) d_S_marked_22
  · rw [hpa] at hr1
    replace hr1 : r1 = some x.1 := hr1
    subst hr1
    obtain ⟨jx, nx, he⟩ := chG_mem (scell h cn (hdO L none) ha f v w z) none (pAt_mem hpa).1
    refine lv_astore_n (lv' := [(2, .ref x.1), (0, .ref h), (1, .int a)]) hx hb d_S_marked_5 rfl hl (by decide) rfl (fun ls hl => ?_)
    refine lv_aload_n hx hb d_S_marked_6 rfl (lv_at hl 0 rfl) ?_
    refine lv_ifnull hx hb d_S_marked_7 ?_
    refine lv_aload_n hx hb d_S_marked_10 rfl (lv_at hl 0 rfl) ?_
    refine va_getN (D := D) (ci := 1) (v := .int (bI x.2.2.2.2.1)) (C := R_P) (T := F_P) (N := 6) hx hb hg gi_P hown hK hP jx he rfl 3 (by decide) (va_Nw.use rfl (hN.1 (50, "marked", "Z") (by decide))) (fun _ h9 => h9) rfl d_S_marked_11 ?_
    refine lv_if_eq (tgt := 21) hx hb d_S_marked_14 (by decide) (fun c_14 => ?_) (fun c_14 => ?_)
    · refine lv_iconst (v := 0) hx hb d_S_marked_21 (by decide) ?_
      exact W.zret (v := 0) hx hb hr rfl (fun t ht hW => ⟨_, rfl, (by simp [hpa, show x.2.2.2.2.1 = false from bI_0.mp c_14, bI]), ht⟩) (fun q h => nomatch h) d_S_marked_22
    · refine lv_iconst (v := 1) hx hb d_S_marked_17 (by decide) ?_
      refine lv_goto (tgt := 22) hx hb d_S_marked_18 (by decide) ?_
      exact W.zret (v := 1) hx hb hr rfl (fun t ht hW => ⟨_, rfl, (by simp [hpa, show x.2.2.2.2.1 = true from bI_n0.mp c_14, bI]), ht⟩) (fun q h => nomatch h) d_S_marked_22
set_option maxHeartbeats 4000000 in
set_option maxRecDepth 100000 in
theorem c_S_faults (l : Launch) (D : va_G) (ty : tyL) (h cn f : Nat) (v w z : Int32) (L p0 s0 : List AP) (hL : L = p0 ++ s0) (hBd : Bd L) (hf : f < 2 ^ 62) (hcn : cn < 2 ^ 30) (hT : Til 1 L (cn + 1)) (hM : MkU L) (hO : TmO f L) (hNo : NoM p0 s0) (hnd : (L.map Prod.fst).Nodup) : Met l y_S_faults (Cond.code y_S_faults b_S_faults 5 (some .int) :: GW) ({ frames := 1, cells := 0, slots := 0, locals := 21 }) (va_Pc [.ref h] (at0 D ty (scell h cn (hdO L none) (hdO s0 none) f v w z :: chG L none))) (vp_Si (fun r => r = 0)) 0 0 (fun _ => False) := by
  refine Met.ofW (cc := b_S_faults) (maxL := 5) (ret := (some .int)) (by decide) rfl ?_
  intro p e s m args below meth c s₁ B hml hv
  obtain ⟨rfl, hP, hK, hN⟩ := hv
  have hx := B.exec
  have hb := B.bytes
  have hr := B.returns
  have hg : ∀ w ∈ GW, w.before _ s = true := fun w h => atoms_spec (ws := Cond.code y_S_faults b_S_faults 5 (some .int) :: GW) B.pre w (List.mem_cons_of_mem _ h)
  have hown : s.vm.findClass R_S = some m.cls := findClass_of_methodNamed B.named
  have hlocks := B.notSynchronized
  have hl := lv_entry ([.ref h]) (n := 5) (Nat.le_of_ble_eq_true rfl)
  rw [lg_entry_eq]
  generalize (lg_sl ([.ref h]) ++ List.replicate (5 - (lg_sl ([.ref h])).length) Slot.unset).toArray = ls at hl ⊢
  replace hl : lv_has ls 5 [(0, .ref h)] := hl
  refine lv_iconst (v := 0) hx hb d_S_faults_0 (by decide) ?_
  refine lv_istore_n (lv' := [(1, .int 0), (0, .ref h)]) hx hb d_S_faults_1 rfl hl (by decide) rfl (fun ls hl => ?_)
  refine lv_iconst (v := 1) hx hb d_S_faults_2 (by decide) ?_
  refine lv_istore_n (lv' := [(2, .int 1), (1, .int 0), (0, .ref h)]) hx hb d_S_faults_3 rfl hl (by decide) rfl (fun ls hl => ?_)
  refine lv_aload_n hx hb d_S_faults_4 rfl (lv_at hl 2 rfl) ?_
  refine va_get (D := D) (ci := 0) (v := va_rf (hdO s0 none)) (C := R_S) (T := F_S) (N := 7) hx hb hg gi_S hown hK hP 0 rfl rfl 2 (by decide) (hg _ gw_83) (fun _ h9 => h9) rfl d_S_faults_5 ?_
  have hmet : ∃ met : Bool, (met = true ∨ (met = false ∧ ∃ q, L = q ++ s0 ∧ s0 ≠ [] ∧ ∀ x ∈ q, x.2.2.2.2.1 = false)) ∧ (met = (hdO s0 none).isNone) := by
    rcases s0 with _ | ⟨y, s1⟩
    · exact ⟨true, Or.inl rfl, rfl⟩
    · exact ⟨false, Or.inr ⟨rfl, p0, hL, by simp, hNo (by simp)⟩, rfl⟩
  obtain ⟨met, hmt, hme⟩ := hmet
  refine sv_ifnonnull (tgt := 15) hx hb d_S_faults_8 (by decide) (fun y0 c_8 => ?_) (fun c_8 => ?_)
  · replace hme : met = false := by rw [hme, c_8]; rfl
    refine lv_iconst (v := 0) hx hb d_S_faults_15 (by decide) ?_
    refine lv_topi (fun y1 ey1 => ?_)
    obtain rfl : y1 = bI met := ey1.trans (by rw [hme]; rfl)
    clear ey1
    clear hme c_8
    refine lv_istore_n (lv' := [(3, .int (bI met)), (2, .int 1), (1, .int 0), (0, .ref h)]) hx hb d_S_faults_16 rfl hl (by decide) rfl (fun ls hl => ?_)
    refine lv_aload_n hx hb d_S_faults_17 rfl (lv_at hl 3 rfl) ?_
    refine va_get (D := D) (ci := 0) (v := va_rf (hdO L none)) (C := R_S) (T := F_S) (N := 7) hx hb hg gi_S hown hK hP 0 rfl rfl 1 (by decide) (hg _ gw_82) (fun _ h9 => h9) rfl d_S_faults_18 ?_
    refine sv_astore (lv' := [(4, va_rf (hdO L none)), (3, .int (bI met)), (2, .int 1), (1, .int 0), (0, .ref h)]) hx hb d_S_faults_21 hl (by decide) rfl (fun ls hl => ?_)
    have hmt0 := hmt
    obtain ⟨d, hd⟩ : ∃ q : Nat, q = 1 := ⟨_, rfl⟩
    obtain ⟨mt, hmt⟩ : ∃ q : Bool, q = met := ⟨_, rfl⟩
    obtain ⟨suf, hs⟩ : ∃ suf, suf = L := ⟨_, rfl⟩
    replace hl := lv_sub hl [0, 1, 2, 3, 4] rfl
    replace hl : lv_has ls 5 [(4, va_rf (hdO L none)), (3, .int (bI met)), (2, .int 1), (1, .int 0), (0, .ref h)] := hl
    replace hl : lv_has ls 5 [(4, va_rf (hdO suf none)), (3, .int (bI mt)), (2, .int (nI d)), (1, .int 0), (0, .ref h)] := by rw [hs, hmt, hd]; exact hl
    have hpre : ∃ pre, L = pre ++ suf := ⟨[], hs.symm⟩
    have hq : Til d suf (cn + 1) := by rw [hs, hd]; exact hT
    have hb9 : (mt = true ∨ (mt = false ∧ ∃ q, suf = q ++ s0 ∧ s0 ≠ [] ∧ ∀ x ∈ q, x.2.2.2.2.1 = false)) := by rw [hs, hmt]; exact hmt0
    clear hs hd hmt
    revert hb9
    revert hq
    revert hpre
    revert hl
    revert mt
    revert d
    revert ls
    induction suf with
    | nil =>
      intro ls d mt hl hpre hq hb9
      replace hl : lv_has ls 5 [(4, .null), (3, .int (bI mt)), (2, .int (nI d)), (1, .int 0), (0, .ref h)] := hl
      refine lv_aloadN hx hb d_S_faults_23 (lv_at hl 0 rfl) ?_
      refine lv_ifnullN (tgt := 131) hx hb d_S_faults_25 (by decide) ?_
      have hd9 : d = cn + 1 := hq
      have hmt9 : mt = true := by
        rcases hb9 with h9 | ⟨-, q, h9, hs0, -⟩
        · exact h9
        · exact absurd (List.append_eq_nil_iff.mp h9.symm).2 hs0
      subst hd9 hmt9
      refine lv_iload_n hx hb d_S_faults_131 rfl (lv_at hl 3 rfl) ?_
      refine lv_iload_n hx hb d_S_faults_132 rfl (lv_at hl 2 rfl) ?_
      refine lv_iconst (v := 1) hx hb d_S_faults_133 (by decide) ?_
      refine lv_aload_n hx hb d_S_faults_134 rfl (lv_at hl 4 rfl) ?_
      refine va_get (D := D) (ci := 0) (v := .int (nI cn)) (C := R_S) (T := F_S) (N := 7) hx hb hg gi_S hown hK hP 0 rfl rfl 0 (by decide) (hg _ gw_81) (fun _ h9 => h9) rfl d_S_faults_135 ?_
      refine lv_iadd hx hb d_S_faults_138 ?_
      refine lv_icmp_ne (tgt := 146) hx hb d_S_faults_139 (by decide) (fun c_139 => ?_) (fun c_139 => ?_)
      · exact absurd (by rw [show (1 : Int32) = nI 1 from rfl, nI_add, Nat.add_comm]) c_139
      · refine lv_iconst (v := 0) hx hb d_S_faults_142 (by decide) ?_
        refine lv_goto (tgt := 147) hx hb d_S_faults_143 (by decide) ?_
        refine lv_iadd hx hb d_S_faults_147 ?_
        refine lv_topi (fun y2 ey2 => ?_)
        obtain rfl : y2 = 0 := ey2.trans rfl
        clear ey2
        refine lv_istore_n (lv' := [(1, .int 0), (4, .null), (3, .int (bI true)), (2, .int (nI (cn + 1))), (0, .ref h)]) hx hb d_S_faults_148 rfl hl (by decide) rfl (fun ls hl => ?_)
        refine lv_iload_n hx hb d_S_faults_149 rfl (lv_at hl 0 rfl) ?_
        refine lv_iload_n hx hb d_S_faults_150 rfl (lv_at hl 2 rfl) ?_
        refine lv_if_eq (tgt := 158) hx hb d_S_faults_151 (by decide) (fun c_151 => ?_) (fun c_151 => ?_)
        · exact absurd c_151 (by decide)
        · refine lv_iconst (v := 0) hx hb d_S_faults_154 (by decide) ?_
          refine lv_goto (tgt := 159) hx hb d_S_faults_155 (by decide) ?_
          refine lv_iadd hx hb d_S_faults_159 ?_
          refine lv_topi (fun y3 ey3 => ?_)
          obtain rfl : y3 = 0 := ey3.trans rfl
          clear ey3
          refine lv_istore_n (lv' := [(1, .int 0), (4, .null), (3, .int (bI true)), (2, .int (nI (cn + 1))), (0, .ref h)]) hx hb d_S_faults_160 rfl hl (by decide) rfl (fun ls hl => ?_)
          refine lv_iload_n hx hb d_S_faults_161 rfl (lv_at hl 0 rfl) ?_
          exact W.iret (v := 0) hx hb hr (fun t ht hW => ⟨_, rfl, rfl, ht⟩) (fun q h => nomatch h) d_S_faults_162
    | cons x suf ih =>
      intro ls d mt hl hpre hq hb9
      replace hl : lv_has ls 5 [(4, .ref x.1), (3, .int (bI mt)), (2, .int (nI d)), (1, .int 0), (0, .ref h)] := hl
      obtain ⟨pre, hpre⟩ := hpre
      have he := chG_at (scell h cn (hdO L none) (hdO s0 none) f v w z) pre x suf none
      rw [← hpre] at he
      have hxL : x ∈ L := by rw [hpre]; simp
      obtain ⟨hb1, hb2, hb3⟩ := hBd x hxL
      obtain ⟨hq1, hq2, hq3⟩ := hq
      refine lv_aload hx hb d_S_faults_23 (lv_at hl 0 rfl) ?_
      refine lv_ifnull hx hb d_S_faults_25 ?_
      rcases hb9 with hb9 | ⟨hb9, q, hq4, hs0, hq5⟩
      · subst hb9
        refine lv_iload_n hx hb d_S_faults_28 rfl (lv_at hl 1 rfl) ?_
        refine lv_if_ne (tgt := 41) hx hb d_S_faults_29 (by decide) (fun c_29 => ?_) (fun c_29 => ?_)
        · refine lv_iconst (v := 1) hx hb d_S_faults_41 (by decide) ?_
          refine lv_goto (tgt := 46) hx hb d_S_faults_42 (by decide) ?_
          refine lv_topi (fun y4 ey4 => ?_)
          obtain rfl : y4 = bI true := ey4.trans rfl
          clear ey4
          refine lv_istore_n (lv' := [(3, .int (bI true)), (4, .ref x.1), (2, .int (nI d)), (1, .int 0), (0, .ref h)]) hx hb d_S_faults_46 rfl hl (by decide) rfl (fun ls hl => ?_)
          refine lv_iload_n hx hb d_S_faults_47 rfl (lv_at hl 3 rfl) ?_
          refine lv_aload hx hb d_S_faults_48 (lv_at hl 1 rfl) ?_
          refine va_getN (D := D) (ci := 1) (v := .int (nI x.2.1)) (C := R_P) (T := F_P) (N := 6) hx hb hg gi_P hown hK hP (pre.length + 1) he rfl 0 (by decide) (va_Nw.use rfl (hN.1 (47, "begin", "I") (by decide))) (fun _ h9 => h9) rfl d_S_faults_50 ?_
          refine lv_iload_n hx hb d_S_faults_53 rfl (lv_at hl 2 rfl) ?_
          refine lv_icmp_ne (tgt := 61) hx hb d_S_faults_54 (by decide) (fun c_54 => ?_) (fun c_54 => ?_)
          · exact absurd (by rw [hq1]) c_54
          · refine lv_iconst (v := 0) hx hb d_S_faults_57 (by decide) ?_
            refine lv_goto (tgt := 62) hx hb d_S_faults_58 (by decide) ?_
            refine lv_iadd hx hb d_S_faults_62 ?_
            refine lv_topi (fun y5 ey5 => ?_)
            obtain rfl : y5 = 0 := ey5.trans rfl
            clear ey5
            refine lv_istore_n (lv' := [(1, .int 0), (3, .int (bI true)), (4, .ref x.1), (2, .int (nI d)), (0, .ref h)]) hx hb d_S_faults_63 rfl hl (by decide) rfl (fun ls hl => ?_)
            refine lv_iload_n hx hb d_S_faults_64 rfl (lv_at hl 0 rfl) ?_
            refine lv_aload hx hb d_S_faults_65 (lv_at hl 2 rfl) ?_
            refine va_getN (D := D) (ci := 1) (v := .int (nI x.2.2.1)) (C := R_P) (T := F_P) (N := 6) hx hb hg gi_P hown hK hP (pre.length + 1) he rfl 1 (by decide) (va_Nw.use rfl (hN.1 (60, "size", "I") (by decide))) (fun _ h9 => h9) rfl d_S_faults_67 ?_
            refine lv_iconst (v := 1) hx hb d_S_faults_70 (by decide) ?_
            refine lv_icmp_lt (tgt := 78) hx hb d_S_faults_71 (by decide) (fun c_71 => ?_) (fun c_71 => ?_)
            · exact absurd c_71 (fun h9 => by have h8 := (nI_ltI (b := 1) (by omega) (by decide)).mp h9; omega)
            · refine lv_iconst (v := 0) hx hb d_S_faults_74 (by decide) ?_
              refine lv_goto (tgt := 79) hx hb d_S_faults_75 (by decide) ?_
              refine lv_iadd hx hb d_S_faults_79 ?_
              refine lv_topi (fun y6 ey6 => ?_)
              obtain rfl : y6 = 0 := ey6.trans rfl
              clear ey6
              refine lv_istore_n (lv' := [(1, .int 0), (3, .int (bI true)), (4, .ref x.1), (2, .int (nI d)), (0, .ref h)]) hx hb d_S_faults_80 rfl hl (by decide) rfl (fun ls hl => ?_)
              refine lv_iload_n hx hb d_S_faults_81 rfl (lv_at hl 0 rfl) ?_
              refine lv_aload hx hb d_S_faults_82 (lv_at hl 2 rfl) ?_
              refine lv_iload_n hx hb d_S_faults_84 rfl (lv_at hl 1 rfl) ?_
              refine vp_callSi (va_runS (As := [.ref x.1, .int (bI true)]) (rest := [.int 0]) ⟨hx, hb, hml, hown, hg⟩ (c_S_isMarkRight l D ty _ (pre.length + 1) x (hdO suf none) he true) (va_cwS 2 hg (gw_S gw_123 gw_124 gw_26 gw_125) rfl rfl rfl (by decide +kernel) ⟨Nat.le_of_ble_eq_true rfl, Nat.le_of_ble_eq_true rfl⟩) (pre_roS hP hK hN) rfl rfl hl.1 rfl (lv_room (Nat.le_of_ble_eq_true rfl)) d_S_faults_85 ⟨Nat.le_of_ble_eq_true rfl, Nat.le_of_ble_eq_true rfl⟩).run (fun r1 hr1 => ?_)
              refine lv_if_eq (tgt := 95) hx hb d_S_faults_88 (by decide) (fun c_88 => ?_) (fun c_88 => ?_)
              · exact absurd c_88 (by
                  rw [hr1]
                  cases h9 : x.2.2.2.2.1
                  · simp [bI]
                  · simp [hM x hxL h9, bI])
              · refine lv_iconst (v := 0) hx hb d_S_faults_91 (by decide) ?_
                refine lv_goto (tgt := 96) hx hb d_S_faults_92 (by decide) ?_
                refine lv_iadd hx hb d_S_faults_96 ?_
                refine lv_topi (fun y7 ey7 => ?_)
                obtain rfl : y7 = 0 := ey7.trans rfl
                clear ey7
                refine lv_istore_n (lv' := [(1, .int 0), (3, .int (bI true)), (4, .ref x.1), (2, .int (nI d)), (0, .ref h)]) hx hb d_S_faults_97 rfl hl (by decide) rfl (fun ls hl => ?_)
                refine lv_iload_n hx hb d_S_faults_98 rfl (lv_at hl 0 rfl) ?_
                refine lv_aload_n hx hb d_S_faults_99 rfl (lv_at hl 4 rfl) ?_
                refine lv_aload hx hb d_S_faults_100 (lv_at hl 2 rfl) ?_
                refine vp_callSi (va_runV (As := [.ref x.1]) (rest := [.int 0]) ⟨hx, hb, hml, hown, hg⟩ (c_S_isTimeRight l D ty h cn (hdO s0 none) f v w z L (pre.length + 1) x (hdO suf none) he (by omega) (by omega)) (cwV 1 hg (gw_V gw_126 gw_128 gw_3 gw_26 gw_129) rfl rfl rfl (by decide +kernel) ⟨Nat.le_of_ble_eq_true rfl, Nat.le_of_ble_eq_true rfl⟩) (pre_roV hP hK hN (ci := 0) (k := 0) rfl rfl) rfl rfl hl.1 rfl (lv_room (Nat.le_of_ble_eq_true rfl)) d_S_faults_102 ⟨Nat.le_of_ble_eq_true rfl, Nat.le_of_ble_eq_true rfl⟩).run (fun r2 hr2 => ?_)
                refine lv_if_eq (tgt := 112) hx hb d_S_faults_105 (by decide) (fun c_105 => ?_) (fun c_105 => ?_)
                · exact absurd c_105 (by
                    rw [hr2]
                    cases h9 : x.2.2.2.1
                    · simp [hO x hxL h9, bI]
                    · simp [bI])
                · refine lv_iconst (v := 0) hx hb d_S_faults_108 (by decide) ?_
                  refine lv_goto (tgt := 113) hx hb d_S_faults_109 (by decide) ?_
                  refine lv_iadd hx hb d_S_faults_113 ?_
                  refine lv_topi (fun y8 ey8 => ?_)
                  obtain rfl : y8 = 0 := ey8.trans rfl
                  clear ey8
                  refine lv_istore_n (lv' := [(1, .int 0), (3, .int (bI true)), (4, .ref x.1), (2, .int (nI d)), (0, .ref h)]) hx hb d_S_faults_114 rfl hl (by decide) rfl (fun ls hl => ?_)
                  refine lv_aload hx hb d_S_faults_115 (lv_at hl 2 rfl) ?_
                  refine vp_callSi (va_runVN (As := []) (rest := []) ⟨hx, hb, hml, hown, hg⟩ (c_P_end l D ty _ (pre.length + 1) x (hdO suf none) he) ⟨va_cnB 0 hg (gw_c gw_133) rfl rfl rfl (hN.2.1 (104, y_P_end) (by decide +kernel)) (hg _ gw_27) (by decide +kernel) ⟨Nat.le_of_ble_eq_true rfl, Nat.le_of_ble_eq_true rfl⟩, hg _ gw_132, hg _ gw_4⟩ (pre_roV hP hK hN (ci := 1) rfl he) rfl rfl hl.1 rfl (lv_room (Nat.le_of_ble_eq_true rfl)) d_S_faults_117 ⟨Nat.le_of_ble_eq_true rfl, Nat.le_of_ble_eq_true rfl⟩).run (fun r3 hr3 => ?_)
                  subst hr3
                  refine lv_istore_n (lv' := [(2, .int (nI (x.2.1 + x.2.2.1))), (1, .int 0), (3, .int (bI true)), (4, .ref x.1), (0, .ref h)]) hx hb d_S_faults_120 rfl hl (by decide) rfl (fun ls hl => ?_)
                  refine lv_aload hx hb d_S_faults_121 (lv_at hl 3 rfl) ?_
                  refine va_getN (D := D) (ci := 1) (v := va_rf (hdO suf none)) (C := R_P) (T := F_P) (N := 6) hx hb hg gi_P hown hK hP (pre.length + 1) he rfl 5 (by decide) (va_Nw.use rfl (hN.1 (69, "next", "LSweepHand$Piece;") (by decide))) (fun _ h9 => h9) rfl d_S_faults_123 ?_
                  refine sv_astore (lv' := [(4, va_rf (hdO suf none)), (2, .int (nI (x.2.1 + x.2.2.1))), (1, .int 0), (3, .int (bI true)), (0, .ref h)]) hx hb d_S_faults_126 hl (by decide) rfl (fun ls hl => ?_)
                  refine lv_goto (tgt := 23) hx hb d_S_faults_128 (by decide) ?_
                  exact ih ls (x.2.1 + x.2.2.1) true (lv_sub hl [0, 3, 1, 2, 4] rfl) ⟨pre ++ [x], by rw [hpre, List.append_assoc]; rfl⟩ (by rw [hq1]; exact hq3) (Or.inl rfl)
        · exact absurd c_29 (by decide)
      · rcases q with _ | ⟨x9, q⟩
        · subst hb9
          have hha : hdO s0 none = some x.1 := by rw [← show x :: suf = s0 from hq4]; rfl
          refine lv_iload_n hx hb d_S_faults_28 rfl (lv_at hl 1 rfl) ?_
          refine lv_if_ne (tgt := 41) hx hb d_S_faults_29 (by decide) (fun c_29 => ?_) (fun c_29 => ?_)
          · exact absurd rfl c_29
          · refine lv_aload hx hb d_S_faults_32 (lv_at hl 0 rfl) ?_
            refine lv_aload_n hx hb d_S_faults_34 rfl (lv_at hl 4 rfl) ?_
            refine va_get (D := D) (ci := 0) (v := va_rf (hdO s0 none)) (C := R_S) (T := F_S) (N := 7) hx hb hg gi_S hown hK hP 0 rfl rfl 2 (by decide) (hg _ gw_83) (fun _ h9 => h9) rfl d_S_faults_35 ?_
            refine lv_acmp_ne (rx := (some x.1)) (ry := (hdO s0 none)) (tgt := 45) hx hb d_S_faults_38 (by decide) (fun c_38 => ?_) (fun c_38 => ?_)
            · exact absurd hha.symm c_38
            · refine lv_iconst (v := 1) hx hb d_S_faults_41 (by decide) ?_
              refine lv_goto (tgt := 46) hx hb d_S_faults_42 (by decide) ?_
              refine lv_topi (fun y9 ey9 => ?_)
              obtain rfl : y9 = bI true := ey9.trans rfl
              clear ey9
              refine lv_istore_n (lv' := [(3, .int (bI true)), (4, .ref x.1), (2, .int (nI d)), (1, .int 0), (0, .ref h)]) hx hb d_S_faults_46 rfl hl (by decide) rfl (fun ls hl => ?_)
              refine lv_iload_n hx hb d_S_faults_47 rfl (lv_at hl 3 rfl) ?_
              refine lv_aload hx hb d_S_faults_48 (lv_at hl 1 rfl) ?_
              refine va_getN (D := D) (ci := 1) (v := .int (nI x.2.1)) (C := R_P) (T := F_P) (N := 6) hx hb hg gi_P hown hK hP (pre.length + 1) he rfl 0 (by decide) (va_Nw.use rfl (hN.1 (47, "begin", "I") (by decide))) (fun _ h9 => h9) rfl d_S_faults_50 ?_
              refine lv_iload_n hx hb d_S_faults_53 rfl (lv_at hl 2 rfl) ?_
              refine lv_icmp_ne (tgt := 61) hx hb d_S_faults_54 (by decide) (fun c_54 => ?_) (fun c_54 => ?_)
              · exact absurd (by rw [hq1]) c_54
              · refine lv_iconst (v := 0) hx hb d_S_faults_57 (by decide) ?_
                refine lv_goto (tgt := 62) hx hb d_S_faults_58 (by decide) ?_
                refine lv_iadd hx hb d_S_faults_62 ?_
                refine lv_topi (fun y10 ey10 => ?_)
                obtain rfl : y10 = 0 := ey10.trans rfl
                clear ey10
                refine lv_istore_n (lv' := [(1, .int 0), (3, .int (bI true)), (4, .ref x.1), (2, .int (nI d)), (0, .ref h)]) hx hb d_S_faults_63 rfl hl (by decide) rfl (fun ls hl => ?_)
                refine lv_iload_n hx hb d_S_faults_64 rfl (lv_at hl 0 rfl) ?_
                refine lv_aload hx hb d_S_faults_65 (lv_at hl 2 rfl) ?_
                refine va_getN (D := D) (ci := 1) (v := .int (nI x.2.2.1)) (C := R_P) (T := F_P) (N := 6) hx hb hg gi_P hown hK hP (pre.length + 1) he rfl 1 (by decide) (va_Nw.use rfl (hN.1 (60, "size", "I") (by decide))) (fun _ h9 => h9) rfl d_S_faults_67 ?_
                refine lv_iconst (v := 1) hx hb d_S_faults_70 (by decide) ?_
                refine lv_icmp_lt (tgt := 78) hx hb d_S_faults_71 (by decide) (fun c_71 => ?_) (fun c_71 => ?_)
                · exact absurd c_71 (fun h9 => by have h8 := (nI_ltI (b := 1) (by omega) (by decide)).mp h9; omega)
                · refine lv_iconst (v := 0) hx hb d_S_faults_74 (by decide) ?_
                  refine lv_goto (tgt := 79) hx hb d_S_faults_75 (by decide) ?_
                  refine lv_iadd hx hb d_S_faults_79 ?_
                  refine lv_topi (fun y11 ey11 => ?_)
                  obtain rfl : y11 = 0 := ey11.trans rfl
                  clear ey11
                  refine lv_istore_n (lv' := [(1, .int 0), (3, .int (bI true)), (4, .ref x.1), (2, .int (nI d)), (0, .ref h)]) hx hb d_S_faults_80 rfl hl (by decide) rfl (fun ls hl => ?_)
                  refine lv_iload_n hx hb d_S_faults_81 rfl (lv_at hl 0 rfl) ?_
                  refine lv_aload hx hb d_S_faults_82 (lv_at hl 2 rfl) ?_
                  refine lv_iload_n hx hb d_S_faults_84 rfl (lv_at hl 1 rfl) ?_
                  refine vp_callSi (va_runS (As := [.ref x.1, .int (bI true)]) (rest := [.int 0]) ⟨hx, hb, hml, hown, hg⟩ (c_S_isMarkRight l D ty _ (pre.length + 1) x (hdO suf none) he true) (va_cwS 2 hg (gw_S gw_123 gw_124 gw_26 gw_125) rfl rfl rfl (by decide +kernel) ⟨Nat.le_of_ble_eq_true rfl, Nat.le_of_ble_eq_true rfl⟩) (pre_roS hP hK hN) rfl rfl hl.1 rfl (lv_room (Nat.le_of_ble_eq_true rfl)) d_S_faults_85 ⟨Nat.le_of_ble_eq_true rfl, Nat.le_of_ble_eq_true rfl⟩).run (fun r1 hr1 => ?_)
                  refine lv_if_eq (tgt := 95) hx hb d_S_faults_88 (by decide) (fun c_88 => ?_) (fun c_88 => ?_)
                  · exact absurd c_88 (by
                      rw [hr1]
                      cases h9 : x.2.2.2.2.1
                      · simp [bI]
                      · simp [hM x hxL h9, bI])
                  · refine lv_iconst (v := 0) hx hb d_S_faults_91 (by decide) ?_
                    refine lv_goto (tgt := 96) hx hb d_S_faults_92 (by decide) ?_
                    refine lv_iadd hx hb d_S_faults_96 ?_
                    refine lv_topi (fun y12 ey12 => ?_)
                    obtain rfl : y12 = 0 := ey12.trans rfl
                    clear ey12
                    refine lv_istore_n (lv' := [(1, .int 0), (3, .int (bI true)), (4, .ref x.1), (2, .int (nI d)), (0, .ref h)]) hx hb d_S_faults_97 rfl hl (by decide) rfl (fun ls hl => ?_)
                    refine lv_iload_n hx hb d_S_faults_98 rfl (lv_at hl 0 rfl) ?_
                    refine lv_aload_n hx hb d_S_faults_99 rfl (lv_at hl 4 rfl) ?_
                    refine lv_aload hx hb d_S_faults_100 (lv_at hl 2 rfl) ?_
                    refine vp_callSi (va_runV (As := [.ref x.1]) (rest := [.int 0]) ⟨hx, hb, hml, hown, hg⟩ (c_S_isTimeRight l D ty h cn (hdO s0 none) f v w z L (pre.length + 1) x (hdO suf none) he (by omega) (by omega)) (cwV 1 hg (gw_V gw_126 gw_128 gw_3 gw_26 gw_129) rfl rfl rfl (by decide +kernel) ⟨Nat.le_of_ble_eq_true rfl, Nat.le_of_ble_eq_true rfl⟩) (pre_roV hP hK hN (ci := 0) (k := 0) rfl rfl) rfl rfl hl.1 rfl (lv_room (Nat.le_of_ble_eq_true rfl)) d_S_faults_102 ⟨Nat.le_of_ble_eq_true rfl, Nat.le_of_ble_eq_true rfl⟩).run (fun r2 hr2 => ?_)
                    refine lv_if_eq (tgt := 112) hx hb d_S_faults_105 (by decide) (fun c_105 => ?_) (fun c_105 => ?_)
                    · exact absurd c_105 (by
                        rw [hr2]
                        cases h9 : x.2.2.2.1
                        · simp [hO x hxL h9, bI]
                        · simp [bI])
                    · refine lv_iconst (v := 0) hx hb d_S_faults_108 (by decide) ?_
                      refine lv_goto (tgt := 113) hx hb d_S_faults_109 (by decide) ?_
                      refine lv_iadd hx hb d_S_faults_113 ?_
                      refine lv_topi (fun y13 ey13 => ?_)
                      obtain rfl : y13 = 0 := ey13.trans rfl
                      clear ey13
                      refine lv_istore_n (lv' := [(1, .int 0), (3, .int (bI true)), (4, .ref x.1), (2, .int (nI d)), (0, .ref h)]) hx hb d_S_faults_114 rfl hl (by decide) rfl (fun ls hl => ?_)
                      refine lv_aload hx hb d_S_faults_115 (lv_at hl 2 rfl) ?_
                      refine vp_callSi (va_runVN (As := []) (rest := []) ⟨hx, hb, hml, hown, hg⟩ (c_P_end l D ty _ (pre.length + 1) x (hdO suf none) he) ⟨va_cnB 0 hg (gw_c gw_133) rfl rfl rfl (hN.2.1 (104, y_P_end) (by decide +kernel)) (hg _ gw_27) (by decide +kernel) ⟨Nat.le_of_ble_eq_true rfl, Nat.le_of_ble_eq_true rfl⟩, hg _ gw_132, hg _ gw_4⟩ (pre_roV hP hK hN (ci := 1) rfl he) rfl rfl hl.1 rfl (lv_room (Nat.le_of_ble_eq_true rfl)) d_S_faults_117 ⟨Nat.le_of_ble_eq_true rfl, Nat.le_of_ble_eq_true rfl⟩).run (fun r3 hr3 => ?_)
                      subst hr3
                      refine lv_istore_n (lv' := [(2, .int (nI (x.2.1 + x.2.2.1))), (1, .int 0), (3, .int (bI true)), (4, .ref x.1), (0, .ref h)]) hx hb d_S_faults_120 rfl hl (by decide) rfl (fun ls hl => ?_)
                      refine lv_aload hx hb d_S_faults_121 (lv_at hl 3 rfl) ?_
                      refine va_getN (D := D) (ci := 1) (v := va_rf (hdO suf none)) (C := R_P) (T := F_P) (N := 6) hx hb hg gi_P hown hK hP (pre.length + 1) he rfl 5 (by decide) (va_Nw.use rfl (hN.1 (69, "next", "LSweepHand$Piece;") (by decide))) (fun _ h9 => h9) rfl d_S_faults_123 ?_
                      refine sv_astore (lv' := [(4, va_rf (hdO suf none)), (2, .int (nI (x.2.1 + x.2.2.1))), (1, .int 0), (3, .int (bI true)), (0, .ref h)]) hx hb d_S_faults_126 hl (by decide) rfl (fun ls hl => ?_)
                      refine lv_goto (tgt := 23) hx hb d_S_faults_128 (by decide) ?_
                      exact ih ls (x.2.1 + x.2.2.1) true (lv_sub hl [0, 3, 1, 2, 4] rfl) ⟨pre ++ [x], by rw [hpre, List.append_assoc]; rfl⟩ (by rw [hq1]; exact hq3) (Or.inl rfl)
        · subst hb9
          have hq6 : suf = q ++ s0 := (List.cons.inj hq4).2
          obtain rfl := (List.cons.inj hq4).1
          have hxk : x.2.2.2.2.1 = false := hq5 x List.mem_cons_self
          have hha : ¬ (some x.1 : Option Nat) = hdO s0 none := by
            rcases s0 with _ | ⟨y, s1⟩
            · exact absurd rfl hs0
            · intro h9
              have h8 : x.1 = y.1 := Option.some.inj h9
              rw [hpre, hq6] at hnd
              rw [List.map_append, List.map_cons, List.map_append, List.map_cons] at hnd
              have h7 := (List.nodup_append.mp hnd).2.1
              exact (List.nodup_cons.mp h7).1 (by rw [h8]; simp)
          refine lv_iload_n hx hb d_S_faults_28 rfl (lv_at hl 1 rfl) ?_
          refine lv_if_ne (tgt := 41) hx hb d_S_faults_29 (by decide) (fun c_29 => ?_) (fun c_29 => ?_)
          · exact absurd rfl c_29
          · refine lv_aload hx hb d_S_faults_32 (lv_at hl 0 rfl) ?_
            refine lv_aload_n hx hb d_S_faults_34 rfl (lv_at hl 4 rfl) ?_
            refine va_get (D := D) (ci := 0) (v := va_rf (hdO s0 none)) (C := R_S) (T := F_S) (N := 7) hx hb hg gi_S hown hK hP 0 rfl rfl 2 (by decide) (hg _ gw_83) (fun _ h9 => h9) rfl d_S_faults_35 ?_
            refine lv_acmp_ne (rx := (some x.1)) (ry := (hdO s0 none)) (tgt := 45) hx hb d_S_faults_38 (by decide) (fun c_38 => ?_) (fun c_38 => ?_)
            · refine lv_iconst (v := 0) hx hb d_S_faults_45 (by decide) ?_
              refine lv_topi (fun y14 ey14 => ?_)
              obtain rfl : y14 = bI false := ey14.trans rfl
              clear ey14
              refine lv_istore_n (lv' := [(3, .int (bI false)), (4, .ref x.1), (2, .int (nI d)), (1, .int 0), (0, .ref h)]) hx hb d_S_faults_46 rfl hl (by decide) rfl (fun ls hl => ?_)
              refine lv_iload_n hx hb d_S_faults_47 rfl (lv_at hl 3 rfl) ?_
              refine lv_aload hx hb d_S_faults_48 (lv_at hl 1 rfl) ?_
              refine va_getN (D := D) (ci := 1) (v := .int (nI x.2.1)) (C := R_P) (T := F_P) (N := 6) hx hb hg gi_P hown hK hP (pre.length + 1) he rfl 0 (by decide) (va_Nw.use rfl (hN.1 (47, "begin", "I") (by decide))) (fun _ h9 => h9) rfl d_S_faults_50 ?_
              refine lv_iload_n hx hb d_S_faults_53 rfl (lv_at hl 2 rfl) ?_
              refine lv_icmp_ne (tgt := 61) hx hb d_S_faults_54 (by decide) (fun c_54 => ?_) (fun c_54 => ?_)
              · exact absurd (by rw [hq1]) c_54
              · refine lv_iconst (v := 0) hx hb d_S_faults_57 (by decide) ?_
                refine lv_goto (tgt := 62) hx hb d_S_faults_58 (by decide) ?_
                refine lv_iadd hx hb d_S_faults_62 ?_
                refine lv_topi (fun y15 ey15 => ?_)
                obtain rfl : y15 = 0 := ey15.trans rfl
                clear ey15
                refine lv_istore_n (lv' := [(1, .int 0), (3, .int (bI false)), (4, .ref x.1), (2, .int (nI d)), (0, .ref h)]) hx hb d_S_faults_63 rfl hl (by decide) rfl (fun ls hl => ?_)
                refine lv_iload_n hx hb d_S_faults_64 rfl (lv_at hl 0 rfl) ?_
                refine lv_aload hx hb d_S_faults_65 (lv_at hl 2 rfl) ?_
                refine va_getN (D := D) (ci := 1) (v := .int (nI x.2.2.1)) (C := R_P) (T := F_P) (N := 6) hx hb hg gi_P hown hK hP (pre.length + 1) he rfl 1 (by decide) (va_Nw.use rfl (hN.1 (60, "size", "I") (by decide))) (fun _ h9 => h9) rfl d_S_faults_67 ?_
                refine lv_iconst (v := 1) hx hb d_S_faults_70 (by decide) ?_
                refine lv_icmp_lt (tgt := 78) hx hb d_S_faults_71 (by decide) (fun c_71 => ?_) (fun c_71 => ?_)
                · exact absurd c_71 (fun h9 => by have h8 := (nI_ltI (b := 1) (by omega) (by decide)).mp h9; omega)
                · refine lv_iconst (v := 0) hx hb d_S_faults_74 (by decide) ?_
                  refine lv_goto (tgt := 79) hx hb d_S_faults_75 (by decide) ?_
                  refine lv_iadd hx hb d_S_faults_79 ?_
                  refine lv_topi (fun y16 ey16 => ?_)
                  obtain rfl : y16 = 0 := ey16.trans rfl
                  clear ey16
                  refine lv_istore_n (lv' := [(1, .int 0), (3, .int (bI false)), (4, .ref x.1), (2, .int (nI d)), (0, .ref h)]) hx hb d_S_faults_80 rfl hl (by decide) rfl (fun ls hl => ?_)
                  refine lv_iload_n hx hb d_S_faults_81 rfl (lv_at hl 0 rfl) ?_
                  refine lv_aload hx hb d_S_faults_82 (lv_at hl 2 rfl) ?_
                  refine lv_iload_n hx hb d_S_faults_84 rfl (lv_at hl 1 rfl) ?_
                  refine vp_callSi (va_runS (As := [.ref x.1, .int (bI false)]) (rest := [.int 0]) ⟨hx, hb, hml, hown, hg⟩ (c_S_isMarkRight l D ty _ (pre.length + 1) x (hdO suf none) he false) (va_cwS 2 hg (gw_S gw_123 gw_124 gw_26 gw_125) rfl rfl rfl (by decide +kernel) ⟨Nat.le_of_ble_eq_true rfl, Nat.le_of_ble_eq_true rfl⟩) (pre_roS hP hK hN) rfl rfl hl.1 rfl (lv_room (Nat.le_of_ble_eq_true rfl)) d_S_faults_85 ⟨Nat.le_of_ble_eq_true rfl, Nat.le_of_ble_eq_true rfl⟩).run (fun r1 hr1 => ?_)
                  refine lv_if_eq (tgt := 95) hx hb d_S_faults_88 (by decide) (fun c_88 => ?_) (fun c_88 => ?_)
                  · exact absurd c_88 (by rw [hr1, hxk]; simp [bI])
                  · refine lv_iconst (v := 0) hx hb d_S_faults_91 (by decide) ?_
                    refine lv_goto (tgt := 96) hx hb d_S_faults_92 (by decide) ?_
                    refine lv_iadd hx hb d_S_faults_96 ?_
                    refine lv_topi (fun y17 ey17 => ?_)
                    obtain rfl : y17 = 0 := ey17.trans rfl
                    clear ey17
                    refine lv_istore_n (lv' := [(1, .int 0), (3, .int (bI false)), (4, .ref x.1), (2, .int (nI d)), (0, .ref h)]) hx hb d_S_faults_97 rfl hl (by decide) rfl (fun ls hl => ?_)
                    refine lv_iload_n hx hb d_S_faults_98 rfl (lv_at hl 0 rfl) ?_
                    refine lv_aload_n hx hb d_S_faults_99 rfl (lv_at hl 4 rfl) ?_
                    refine lv_aload hx hb d_S_faults_100 (lv_at hl 2 rfl) ?_
                    refine vp_callSi (va_runV (As := [.ref x.1]) (rest := [.int 0]) ⟨hx, hb, hml, hown, hg⟩ (c_S_isTimeRight l D ty h cn (hdO s0 none) f v w z L (pre.length + 1) x (hdO suf none) he (by omega) (by omega)) (cwV 1 hg (gw_V gw_126 gw_128 gw_3 gw_26 gw_129) rfl rfl rfl (by decide +kernel) ⟨Nat.le_of_ble_eq_true rfl, Nat.le_of_ble_eq_true rfl⟩) (pre_roV hP hK hN (ci := 0) (k := 0) rfl rfl) rfl rfl hl.1 rfl (lv_room (Nat.le_of_ble_eq_true rfl)) d_S_faults_102 ⟨Nat.le_of_ble_eq_true rfl, Nat.le_of_ble_eq_true rfl⟩).run (fun r2 hr2 => ?_)
                    refine lv_if_eq (tgt := 112) hx hb d_S_faults_105 (by decide) (fun c_105 => ?_) (fun c_105 => ?_)
                    · exact absurd c_105 (by
                        rw [hr2]
                        cases h9 : x.2.2.2.1
                        · simp [hO x hxL h9, bI]
                        · simp [bI])
                    · refine lv_iconst (v := 0) hx hb d_S_faults_108 (by decide) ?_
                      refine lv_goto (tgt := 113) hx hb d_S_faults_109 (by decide) ?_
                      refine lv_iadd hx hb d_S_faults_113 ?_
                      refine lv_topi (fun y18 ey18 => ?_)
                      obtain rfl : y18 = 0 := ey18.trans rfl
                      clear ey18
                      refine lv_istore_n (lv' := [(1, .int 0), (3, .int (bI false)), (4, .ref x.1), (2, .int (nI d)), (0, .ref h)]) hx hb d_S_faults_114 rfl hl (by decide) rfl (fun ls hl => ?_)
                      refine lv_aload hx hb d_S_faults_115 (lv_at hl 2 rfl) ?_
                      refine vp_callSi (va_runVN (As := []) (rest := []) ⟨hx, hb, hml, hown, hg⟩ (c_P_end l D ty _ (pre.length + 1) x (hdO suf none) he) ⟨va_cnB 0 hg (gw_c gw_133) rfl rfl rfl (hN.2.1 (104, y_P_end) (by decide +kernel)) (hg _ gw_27) (by decide +kernel) ⟨Nat.le_of_ble_eq_true rfl, Nat.le_of_ble_eq_true rfl⟩, hg _ gw_132, hg _ gw_4⟩ (pre_roV hP hK hN (ci := 1) rfl he) rfl rfl hl.1 rfl (lv_room (Nat.le_of_ble_eq_true rfl)) d_S_faults_117 ⟨Nat.le_of_ble_eq_true rfl, Nat.le_of_ble_eq_true rfl⟩).run (fun r3 hr3 => ?_)
                      subst hr3
                      refine lv_istore_n (lv' := [(2, .int (nI (x.2.1 + x.2.2.1))), (1, .int 0), (3, .int (bI false)), (4, .ref x.1), (0, .ref h)]) hx hb d_S_faults_120 rfl hl (by decide) rfl (fun ls hl => ?_)
                      refine lv_aload hx hb d_S_faults_121 (lv_at hl 3 rfl) ?_
                      refine va_getN (D := D) (ci := 1) (v := va_rf (hdO suf none)) (C := R_P) (T := F_P) (N := 6) hx hb hg gi_P hown hK hP (pre.length + 1) he rfl 5 (by decide) (va_Nw.use rfl (hN.1 (69, "next", "LSweepHand$Piece;") (by decide))) (fun _ h9 => h9) rfl d_S_faults_123 ?_
                      refine sv_astore (lv' := [(4, va_rf (hdO suf none)), (2, .int (nI (x.2.1 + x.2.2.1))), (1, .int 0), (3, .int (bI false)), (0, .ref h)]) hx hb d_S_faults_126 hl (by decide) rfl (fun ls hl => ?_)
                      refine lv_goto (tgt := 23) hx hb d_S_faults_128 (by decide) ?_
                      exact ih ls (x.2.1 + x.2.2.1) false (lv_sub hl [0, 3, 1, 2, 4] rfl) ⟨pre ++ [x], by rw [hpre, List.append_assoc]; rfl⟩ (by rw [hq1]; exact hq3) (Or.inr ⟨rfl, q, hq6, hs0, fun y9 h9 => hq5 y9 (List.mem_cons_of_mem _ h9)⟩)
            · exact absurd c_38 hha
  · replace hme : met = true := by rw [hme, c_8]; rfl
    refine lv_iconst (v := 1) hx hb d_S_faults_11 (by decide) ?_
    refine lv_goto (tgt := 16) hx hb d_S_faults_12 (by decide) ?_
    refine lv_topi (fun y19 ey19 => ?_)
    obtain rfl : y19 = bI met := ey19.trans (by rw [hme]; rfl)
    clear ey19
    clear hme c_8
    refine lv_istore_n (lv' := [(3, .int (bI met)), (2, .int 1), (1, .int 0), (0, .ref h)]) hx hb d_S_faults_16 rfl hl (by decide) rfl (fun ls hl => ?_)
    refine lv_aload_n hx hb d_S_faults_17 rfl (lv_at hl 3 rfl) ?_
    refine va_get (D := D) (ci := 0) (v := va_rf (hdO L none)) (C := R_S) (T := F_S) (N := 7) hx hb hg gi_S hown hK hP 0 rfl rfl 1 (by decide) (hg _ gw_82) (fun _ h9 => h9) rfl d_S_faults_18 ?_
    refine sv_astore (lv' := [(4, va_rf (hdO L none)), (3, .int (bI met)), (2, .int 1), (1, .int 0), (0, .ref h)]) hx hb d_S_faults_21 hl (by decide) rfl (fun ls hl => ?_)
    have hmt0 := hmt
    obtain ⟨d, hd⟩ : ∃ q : Nat, q = 1 := ⟨_, rfl⟩
    obtain ⟨mt, hmt⟩ : ∃ q : Bool, q = met := ⟨_, rfl⟩
    obtain ⟨suf, hs⟩ : ∃ suf, suf = L := ⟨_, rfl⟩
    replace hl := lv_sub hl [0, 1, 2, 3, 4] rfl
    replace hl : lv_has ls 5 [(4, va_rf (hdO L none)), (3, .int (bI met)), (2, .int 1), (1, .int 0), (0, .ref h)] := hl
    replace hl : lv_has ls 5 [(4, va_rf (hdO suf none)), (3, .int (bI mt)), (2, .int (nI d)), (1, .int 0), (0, .ref h)] := by rw [hs, hmt, hd]; exact hl
    have hpre : ∃ pre, L = pre ++ suf := ⟨[], hs.symm⟩
    have hq : Til d suf (cn + 1) := by rw [hs, hd]; exact hT
    have hb9 : (mt = true ∨ (mt = false ∧ ∃ q, suf = q ++ s0 ∧ s0 ≠ [] ∧ ∀ x ∈ q, x.2.2.2.2.1 = false)) := by rw [hs, hmt]; exact hmt0
    clear hs hd hmt
    revert hb9
    revert hq
    revert hpre
    revert hl
    revert mt
    revert d
    revert ls
    induction suf with
    | nil =>
      intro ls d mt hl hpre hq hb9
      replace hl : lv_has ls 5 [(4, .null), (3, .int (bI mt)), (2, .int (nI d)), (1, .int 0), (0, .ref h)] := hl
      refine lv_aloadN hx hb d_S_faults_23 (lv_at hl 0 rfl) ?_
      refine lv_ifnullN (tgt := 131) hx hb d_S_faults_25 (by decide) ?_
      have hd9 : d = cn + 1 := hq
      have hmt9 : mt = true := by
        rcases hb9 with h9 | ⟨-, q, h9, hs0, -⟩
        · exact h9
        · exact absurd (List.append_eq_nil_iff.mp h9.symm).2 hs0
      subst hd9 hmt9
      refine lv_iload_n hx hb d_S_faults_131 rfl (lv_at hl 3 rfl) ?_
      refine lv_iload_n hx hb d_S_faults_132 rfl (lv_at hl 2 rfl) ?_
      refine lv_iconst (v := 1) hx hb d_S_faults_133 (by decide) ?_
      refine lv_aload_n hx hb d_S_faults_134 rfl (lv_at hl 4 rfl) ?_
      refine va_get (D := D) (ci := 0) (v := .int (nI cn)) (C := R_S) (T := F_S) (N := 7) hx hb hg gi_S hown hK hP 0 rfl rfl 0 (by decide) (hg _ gw_81) (fun _ h9 => h9) rfl d_S_faults_135 ?_
      refine lv_iadd hx hb d_S_faults_138 ?_
      refine lv_icmp_ne (tgt := 146) hx hb d_S_faults_139 (by decide) (fun c_139 => ?_) (fun c_139 => ?_)
      · exact absurd (by rw [show (1 : Int32) = nI 1 from rfl, nI_add, Nat.add_comm]) c_139
      · refine lv_iconst (v := 0) hx hb d_S_faults_142 (by decide) ?_
        refine lv_goto (tgt := 147) hx hb d_S_faults_143 (by decide) ?_
        refine lv_iadd hx hb d_S_faults_147 ?_
        refine lv_topi (fun y20 ey20 => ?_)
        obtain rfl : y20 = 0 := ey20.trans rfl
        clear ey20
        refine lv_istore_n (lv' := [(1, .int 0), (4, .null), (3, .int (bI true)), (2, .int (nI (cn + 1))), (0, .ref h)]) hx hb d_S_faults_148 rfl hl (by decide) rfl (fun ls hl => ?_)
        refine lv_iload_n hx hb d_S_faults_149 rfl (lv_at hl 0 rfl) ?_
        refine lv_iload_n hx hb d_S_faults_150 rfl (lv_at hl 2 rfl) ?_
        refine lv_if_eq (tgt := 158) hx hb d_S_faults_151 (by decide) (fun c_151 => ?_) (fun c_151 => ?_)
        · exact absurd c_151 (by decide)
        · refine lv_iconst (v := 0) hx hb d_S_faults_154 (by decide) ?_
          refine lv_goto (tgt := 159) hx hb d_S_faults_155 (by decide) ?_
          refine lv_iadd hx hb d_S_faults_159 ?_
          refine lv_topi (fun y21 ey21 => ?_)
          obtain rfl : y21 = 0 := ey21.trans rfl
          clear ey21
          refine lv_istore_n (lv' := [(1, .int 0), (4, .null), (3, .int (bI true)), (2, .int (nI (cn + 1))), (0, .ref h)]) hx hb d_S_faults_160 rfl hl (by decide) rfl (fun ls hl => ?_)
          refine lv_iload_n hx hb d_S_faults_161 rfl (lv_at hl 0 rfl) ?_
          exact W.iret (v := 0) hx hb hr (fun t ht hW => ⟨_, rfl, rfl, ht⟩) (fun q h => nomatch h) d_S_faults_162
    | cons x suf ih =>
      intro ls d mt hl hpre hq hb9
      replace hl : lv_has ls 5 [(4, .ref x.1), (3, .int (bI mt)), (2, .int (nI d)), (1, .int 0), (0, .ref h)] := hl
      obtain ⟨pre, hpre⟩ := hpre
      have he := chG_at (scell h cn (hdO L none) (hdO s0 none) f v w z) pre x suf none
      rw [← hpre] at he
      have hxL : x ∈ L := by rw [hpre]; simp
      obtain ⟨hb1, hb2, hb3⟩ := hBd x hxL
      obtain ⟨hq1, hq2, hq3⟩ := hq
      refine lv_aload hx hb d_S_faults_23 (lv_at hl 0 rfl) ?_
      refine lv_ifnull hx hb d_S_faults_25 ?_
      rcases hb9 with hb9 | ⟨hb9, q, hq4, hs0, hq5⟩
      · subst hb9
        refine lv_iload_n hx hb d_S_faults_28 rfl (lv_at hl 1 rfl) ?_
        refine lv_if_ne (tgt := 41) hx hb d_S_faults_29 (by decide) (fun c_29 => ?_) (fun c_29 => ?_)
        · refine lv_iconst (v := 1) hx hb d_S_faults_41 (by decide) ?_
          refine lv_goto (tgt := 46) hx hb d_S_faults_42 (by decide) ?_
          refine lv_topi (fun y22 ey22 => ?_)
          obtain rfl : y22 = bI true := ey22.trans rfl
          clear ey22
          refine lv_istore_n (lv' := [(3, .int (bI true)), (4, .ref x.1), (2, .int (nI d)), (1, .int 0), (0, .ref h)]) hx hb d_S_faults_46 rfl hl (by decide) rfl (fun ls hl => ?_)
          refine lv_iload_n hx hb d_S_faults_47 rfl (lv_at hl 3 rfl) ?_
          refine lv_aload hx hb d_S_faults_48 (lv_at hl 1 rfl) ?_
          refine va_getN (D := D) (ci := 1) (v := .int (nI x.2.1)) (C := R_P) (T := F_P) (N := 6) hx hb hg gi_P hown hK hP (pre.length + 1) he rfl 0 (by decide) (va_Nw.use rfl (hN.1 (47, "begin", "I") (by decide))) (fun _ h9 => h9) rfl d_S_faults_50 ?_
          refine lv_iload_n hx hb d_S_faults_53 rfl (lv_at hl 2 rfl) ?_
          refine lv_icmp_ne (tgt := 61) hx hb d_S_faults_54 (by decide) (fun c_54 => ?_) (fun c_54 => ?_)
          · exact absurd (by rw [hq1]) c_54
          · refine lv_iconst (v := 0) hx hb d_S_faults_57 (by decide) ?_
            refine lv_goto (tgt := 62) hx hb d_S_faults_58 (by decide) ?_
            refine lv_iadd hx hb d_S_faults_62 ?_
            refine lv_topi (fun y23 ey23 => ?_)
            obtain rfl : y23 = 0 := ey23.trans rfl
            clear ey23
            refine lv_istore_n (lv' := [(1, .int 0), (3, .int (bI true)), (4, .ref x.1), (2, .int (nI d)), (0, .ref h)]) hx hb d_S_faults_63 rfl hl (by decide) rfl (fun ls hl => ?_)
            refine lv_iload_n hx hb d_S_faults_64 rfl (lv_at hl 0 rfl) ?_
            refine lv_aload hx hb d_S_faults_65 (lv_at hl 2 rfl) ?_
            refine va_getN (D := D) (ci := 1) (v := .int (nI x.2.2.1)) (C := R_P) (T := F_P) (N := 6) hx hb hg gi_P hown hK hP (pre.length + 1) he rfl 1 (by decide) (va_Nw.use rfl (hN.1 (60, "size", "I") (by decide))) (fun _ h9 => h9) rfl d_S_faults_67 ?_
            refine lv_iconst (v := 1) hx hb d_S_faults_70 (by decide) ?_
            refine lv_icmp_lt (tgt := 78) hx hb d_S_faults_71 (by decide) (fun c_71 => ?_) (fun c_71 => ?_)
            · exact absurd c_71 (fun h9 => by have h8 := (nI_ltI (b := 1) (by omega) (by decide)).mp h9; omega)
            · refine lv_iconst (v := 0) hx hb d_S_faults_74 (by decide) ?_
              refine lv_goto (tgt := 79) hx hb d_S_faults_75 (by decide) ?_
              refine lv_iadd hx hb d_S_faults_79 ?_
              refine lv_topi (fun y24 ey24 => ?_)
              obtain rfl : y24 = 0 := ey24.trans rfl
              clear ey24
              refine lv_istore_n (lv' := [(1, .int 0), (3, .int (bI true)), (4, .ref x.1), (2, .int (nI d)), (0, .ref h)]) hx hb d_S_faults_80 rfl hl (by decide) rfl (fun ls hl => ?_)
              refine lv_iload_n hx hb d_S_faults_81 rfl (lv_at hl 0 rfl) ?_
              refine lv_aload hx hb d_S_faults_82 (lv_at hl 2 rfl) ?_
              refine lv_iload_n hx hb d_S_faults_84 rfl (lv_at hl 1 rfl) ?_
              refine vp_callSi (va_runS (As := [.ref x.1, .int (bI true)]) (rest := [.int 0]) ⟨hx, hb, hml, hown, hg⟩ (c_S_isMarkRight l D ty _ (pre.length + 1) x (hdO suf none) he true) (va_cwS 2 hg (gw_S gw_123 gw_124 gw_26 gw_125) rfl rfl rfl (by decide +kernel) ⟨Nat.le_of_ble_eq_true rfl, Nat.le_of_ble_eq_true rfl⟩) (pre_roS hP hK hN) rfl rfl hl.1 rfl (lv_room (Nat.le_of_ble_eq_true rfl)) d_S_faults_85 ⟨Nat.le_of_ble_eq_true rfl, Nat.le_of_ble_eq_true rfl⟩).run (fun r1 hr1 => ?_)
              refine lv_if_eq (tgt := 95) hx hb d_S_faults_88 (by decide) (fun c_88 => ?_) (fun c_88 => ?_)
              · exact absurd c_88 (by
                  rw [hr1]
                  cases h9 : x.2.2.2.2.1
                  · simp [bI]
                  · simp [hM x hxL h9, bI])
              · refine lv_iconst (v := 0) hx hb d_S_faults_91 (by decide) ?_
                refine lv_goto (tgt := 96) hx hb d_S_faults_92 (by decide) ?_
                refine lv_iadd hx hb d_S_faults_96 ?_
                refine lv_topi (fun y25 ey25 => ?_)
                obtain rfl : y25 = 0 := ey25.trans rfl
                clear ey25
                refine lv_istore_n (lv' := [(1, .int 0), (3, .int (bI true)), (4, .ref x.1), (2, .int (nI d)), (0, .ref h)]) hx hb d_S_faults_97 rfl hl (by decide) rfl (fun ls hl => ?_)
                refine lv_iload_n hx hb d_S_faults_98 rfl (lv_at hl 0 rfl) ?_
                refine lv_aload_n hx hb d_S_faults_99 rfl (lv_at hl 4 rfl) ?_
                refine lv_aload hx hb d_S_faults_100 (lv_at hl 2 rfl) ?_
                refine vp_callSi (va_runV (As := [.ref x.1]) (rest := [.int 0]) ⟨hx, hb, hml, hown, hg⟩ (c_S_isTimeRight l D ty h cn (hdO s0 none) f v w z L (pre.length + 1) x (hdO suf none) he (by omega) (by omega)) (cwV 1 hg (gw_V gw_126 gw_128 gw_3 gw_26 gw_129) rfl rfl rfl (by decide +kernel) ⟨Nat.le_of_ble_eq_true rfl, Nat.le_of_ble_eq_true rfl⟩) (pre_roV hP hK hN (ci := 0) (k := 0) rfl rfl) rfl rfl hl.1 rfl (lv_room (Nat.le_of_ble_eq_true rfl)) d_S_faults_102 ⟨Nat.le_of_ble_eq_true rfl, Nat.le_of_ble_eq_true rfl⟩).run (fun r2 hr2 => ?_)
                refine lv_if_eq (tgt := 112) hx hb d_S_faults_105 (by decide) (fun c_105 => ?_) (fun c_105 => ?_)
                · exact absurd c_105 (by
                    rw [hr2]
                    cases h9 : x.2.2.2.1
                    · simp [hO x hxL h9, bI]
                    · simp [bI])
                · refine lv_iconst (v := 0) hx hb d_S_faults_108 (by decide) ?_
                  refine lv_goto (tgt := 113) hx hb d_S_faults_109 (by decide) ?_
                  refine lv_iadd hx hb d_S_faults_113 ?_
                  refine lv_topi (fun y26 ey26 => ?_)
                  obtain rfl : y26 = 0 := ey26.trans rfl
                  clear ey26
                  refine lv_istore_n (lv' := [(1, .int 0), (3, .int (bI true)), (4, .ref x.1), (2, .int (nI d)), (0, .ref h)]) hx hb d_S_faults_114 rfl hl (by decide) rfl (fun ls hl => ?_)
                  refine lv_aload hx hb d_S_faults_115 (lv_at hl 2 rfl) ?_
                  refine vp_callSi (va_runVN (As := []) (rest := []) ⟨hx, hb, hml, hown, hg⟩ (c_P_end l D ty _ (pre.length + 1) x (hdO suf none) he) ⟨va_cnB 0 hg (gw_c gw_133) rfl rfl rfl (hN.2.1 (104, y_P_end) (by decide +kernel)) (hg _ gw_27) (by decide +kernel) ⟨Nat.le_of_ble_eq_true rfl, Nat.le_of_ble_eq_true rfl⟩, hg _ gw_132, hg _ gw_4⟩ (pre_roV hP hK hN (ci := 1) rfl he) rfl rfl hl.1 rfl (lv_room (Nat.le_of_ble_eq_true rfl)) d_S_faults_117 ⟨Nat.le_of_ble_eq_true rfl, Nat.le_of_ble_eq_true rfl⟩).run (fun r3 hr3 => ?_)
                  subst hr3
                  refine lv_istore_n (lv' := [(2, .int (nI (x.2.1 + x.2.2.1))), (1, .int 0), (3, .int (bI true)), (4, .ref x.1), (0, .ref h)]) hx hb d_S_faults_120 rfl hl (by decide) rfl (fun ls hl => ?_)
                  refine lv_aload hx hb d_S_faults_121 (lv_at hl 3 rfl) ?_
                  refine va_getN (D := D) (ci := 1) (v := va_rf (hdO suf none)) (C := R_P) (T := F_P) (N := 6) hx hb hg gi_P hown hK hP (pre.length + 1) he rfl 5 (by decide) (va_Nw.use rfl (hN.1 (69, "next", "LSweepHand$Piece;") (by decide))) (fun _ h9 => h9) rfl d_S_faults_123 ?_
                  refine sv_astore (lv' := [(4, va_rf (hdO suf none)), (2, .int (nI (x.2.1 + x.2.2.1))), (1, .int 0), (3, .int (bI true)), (0, .ref h)]) hx hb d_S_faults_126 hl (by decide) rfl (fun ls hl => ?_)
                  refine lv_goto (tgt := 23) hx hb d_S_faults_128 (by decide) ?_
                  exact ih ls (x.2.1 + x.2.2.1) true (lv_sub hl [0, 3, 1, 2, 4] rfl) ⟨pre ++ [x], by rw [hpre, List.append_assoc]; rfl⟩ (by rw [hq1]; exact hq3) (Or.inl rfl)
        · exact absurd c_29 (by decide)
      · rcases q with _ | ⟨x9, q⟩
        · subst hb9
          have hha : hdO s0 none = some x.1 := by rw [← show x :: suf = s0 from hq4]; rfl
          refine lv_iload_n hx hb d_S_faults_28 rfl (lv_at hl 1 rfl) ?_
          refine lv_if_ne (tgt := 41) hx hb d_S_faults_29 (by decide) (fun c_29 => ?_) (fun c_29 => ?_)
          · exact absurd rfl c_29
          · refine lv_aload hx hb d_S_faults_32 (lv_at hl 0 rfl) ?_
            refine lv_aload_n hx hb d_S_faults_34 rfl (lv_at hl 4 rfl) ?_
            refine va_get (D := D) (ci := 0) (v := va_rf (hdO s0 none)) (C := R_S) (T := F_S) (N := 7) hx hb hg gi_S hown hK hP 0 rfl rfl 2 (by decide) (hg _ gw_83) (fun _ h9 => h9) rfl d_S_faults_35 ?_
            refine lv_acmp_ne (rx := (some x.1)) (ry := (hdO s0 none)) (tgt := 45) hx hb d_S_faults_38 (by decide) (fun c_38 => ?_) (fun c_38 => ?_)
            · exact absurd hha.symm c_38
            · refine lv_iconst (v := 1) hx hb d_S_faults_41 (by decide) ?_
              refine lv_goto (tgt := 46) hx hb d_S_faults_42 (by decide) ?_
              refine lv_topi (fun y27 ey27 => ?_)
              obtain rfl : y27 = bI true := ey27.trans rfl
              clear ey27
              refine lv_istore_n (lv' := [(3, .int (bI true)), (4, .ref x.1), (2, .int (nI d)), (1, .int 0), (0, .ref h)]) hx hb d_S_faults_46 rfl hl (by decide) rfl (fun ls hl => ?_)
              refine lv_iload_n hx hb d_S_faults_47 rfl (lv_at hl 3 rfl) ?_
              refine lv_aload hx hb d_S_faults_48 (lv_at hl 1 rfl) ?_
              refine va_getN (D := D) (ci := 1) (v := .int (nI x.2.1)) (C := R_P) (T := F_P) (N := 6) hx hb hg gi_P hown hK hP (pre.length + 1) he rfl 0 (by decide) (va_Nw.use rfl (hN.1 (47, "begin", "I") (by decide))) (fun _ h9 => h9) rfl d_S_faults_50 ?_
              refine lv_iload_n hx hb d_S_faults_53 rfl (lv_at hl 2 rfl) ?_
              refine lv_icmp_ne (tgt := 61) hx hb d_S_faults_54 (by decide) (fun c_54 => ?_) (fun c_54 => ?_)
              · exact absurd (by rw [hq1]) c_54
              · refine lv_iconst (v := 0) hx hb d_S_faults_57 (by decide) ?_
                refine lv_goto (tgt := 62) hx hb d_S_faults_58 (by decide) ?_
                refine lv_iadd hx hb d_S_faults_62 ?_
                refine lv_topi (fun y28 ey28 => ?_)
                obtain rfl : y28 = 0 := ey28.trans rfl
                clear ey28
                refine lv_istore_n (lv' := [(1, .int 0), (3, .int (bI true)), (4, .ref x.1), (2, .int (nI d)), (0, .ref h)]) hx hb d_S_faults_63 rfl hl (by decide) rfl (fun ls hl => ?_)
                refine lv_iload_n hx hb d_S_faults_64 rfl (lv_at hl 0 rfl) ?_
                refine lv_aload hx hb d_S_faults_65 (lv_at hl 2 rfl) ?_
                refine va_getN (D := D) (ci := 1) (v := .int (nI x.2.2.1)) (C := R_P) (T := F_P) (N := 6) hx hb hg gi_P hown hK hP (pre.length + 1) he rfl 1 (by decide) (va_Nw.use rfl (hN.1 (60, "size", "I") (by decide))) (fun _ h9 => h9) rfl d_S_faults_67 ?_
                refine lv_iconst (v := 1) hx hb d_S_faults_70 (by decide) ?_
                refine lv_icmp_lt (tgt := 78) hx hb d_S_faults_71 (by decide) (fun c_71 => ?_) (fun c_71 => ?_)
                · exact absurd c_71 (fun h9 => by have h8 := (nI_ltI (b := 1) (by omega) (by decide)).mp h9; omega)
                · refine lv_iconst (v := 0) hx hb d_S_faults_74 (by decide) ?_
                  refine lv_goto (tgt := 79) hx hb d_S_faults_75 (by decide) ?_
                  refine lv_iadd hx hb d_S_faults_79 ?_
                  refine lv_topi (fun y29 ey29 => ?_)
                  obtain rfl : y29 = 0 := ey29.trans rfl
                  clear ey29
                  refine lv_istore_n (lv' := [(1, .int 0), (3, .int (bI true)), (4, .ref x.1), (2, .int (nI d)), (0, .ref h)]) hx hb d_S_faults_80 rfl hl (by decide) rfl (fun ls hl => ?_)
                  refine lv_iload_n hx hb d_S_faults_81 rfl (lv_at hl 0 rfl) ?_
                  refine lv_aload hx hb d_S_faults_82 (lv_at hl 2 rfl) ?_
                  refine lv_iload_n hx hb d_S_faults_84 rfl (lv_at hl 1 rfl) ?_
                  refine vp_callSi (va_runS (As := [.ref x.1, .int (bI true)]) (rest := [.int 0]) ⟨hx, hb, hml, hown, hg⟩ (c_S_isMarkRight l D ty _ (pre.length + 1) x (hdO suf none) he true) (va_cwS 2 hg (gw_S gw_123 gw_124 gw_26 gw_125) rfl rfl rfl (by decide +kernel) ⟨Nat.le_of_ble_eq_true rfl, Nat.le_of_ble_eq_true rfl⟩) (pre_roS hP hK hN) rfl rfl hl.1 rfl (lv_room (Nat.le_of_ble_eq_true rfl)) d_S_faults_85 ⟨Nat.le_of_ble_eq_true rfl, Nat.le_of_ble_eq_true rfl⟩).run (fun r1 hr1 => ?_)
                  refine lv_if_eq (tgt := 95) hx hb d_S_faults_88 (by decide) (fun c_88 => ?_) (fun c_88 => ?_)
                  · exact absurd c_88 (by
                      rw [hr1]
                      cases h9 : x.2.2.2.2.1
                      · simp [bI]
                      · simp [hM x hxL h9, bI])
                  · refine lv_iconst (v := 0) hx hb d_S_faults_91 (by decide) ?_
                    refine lv_goto (tgt := 96) hx hb d_S_faults_92 (by decide) ?_
                    refine lv_iadd hx hb d_S_faults_96 ?_
                    refine lv_topi (fun y30 ey30 => ?_)
                    obtain rfl : y30 = 0 := ey30.trans rfl
                    clear ey30
                    refine lv_istore_n (lv' := [(1, .int 0), (3, .int (bI true)), (4, .ref x.1), (2, .int (nI d)), (0, .ref h)]) hx hb d_S_faults_97 rfl hl (by decide) rfl (fun ls hl => ?_)
                    refine lv_iload_n hx hb d_S_faults_98 rfl (lv_at hl 0 rfl) ?_
                    refine lv_aload_n hx hb d_S_faults_99 rfl (lv_at hl 4 rfl) ?_
                    refine lv_aload hx hb d_S_faults_100 (lv_at hl 2 rfl) ?_
                    refine vp_callSi (va_runV (As := [.ref x.1]) (rest := [.int 0]) ⟨hx, hb, hml, hown, hg⟩ (c_S_isTimeRight l D ty h cn (hdO s0 none) f v w z L (pre.length + 1) x (hdO suf none) he (by omega) (by omega)) (cwV 1 hg (gw_V gw_126 gw_128 gw_3 gw_26 gw_129) rfl rfl rfl (by decide +kernel) ⟨Nat.le_of_ble_eq_true rfl, Nat.le_of_ble_eq_true rfl⟩) (pre_roV hP hK hN (ci := 0) (k := 0) rfl rfl) rfl rfl hl.1 rfl (lv_room (Nat.le_of_ble_eq_true rfl)) d_S_faults_102 ⟨Nat.le_of_ble_eq_true rfl, Nat.le_of_ble_eq_true rfl⟩).run (fun r2 hr2 => ?_)
                    refine lv_if_eq (tgt := 112) hx hb d_S_faults_105 (by decide) (fun c_105 => ?_) (fun c_105 => ?_)
                    · exact absurd c_105 (by
                        rw [hr2]
                        cases h9 : x.2.2.2.1
                        · simp [hO x hxL h9, bI]
                        · simp [bI])
                    · refine lv_iconst (v := 0) hx hb d_S_faults_108 (by decide) ?_
                      refine lv_goto (tgt := 113) hx hb d_S_faults_109 (by decide) ?_
                      refine lv_iadd hx hb d_S_faults_113 ?_
                      refine lv_topi (fun y31 ey31 => ?_)
                      obtain rfl : y31 = 0 := ey31.trans rfl
                      clear ey31
                      refine lv_istore_n (lv' := [(1, .int 0), (3, .int (bI true)), (4, .ref x.1), (2, .int (nI d)), (0, .ref h)]) hx hb d_S_faults_114 rfl hl (by decide) rfl (fun ls hl => ?_)
                      refine lv_aload hx hb d_S_faults_115 (lv_at hl 2 rfl) ?_
                      refine vp_callSi (va_runVN (As := []) (rest := []) ⟨hx, hb, hml, hown, hg⟩ (c_P_end l D ty _ (pre.length + 1) x (hdO suf none) he) ⟨va_cnB 0 hg (gw_c gw_133) rfl rfl rfl (hN.2.1 (104, y_P_end) (by decide +kernel)) (hg _ gw_27) (by decide +kernel) ⟨Nat.le_of_ble_eq_true rfl, Nat.le_of_ble_eq_true rfl⟩, hg _ gw_132, hg _ gw_4⟩ (pre_roV hP hK hN (ci := 1) rfl he) rfl rfl hl.1 rfl (lv_room (Nat.le_of_ble_eq_true rfl)) d_S_faults_117 ⟨Nat.le_of_ble_eq_true rfl, Nat.le_of_ble_eq_true rfl⟩).run (fun r3 hr3 => ?_)
                      subst hr3
                      refine lv_istore_n (lv' := [(2, .int (nI (x.2.1 + x.2.2.1))), (1, .int 0), (3, .int (bI true)), (4, .ref x.1), (0, .ref h)]) hx hb d_S_faults_120 rfl hl (by decide) rfl (fun ls hl => ?_)
                      refine lv_aload hx hb d_S_faults_121 (lv_at hl 3 rfl) ?_
                      refine va_getN (D := D) (ci := 1) (v := va_rf (hdO suf none)) (C := R_P) (T := F_P) (N := 6) hx hb hg gi_P hown hK hP (pre.length + 1) he rfl 5 (by decide) (va_Nw.use rfl (hN.1 (69, "next", "LSweepHand$Piece;") (by decide))) (fun _ h9 => h9) rfl d_S_faults_123 ?_
                      refine sv_astore (lv' := [(4, va_rf (hdO suf none)), (2, .int (nI (x.2.1 + x.2.2.1))), (1, .int 0), (3, .int (bI true)), (0, .ref h)]) hx hb d_S_faults_126 hl (by decide) rfl (fun ls hl => ?_)
                      refine lv_goto (tgt := 23) hx hb d_S_faults_128 (by decide) ?_
                      exact ih ls (x.2.1 + x.2.2.1) true (lv_sub hl [0, 3, 1, 2, 4] rfl) ⟨pre ++ [x], by rw [hpre, List.append_assoc]; rfl⟩ (by rw [hq1]; exact hq3) (Or.inl rfl)
        · subst hb9
          have hq6 : suf = q ++ s0 := (List.cons.inj hq4).2
          obtain rfl := (List.cons.inj hq4).1
          have hxk : x.2.2.2.2.1 = false := hq5 x List.mem_cons_self
          have hha : ¬ (some x.1 : Option Nat) = hdO s0 none := by
            rcases s0 with _ | ⟨y, s1⟩
            · exact absurd rfl hs0
            · intro h9
              have h8 : x.1 = y.1 := Option.some.inj h9
              rw [hpre, hq6] at hnd
              rw [List.map_append, List.map_cons, List.map_append, List.map_cons] at hnd
              have h7 := (List.nodup_append.mp hnd).2.1
              exact (List.nodup_cons.mp h7).1 (by rw [h8]; simp)
          refine lv_iload_n hx hb d_S_faults_28 rfl (lv_at hl 1 rfl) ?_
          refine lv_if_ne (tgt := 41) hx hb d_S_faults_29 (by decide) (fun c_29 => ?_) (fun c_29 => ?_)
          · exact absurd rfl c_29
          · refine lv_aload hx hb d_S_faults_32 (lv_at hl 0 rfl) ?_
            refine lv_aload_n hx hb d_S_faults_34 rfl (lv_at hl 4 rfl) ?_
            refine va_get (D := D) (ci := 0) (v := va_rf (hdO s0 none)) (C := R_S) (T := F_S) (N := 7) hx hb hg gi_S hown hK hP 0 rfl rfl 2 (by decide) (hg _ gw_83) (fun _ h9 => h9) rfl d_S_faults_35 ?_
            refine lv_acmp_ne (rx := (some x.1)) (ry := (hdO s0 none)) (tgt := 45) hx hb d_S_faults_38 (by decide) (fun c_38 => ?_) (fun c_38 => ?_)
            · refine lv_iconst (v := 0) hx hb d_S_faults_45 (by decide) ?_
              refine lv_topi (fun y32 ey32 => ?_)
              obtain rfl : y32 = bI false := ey32.trans rfl
              clear ey32
              refine lv_istore_n (lv' := [(3, .int (bI false)), (4, .ref x.1), (2, .int (nI d)), (1, .int 0), (0, .ref h)]) hx hb d_S_faults_46 rfl hl (by decide) rfl (fun ls hl => ?_)
              refine lv_iload_n hx hb d_S_faults_47 rfl (lv_at hl 3 rfl) ?_
              refine lv_aload hx hb d_S_faults_48 (lv_at hl 1 rfl) ?_
              refine va_getN (D := D) (ci := 1) (v := .int (nI x.2.1)) (C := R_P) (T := F_P) (N := 6) hx hb hg gi_P hown hK hP (pre.length + 1) he rfl 0 (by decide) (va_Nw.use rfl (hN.1 (47, "begin", "I") (by decide))) (fun _ h9 => h9) rfl d_S_faults_50 ?_
              refine lv_iload_n hx hb d_S_faults_53 rfl (lv_at hl 2 rfl) ?_
              refine lv_icmp_ne (tgt := 61) hx hb d_S_faults_54 (by decide) (fun c_54 => ?_) (fun c_54 => ?_)
              · exact absurd (by rw [hq1]) c_54
              · refine lv_iconst (v := 0) hx hb d_S_faults_57 (by decide) ?_
                refine lv_goto (tgt := 62) hx hb d_S_faults_58 (by decide) ?_
                refine lv_iadd hx hb d_S_faults_62 ?_
                refine lv_topi (fun y33 ey33 => ?_)
                obtain rfl : y33 = 0 := ey33.trans rfl
                clear ey33
                refine lv_istore_n (lv' := [(1, .int 0), (3, .int (bI false)), (4, .ref x.1), (2, .int (nI d)), (0, .ref h)]) hx hb d_S_faults_63 rfl hl (by decide) rfl (fun ls hl => ?_)
                refine lv_iload_n hx hb d_S_faults_64 rfl (lv_at hl 0 rfl) ?_
                refine lv_aload hx hb d_S_faults_65 (lv_at hl 2 rfl) ?_
                refine va_getN (D := D) (ci := 1) (v := .int (nI x.2.2.1)) (C := R_P) (T := F_P) (N := 6) hx hb hg gi_P hown hK hP (pre.length + 1) he rfl 1 (by decide) (va_Nw.use rfl (hN.1 (60, "size", "I") (by decide))) (fun _ h9 => h9) rfl d_S_faults_67 ?_
                refine lv_iconst (v := 1) hx hb d_S_faults_70 (by decide) ?_
                refine lv_icmp_lt (tgt := 78) hx hb d_S_faults_71 (by decide) (fun c_71 => ?_) (fun c_71 => ?_)
                · exact absurd c_71 (fun h9 => by have h8 := (nI_ltI (b := 1) (by omega) (by decide)).mp h9; omega)
                · refine lv_iconst (v := 0) hx hb d_S_faults_74 (by decide) ?_
                  refine lv_goto (tgt := 79) hx hb d_S_faults_75 (by decide) ?_
                  refine lv_iadd hx hb d_S_faults_79 ?_
                  refine lv_topi (fun y34 ey34 => ?_)
                  obtain rfl : y34 = 0 := ey34.trans rfl
                  clear ey34
                  refine lv_istore_n (lv' := [(1, .int 0), (3, .int (bI false)), (4, .ref x.1), (2, .int (nI d)), (0, .ref h)]) hx hb d_S_faults_80 rfl hl (by decide) rfl (fun ls hl => ?_)
                  refine lv_iload_n hx hb d_S_faults_81 rfl (lv_at hl 0 rfl) ?_
                  refine lv_aload hx hb d_S_faults_82 (lv_at hl 2 rfl) ?_
                  refine lv_iload_n hx hb d_S_faults_84 rfl (lv_at hl 1 rfl) ?_
                  refine vp_callSi (va_runS (As := [.ref x.1, .int (bI false)]) (rest := [.int 0]) ⟨hx, hb, hml, hown, hg⟩ (c_S_isMarkRight l D ty _ (pre.length + 1) x (hdO suf none) he false) (va_cwS 2 hg (gw_S gw_123 gw_124 gw_26 gw_125) rfl rfl rfl (by decide +kernel) ⟨Nat.le_of_ble_eq_true rfl, Nat.le_of_ble_eq_true rfl⟩) (pre_roS hP hK hN) rfl rfl hl.1 rfl (lv_room (Nat.le_of_ble_eq_true rfl)) d_S_faults_85 ⟨Nat.le_of_ble_eq_true rfl, Nat.le_of_ble_eq_true rfl⟩).run (fun r1 hr1 => ?_)
                  refine lv_if_eq (tgt := 95) hx hb d_S_faults_88 (by decide) (fun c_88 => ?_) (fun c_88 => ?_)
                  · exact absurd c_88 (by rw [hr1, hxk]; simp [bI])
                  · refine lv_iconst (v := 0) hx hb d_S_faults_91 (by decide) ?_
                    refine lv_goto (tgt := 96) hx hb d_S_faults_92 (by decide) ?_
                    refine lv_iadd hx hb d_S_faults_96 ?_
                    refine lv_topi (fun y35 ey35 => ?_)
                    obtain rfl : y35 = 0 := ey35.trans rfl
                    clear ey35
                    refine lv_istore_n (lv' := [(1, .int 0), (3, .int (bI false)), (4, .ref x.1), (2, .int (nI d)), (0, .ref h)]) hx hb d_S_faults_97 rfl hl (by decide) rfl (fun ls hl => ?_)
                    refine lv_iload_n hx hb d_S_faults_98 rfl (lv_at hl 0 rfl) ?_
                    refine lv_aload_n hx hb d_S_faults_99 rfl (lv_at hl 4 rfl) ?_
                    refine lv_aload hx hb d_S_faults_100 (lv_at hl 2 rfl) ?_
                    refine vp_callSi (va_runV (As := [.ref x.1]) (rest := [.int 0]) ⟨hx, hb, hml, hown, hg⟩ (c_S_isTimeRight l D ty h cn (hdO s0 none) f v w z L (pre.length + 1) x (hdO suf none) he (by omega) (by omega)) (cwV 1 hg (gw_V gw_126 gw_128 gw_3 gw_26 gw_129) rfl rfl rfl (by decide +kernel) ⟨Nat.le_of_ble_eq_true rfl, Nat.le_of_ble_eq_true rfl⟩) (pre_roV hP hK hN (ci := 0) (k := 0) rfl rfl) rfl rfl hl.1 rfl (lv_room (Nat.le_of_ble_eq_true rfl)) d_S_faults_102 ⟨Nat.le_of_ble_eq_true rfl, Nat.le_of_ble_eq_true rfl⟩).run (fun r2 hr2 => ?_)
                    refine lv_if_eq (tgt := 112) hx hb d_S_faults_105 (by decide) (fun c_105 => ?_) (fun c_105 => ?_)
                    · exact absurd c_105 (by
                        rw [hr2]
                        cases h9 : x.2.2.2.1
                        · simp [hO x hxL h9, bI]
                        · simp [bI])
                    · refine lv_iconst (v := 0) hx hb d_S_faults_108 (by decide) ?_
                      refine lv_goto (tgt := 113) hx hb d_S_faults_109 (by decide) ?_
                      refine lv_iadd hx hb d_S_faults_113 ?_
                      refine lv_topi (fun y36 ey36 => ?_)
                      obtain rfl : y36 = 0 := ey36.trans rfl
                      clear ey36
                      refine lv_istore_n (lv' := [(1, .int 0), (3, .int (bI false)), (4, .ref x.1), (2, .int (nI d)), (0, .ref h)]) hx hb d_S_faults_114 rfl hl (by decide) rfl (fun ls hl => ?_)
                      refine lv_aload hx hb d_S_faults_115 (lv_at hl 2 rfl) ?_
                      refine vp_callSi (va_runVN (As := []) (rest := []) ⟨hx, hb, hml, hown, hg⟩ (c_P_end l D ty _ (pre.length + 1) x (hdO suf none) he) ⟨va_cnB 0 hg (gw_c gw_133) rfl rfl rfl (hN.2.1 (104, y_P_end) (by decide +kernel)) (hg _ gw_27) (by decide +kernel) ⟨Nat.le_of_ble_eq_true rfl, Nat.le_of_ble_eq_true rfl⟩, hg _ gw_132, hg _ gw_4⟩ (pre_roV hP hK hN (ci := 1) rfl he) rfl rfl hl.1 rfl (lv_room (Nat.le_of_ble_eq_true rfl)) d_S_faults_117 ⟨Nat.le_of_ble_eq_true rfl, Nat.le_of_ble_eq_true rfl⟩).run (fun r3 hr3 => ?_)
                      subst hr3
                      refine lv_istore_n (lv' := [(2, .int (nI (x.2.1 + x.2.2.1))), (1, .int 0), (3, .int (bI false)), (4, .ref x.1), (0, .ref h)]) hx hb d_S_faults_120 rfl hl (by decide) rfl (fun ls hl => ?_)
                      refine lv_aload hx hb d_S_faults_121 (lv_at hl 3 rfl) ?_
                      refine va_getN (D := D) (ci := 1) (v := va_rf (hdO suf none)) (C := R_P) (T := F_P) (N := 6) hx hb hg gi_P hown hK hP (pre.length + 1) he rfl 5 (by decide) (va_Nw.use rfl (hN.1 (69, "next", "LSweepHand$Piece;") (by decide))) (fun _ h9 => h9) rfl d_S_faults_123 ?_
                      refine sv_astore (lv' := [(4, va_rf (hdO suf none)), (2, .int (nI (x.2.1 + x.2.2.1))), (1, .int 0), (3, .int (bI false)), (0, .ref h)]) hx hb d_S_faults_126 hl (by decide) rfl (fun ls hl => ?_)
                      refine lv_goto (tgt := 23) hx hb d_S_faults_128 (by decide) ?_
                      exact ih ls (x.2.1 + x.2.2.1) false (lv_sub hl [0, 3, 1, 2, 4] rfl) ⟨pre ++ [x], by rw [hpre, List.append_assoc]; rfl⟩ (by rw [hq1]; exact hq3) (Or.inr ⟨rfl, q, hq6, hs0, fun y9 h9 => hq5 y9 (List.mem_cons_of_mem _ h9)⟩)
            · exact absurd c_38 hha
end
section
/-! worlds in another order -/
theorem sw_P_perm {D : va_G} {cl : List vw_C} {ws ws' : va_W} {H : Heap} (h : va_P D cl ws H) (hp : ws.Perm ws') : va_P D cl ws' H := sw_P_of h (fun q hq => hp.mem_iff.mpr hq)
theorem sw_D_perm2 {A : Nat → Prop} {ws ws' : va_W} (h : va_D A ws) (hp : ws.Perm ws') : va_D A ws' := sw_D_perm h (hp.map Prod.fst)
theorem sw_P_sub {D : va_G} {cl : List vw_C} {ws ws' : va_W} {H : Heap} (h : va_P D cl ws H) (hp : ws'.Sublist ws) : va_P D cl ws' H := sw_P_of h (fun q hq => hp.subset hq)
theorem sw_D_sub2 {A : Nat → Prop} {ws ws' : va_W} (h : va_D A ws) (hp : ws'.Sublist ws) : va_D A ws' := sw_D_sub h (hp.map Prod.fst)
theorem sw_new {α : Type} (S : α) (A : List α) (x : α) (B : List α) (y : α) : ((S :: (A ++ x :: B)) ++ [y]).Perm (S :: (A ++ x :: y :: B)) := by
  rw [List.cons_append, List.append_assoc, List.cons_append]
  exact List.Perm.cons S (List.Perm.append_left A (List.Perm.cons x (List.perm_append_singleton y B)))
theorem sw_new0 {α : Type} (S : α) (R : List α) (y : α) : ([S, y] : List α).Sublist ((S :: R) ++ [y]) := by
  rw [List.cons_append]
  exact List.Sublist.cons_cons S (List.sublist_append_right R [y])
theorem sw_set2 {α : Type} (S : α) (A : List α) (c d d' : α) (B : List α) : (S :: (A ++ c :: d :: B)).set (A.length + 2) d' = S :: (A ++ c :: d' :: B) := by
  have h := sw_set1 S (A ++ [c]) d d' B
  rw [List.length_append, List.append_assoc, List.append_assoc] at h
  exact h
theorem sw_get2 {α : Type} (S : α) (A : List α) (c d : α) (B : List α) : (S :: (A ++ c :: d :: B))[A.length + 2]? = some d := by
  have h := sw_get1 S (A ++ [c]) d B
  rw [List.length_append, List.append_assoc] at h
  exact h
/-! the pure steps of a sweep -/
def gaE (x : AP) (suf : List AP) : Bool := !x.2.2.2.1 && (gaM suf).isEmpty
def gaX (f : Nat) (x : AP) (suf : List AP) : AP := if gaE x suf then x else (x.1, x.2.1, x.2.2.1 + szS (gaM suf), false, false, f + 1)
def gaF (f : Nat) (x : AP) (suf : List AP) : Nat := if gaE x suf then f else f + 1
def gaW (x : AP) (suf : List AP) : Nat := if gaE x suf then 0 else (if x.2.2.2.1 then 1 else 0) + usS (gaM suf)
def stX (f : Nat) (x : AP) (suf : List AP) : AP := if isKp x then (x.1, x.2.1, x.2.2.1, x.2.2.2.1, false, x.2.2.2.2.2) else gaX f x suf
def stS (x : AP) (suf : List AP) : List AP := if isKp x then suf else gaR suf
def stF (f : Nat) (x : AP) (suf : List AP) : Nat := if isKp x then f else gaF f x suf
def stW (x : AP) (suf : List AP) : Nat := if isKp x then 0 else gaW x suf
theorem gaX_a (f : Nat) (x : AP) (suf : List AP) : (gaX f x suf).1 = x.1 := by unfold gaX; split <;> rfl
theorem stX_a (f : Nat) (x : AP) (suf : List AP) : (stX f x suf).1 = x.1 := by
  unfold stX; split
  · rfl
  · exact gaX_a f x suf
theorem hdO_mid (pre : List AP) (x x' : AP) (s s' : List AP) (n n' : Option Nat) (h : x'.1 = x.1) : hdO (pre ++ x' :: s') n' = hdO (pre ++ x :: s) n := by
  rw [hdO_app, hdO_app]
  show hdO pre (some x'.1) = hdO pre (some x.1)
  rw [h]
theorem gaR_nil {suf : List AP} (h : gaM suf = []) : gaR suf = suf := by
  have h2 := gaMR suf
  rw [h] at h2
  exact h2
/-- the piece behind is the next one: nothing was gathered -/
theorem ga_same {suf : List AP} (hnd : (suf.map Prod.fst).Nodup) : hdO (gaR suf) none = hdO suf none ↔ gaM suf = [] := by
  constructor
  · intro h
    rcases hm : gaM suf with _ | ⟨y, M⟩
    · rfl
    · exfalso
      have h2 := gaMR suf
      rw [hm] at h2
      have h3 : hdO suf none = some y.1 := by rw [← h2]; rfl
      rw [h3] at h
      rcases hr : gaR suf with _ | ⟨z, R⟩
      · rw [hr] at h; cases h
      · rw [hr] at h
        have h4 : z.1 = y.1 := Option.some.inj h
        rw [hr] at h2
        rw [← h2, List.cons_append, List.map_cons, List.map_append, List.map_cons] at hnd
        exact (List.nodup_cons.mp hnd).1 (by rw [← h4]; simp)
  · intro h
    rw [gaR_nil h]
end
section
set_option maxHeartbeats 4000000 in
set_option maxRecDepth 100000 in
theorem c_P_init (l : Launch) (D : va_G) (ty : tyL) (N0 sz : Nat) (ws : va_W) (q b n : Nat) (nx : Option Nat) : Met l y_P_init (Cond.code y_P_init b_P_init 4 none :: GW) ({ frames := 1, cells := 0, slots := 0, locals := 12 }) (va_Pc [.ref q, .int (nI b), .int (nI n), va_rf nx] (at1 D ty N0 sz (ws ++ [(q, .inr (1, [.int 0, .int 0, .int 0, .int 0, .long 0, .null]))]))) (va_Qv (fun ws' => ws' = ws ++ [pcell (q, b, n, false, false, 0) nx]) (at2 D ty (va_A (ws ++ [(q, .inr (1, [.int 0, .int 0, .int 0, .int 0, .long 0, .null]))]) sz)) (va_A (ws ++ [(q, .inr (1, [.int 0, .int 0, .int 0, .int 0, .long 0, .null]))]) sz)) 0 0 (va_A (ws ++ [(q, .inr (1, [.int 0, .int 0, .int 0, .int 0, .long 0, .null]))]) sz) := by
  refine Met.ofW (cc := b_P_init) (maxL := 4) (ret := none) (by decide) rfl ?_
  intro p e s m args below meth c s₁ B hml hv
  obtain ⟨rfl, hsz, hN0, ⟨hP, hK, hN⟩, hD0, hE⟩ := hv
  subst hsz
  have hD := hD0.self (sz := s.heap.size)
  have hAN := sw_AN hD0 hN0
  generalize hAe : va_A (ws ++ [(q, .inr (1, [.int 0, .int 0, .int 0, .int 0, .long 0, .null]))]) s.heap.size = A at hD hAN ⊢
  have hA : ∀ q : Nat, s.heap.size ≤ q → A q := fun q h => by rw [← hAe]; exact Or.inr h
  have hS : va_S A s.heap s.heap [] := va_S.rf
  have hP : va_P D classes (ws ++ [(q, .inr (1, [.int 0, .int 0, .int 0, .int 0, .long 0, .null]))]) s.heap := hP
  have hx := B.exec
  have hb := B.bytes
  have hr := B.returns
  have hg : ∀ w ∈ GW, w.before _ s = true := fun w h => atoms_spec (ws := Cond.code y_P_init b_P_init 4 none :: GW) B.pre w (List.mem_cons_of_mem _ h)
  have hown : s.vm.findClass R_P = some m.cls := findClass_of_methodNamed B.named
  have hlocks := B.notSynchronized
  have hin : meth.name = "<init>" := (name_of_methodNamed B.named B.method).1
  rcases nx with _ | a
  · have hl := lv_entry ([.ref q, .int (nI b), .int (nI n), va_rf none]) (n := 4) (Nat.le_of_ble_eq_true rfl)
    rw [lg_entry_eq]
    generalize (lg_sl ([.ref q, .int (nI b), .int (nI n), va_rf none]) ++ List.replicate (4 - (lg_sl ([.ref q, .int (nI b), .int (nI n), va_rf none])).length) Slot.unset).toArray = ls at hl ⊢
    replace hl : lv_has ls 4 [(0, .ref q), (1, .int (nI b)), (2, .int (nI n)), (3, va_rf none)] := hl
    replace hl : lv_has ls 4 [(0, .ref q), (1, .int (nI b)), (2, .int (nI n)), (3, .null)] := hl
    refine lv_aload_n hx hb d_P_init_0 rfl (lv_at hl 0 rfl) ?_
    refine W.objInit hx hb hown (hg _ gw_52) (hg _ gw_41) (hg _ gw_42) rfl (by rw [hml]; exact hl.1) rfl d_P_init_1 (Nat.le_of_ble_eq_true rfl) (Nat.le_of_ble_eq_true rfl) ?_
    refine W.eq (g2 := F0 m 4 ls []) rfl ?_
    refine lv_aload_n hx hb d_P_init_4 rfl (lv_at hl 0 rfl) ?_
    refine lv_iload_n hx hb d_P_init_5 rfl (lv_at hl 1 rfl) ?_
    refine va_putF (D := D) (ci := 1) (v := .int (nI b)) (ty := .int) (C := R_P) (T := F_P) (N := 6) hx hb hg gi_P t_P t_P_ok n_P hown hK hP hD hS ws.length (sw_get_mid _ _ _) rfl 0 (by decide) (hg _ gw_53) (fun _ h9 => h9) rfl hin rfl (by decide +kernel) rfl rfl (Nat.le_of_ble_eq_true rfl) d_P_init_6 (fun H locs hP hD hS => ?_)
    rw [sw_set_mid] at hP hD
    replace hP : va_P D classes ((ws ++ [(q, .inr (1, [.int (nI b), .int 0, .int 0, .int 0, .long 0, .null]))])) _ := hP
    replace hD : va_D A ((ws ++ [(q, .inr (1, [.int (nI b), .int 0, .int 0, .int 0, .long 0, .null]))])) := hD
    refine lv_aload_n hx hb d_P_init_9 rfl (lv_at hl 0 rfl) ?_
    refine lv_iload_n hx hb d_P_init_10 rfl (lv_at hl 2 rfl) ?_
    refine va_put (D := D) (ci := 1) (v := .int (nI n)) (ty := .int) (C := R_P) (T := F_P) (N := 6) hx hb hg gi_P t_P t_P_ok n_P hown hK hP hD hS ws.length (sw_get_mid _ _ _) rfl 1 (by decide) (hg _ gw_55) (fun _ h9 => h9) rfl (by decide +kernel) rfl rfl (Nat.le_of_ble_eq_true rfl) d_P_init_11 (fun H locs hP hD hS => ?_)
    rw [sw_set_mid] at hP hD
    replace hP : va_P D classes ((ws ++ [(q, .inr (1, [.int (nI b), .int (nI n), .int 0, .int 0, .long 0, .null]))])) _ := hP
    replace hD : va_D A ((ws ++ [(q, .inr (1, [.int (nI b), .int (nI n), .int 0, .int 0, .long 0, .null]))])) := hD
    refine lv_aload_n hx hb d_P_init_14 rfl (lv_at hl 0 rfl) ?_
    refine lv_aload_nN hx hb d_P_init_15 rfl (lv_at hl 3 rfl) ?_
    refine va_put (D := D) (ci := 1) (v := .null) (ty := .object "SweepHand$Piece") (C := R_P) (T := F_P) (N := 6) hx hb hg gi_P t_P t_P_ok n_P hown hK hP hD hS ws.length (sw_get_mid _ _ _) rfl 5 (by decide) (hg _ gw_62) (fun _ h9 => h9) rfl (by decide +kernel) rfl rfl (Nat.le_of_ble_eq_true rfl) d_P_init_16 (fun H locs hP hD hS => ?_)
    rw [sw_set_mid] at hP hD
    replace hP : va_P D classes ((ws ++ [(q, .inr (1, [.int (nI b), .int (nI n), .int 0, .int 0, .long 0, .null]))])) _ := hP
    replace hD : va_D A ((ws ++ [(q, .inr (1, [.int (nI b), .int (nI n), .int 0, .int 0, .long 0, .null]))])) := hD
    refine W.widen (k := 0) (n := 0) (Nat.le_of_ble_eq_true rfl) (Nat.le_of_ble_eq_true rfl) ?_
    exact W.vret hx hb hr (fun t ht hW => ⟨⟨_, rfl, rfl, at2.of hP hK hD ht hW⟩, hS.F ht⟩) hS.2.2 d_P_init_19
  · have hl := lv_entry ([.ref q, .int (nI b), .int (nI n), va_rf (some a)]) (n := 4) (Nat.le_of_ble_eq_true rfl)
    rw [lg_entry_eq]
    generalize (lg_sl ([.ref q, .int (nI b), .int (nI n), va_rf (some a)]) ++ List.replicate (4 - (lg_sl ([.ref q, .int (nI b), .int (nI n), va_rf (some a)])).length) Slot.unset).toArray = ls at hl ⊢
    replace hl : lv_has ls 4 [(0, .ref q), (1, .int (nI b)), (2, .int (nI n)), (3, va_rf (some a))] := hl
    replace hl : lv_has ls 4 [(0, .ref q), (1, .int (nI b)), (2, .int (nI n)), (3, .ref a)] := hl
    refine lv_aload_n hx hb d_P_init_0 rfl (lv_at hl 0 rfl) ?_
    refine W.objInit hx hb hown (hg _ gw_52) (hg _ gw_41) (hg _ gw_42) rfl (by rw [hml]; exact hl.1) rfl d_P_init_1 (Nat.le_of_ble_eq_true rfl) (Nat.le_of_ble_eq_true rfl) ?_
    refine W.eq (g2 := F0 m 4 ls []) rfl ?_
    refine lv_aload_n hx hb d_P_init_4 rfl (lv_at hl 0 rfl) ?_
    refine lv_iload_n hx hb d_P_init_5 rfl (lv_at hl 1 rfl) ?_
    refine va_putF (D := D) (ci := 1) (v := .int (nI b)) (ty := .int) (C := R_P) (T := F_P) (N := 6) hx hb hg gi_P t_P t_P_ok n_P hown hK hP hD hS ws.length (sw_get_mid _ _ _) rfl 0 (by decide) (hg _ gw_53) (fun _ h9 => h9) rfl hin rfl (by decide +kernel) rfl rfl (Nat.le_of_ble_eq_true rfl) d_P_init_6 (fun H locs hP hD hS => ?_)
    rw [sw_set_mid] at hP hD
    replace hP : va_P D classes ((ws ++ [(q, .inr (1, [.int (nI b), .int 0, .int 0, .int 0, .long 0, .null]))])) _ := hP
    replace hD : va_D A ((ws ++ [(q, .inr (1, [.int (nI b), .int 0, .int 0, .int 0, .long 0, .null]))])) := hD
    refine lv_aload_n hx hb d_P_init_9 rfl (lv_at hl 0 rfl) ?_
    refine lv_iload_n hx hb d_P_init_10 rfl (lv_at hl 2 rfl) ?_
    refine va_put (D := D) (ci := 1) (v := .int (nI n)) (ty := .int) (C := R_P) (T := F_P) (N := 6) hx hb hg gi_P t_P t_P_ok n_P hown hK hP hD hS ws.length (sw_get_mid _ _ _) rfl 1 (by decide) (hg _ gw_55) (fun _ h9 => h9) rfl (by decide +kernel) rfl rfl (Nat.le_of_ble_eq_true rfl) d_P_init_11 (fun H locs hP hD hS => ?_)
    rw [sw_set_mid] at hP hD
    replace hP : va_P D classes ((ws ++ [(q, .inr (1, [.int (nI b), .int (nI n), .int 0, .int 0, .long 0, .null]))])) _ := hP
    replace hD : va_D A ((ws ++ [(q, .inr (1, [.int (nI b), .int (nI n), .int 0, .int 0, .long 0, .null]))])) := hD
    refine lv_aload_n hx hb d_P_init_14 rfl (lv_at hl 0 rfl) ?_
    refine lv_aload_n hx hb d_P_init_15 rfl (lv_at hl 3 rfl) ?_
    refine va_put (D := D) (ci := 1) (v := .ref a) (ty := .object "SweepHand$Piece") (C := R_P) (T := F_P) (N := 6) hx hb hg gi_P t_P t_P_ok n_P hown hK hP hD hS ws.length (sw_get_mid _ _ _) rfl 5 (by decide) (hg _ gw_62) (fun _ h9 => h9) rfl (by decide +kernel) rfl rfl (Nat.le_of_ble_eq_true rfl) d_P_init_16 (fun H locs hP hD hS => ?_)
    rw [sw_set_mid] at hP hD
    replace hP : va_P D classes ((ws ++ [(q, .inr (1, [.int (nI b), .int (nI n), .int 0, .int 0, .long 0, .ref a]))])) _ := hP
    replace hD : va_D A ((ws ++ [(q, .inr (1, [.int (nI b), .int (nI n), .int 0, .int 0, .long 0, .ref a]))])) := hD
    refine W.widen (k := 0) (n := 0) (Nat.le_of_ble_eq_true rfl) (Nat.le_of_ble_eq_true rfl) ?_
    exact W.vret hx hb hr (fun t ht hW => ⟨⟨_, rfl, rfl, at2.of hP hK hD ht hW⟩, hS.F ht⟩) hS.2.2 d_P_init_19
set_option maxHeartbeats 4000000 in
set_option maxRecDepth 100000 in
theorem c_S_comeToBeFree (l : Launch) (D : va_G) (ty : tyL) (N0 sz : Nat) (h cn : Nat) (fi ha : Option Nat) (f : Nat) (v w z : Int32) (A1 B1 : va_W) (x : AP) (nx : Option Nat) : Met l y_S_comeToBeFree (Cond.code y_S_comeToBeFree b_S_comeToBeFree 2 none :: GW) ({ frames := 0, cells := 0, slots := 0, locals := 0 }) (va_Pc [.ref h, .ref x.1] (at1 D ty N0 sz (scell h cn fi ha f v w z :: (A1 ++ pcell x nx :: B1)))) (va_Qv (fun ws' => ws' = scell h cn fi ha (f + 1) v w z :: (A1 ++ pcell (x.1, x.2.1, x.2.2.1, false, false, f + 1) nx :: B1)) (at2 D ty (va_A (scell h cn fi ha f v w z :: (A1 ++ pcell x nx :: B1)) sz)) (va_A (scell h cn fi ha f v w z :: (A1 ++ pcell x nx :: B1)) sz)) 0 0 (va_A (scell h cn fi ha f v w z :: (A1 ++ pcell x nx :: B1)) sz) := by
  refine Met.ofW (cc := b_S_comeToBeFree) (maxL := 2) (ret := none) (by decide) rfl ?_
  intro p e s m args below meth c s₁ B hml hv
  obtain ⟨rfl, hsz, hN0, ⟨hP, hK, hN⟩, hD0, hE⟩ := hv
  subst hsz
  have hD := hD0.self (sz := s.heap.size)
  have hAN := sw_AN hD0 hN0
  generalize hAe : va_A (scell h cn fi ha f v w z :: (A1 ++ pcell x nx :: B1)) s.heap.size = A at hD hAN ⊢
  have hA : ∀ q : Nat, s.heap.size ≤ q → A q := fun q h => by rw [← hAe]; exact Or.inr h
  have hS : va_S A s.heap s.heap [] := va_S.rf
  have hP : va_P D classes (scell h cn fi ha f v w z :: (A1 ++ pcell x nx :: B1)) s.heap := hP
  have hx := B.exec
  have hb := B.bytes
  have hr := B.returns
  have hg : ∀ w ∈ GW, w.before _ s = true := fun w h => atoms_spec (ws := Cond.code y_S_comeToBeFree b_S_comeToBeFree 2 none :: GW) B.pre w (List.mem_cons_of_mem _ h)
  have hown : s.vm.findClass R_S = some m.cls := findClass_of_methodNamed B.named
  have hlocks := B.notSynchronized
  have hl := lv_entry ([.ref h, .ref x.1]) (n := 2) (Nat.le_of_ble_eq_true rfl)
  rw [lg_entry_eq]
  generalize (lg_sl ([.ref h, .ref x.1]) ++ List.replicate (2 - (lg_sl ([.ref h, .ref x.1])).length) Slot.unset).toArray = ls at hl ⊢
  replace hl : lv_has ls 2 [(0, .ref h), (1, .ref x.1)] := hl
  replace hP : va_P D classes ((h, .inr (0, [.int (nI cn), va_rf fi, va_rf ha, .long (lN f), .int v, .int w, .int z])) :: (A1 ++ ((x.1, .inr (1, [.int (nI x.2.1), .int (nI x.2.2.1), .int (bI x.2.2.2.1), .int (bI x.2.2.2.2.1), .long (lN x.2.2.2.2.2), va_rf nx])) :: B1))) _ := hP
  replace hD : va_D A ((h, .inr (0, [.int (nI cn), va_rf fi, va_rf ha, .long (lN f), .int v, .int w, .int z])) :: (A1 ++ ((x.1, .inr (1, [.int (nI x.2.1), .int (nI x.2.2.1), .int (bI x.2.2.2.1), .int (bI x.2.2.2.2.1), .long (lN x.2.2.2.2.2), va_rf nx])) :: B1))) := hD
  refine lv_aload_n hx hb d_S_comeToBeFree_0 rfl (lv_at hl 1 rfl) ?_
  refine lv_iconst (v := 0) hx hb d_S_comeToBeFree_1 (by decide) ?_
  refine va_putN (D := D) (ci := 1) (v := .int 0) (ty := .boolean) (C := R_P) (T := F_P) (N := 6) hx hb hg gi_P t_P t_P_ok n_P hown hK hP hD hS (A1.length + 1) (sw_get1 _ _ _ _) rfl 2 (by decide) (va_Nw.use rfl (hN.1 (37, "used", "Z") (by decide))) (fun _ h9 => h9) rfl (by decide +kernel) rfl rfl (Nat.le_of_ble_eq_true rfl) d_S_comeToBeFree_2 (fun H locs hP hD hS => ?_)
  rw [sw_set1] at hP hD
  replace hP : va_P D classes ((h, .inr (0, [.int (nI cn), va_rf fi, va_rf ha, .long (lN f), .int v, .int w, .int z])) :: (A1 ++ ((x.1, .inr (1, [.int (nI x.2.1), .int (nI x.2.2.1), .int 0, .int (bI x.2.2.2.2.1), .long (lN x.2.2.2.2.2), va_rf nx])) :: B1))) _ := hP
  replace hD : va_D A ((h, .inr (0, [.int (nI cn), va_rf fi, va_rf ha, .long (lN f), .int v, .int w, .int z])) :: (A1 ++ ((x.1, .inr (1, [.int (nI x.2.1), .int (nI x.2.2.1), .int 0, .int (bI x.2.2.2.2.1), .long (lN x.2.2.2.2.2), va_rf nx])) :: B1))) := hD
  refine lv_aload_n hx hb d_S_comeToBeFree_5 rfl (lv_at hl 1 rfl) ?_
  refine lv_iconst (v := 0) hx hb d_S_comeToBeFree_6 (by decide) ?_
  refine va_putN (D := D) (ci := 1) (v := .int 0) (ty := .boolean) (C := R_P) (T := F_P) (N := 6) hx hb hg gi_P t_P t_P_ok n_P hown hK hP hD hS (A1.length + 1) (sw_get1 _ _ _ _) rfl 3 (by decide) (va_Nw.use rfl (hN.1 (50, "marked", "Z") (by decide))) (fun _ h9 => h9) rfl (by decide +kernel) rfl rfl (Nat.le_of_ble_eq_true rfl) d_S_comeToBeFree_7 (fun H locs hP hD hS => ?_)
  rw [sw_set1] at hP hD
  replace hP : va_P D classes ((h, .inr (0, [.int (nI cn), va_rf fi, va_rf ha, .long (lN f), .int v, .int w, .int z])) :: (A1 ++ ((x.1, .inr (1, [.int (nI x.2.1), .int (nI x.2.2.1), .int 0, .int 0, .long (lN x.2.2.2.2.2), va_rf nx])) :: B1))) _ := hP
  replace hD : va_D A ((h, .inr (0, [.int (nI cn), va_rf fi, va_rf ha, .long (lN f), .int v, .int w, .int z])) :: (A1 ++ ((x.1, .inr (1, [.int (nI x.2.1), .int (nI x.2.2.1), .int 0, .int 0, .long (lN x.2.2.2.2.2), va_rf nx])) :: B1))) := hD
  refine lv_aload_n hx hb d_S_comeToBeFree_10 rfl (lv_at hl 0 rfl) ?_
  refine lv_dup hx hb d_S_comeToBeFree_11 rfl ?_
  refine va_get (D := D) (ci := 0) (v := .long (lN f)) (C := R_S) (T := F_S) (N := 7) hx hb hg gi_S hown hK hP 0 rfl rfl 3 (by decide) (hg _ gw_84) (fun _ h9 => h9) rfl d_S_comeToBeFree_12 ?_
  refine lv_lconst (v := 1) hx hb d_S_comeToBeFree_15 (by decide) ?_
  refine lv_ladd hx hb d_S_comeToBeFree_16 ?_
  refine lv_topl (fun y1 ey1 => ?_)
  obtain rfl : y1 = lN (f + 1) := ey1.trans (lN_1 f)
  clear ey1
  refine va_put (D := D) (ci := 0) (v := .long (lN (f + 1))) (ty := .long) (C := R_S) (T := F_S) (N := 7) hx hb hg gi_S t_S t_S_ok n_S hown hK hP hD hS 0 rfl rfl 3 (by decide) (hg _ gw_84) (fun _ h9 => h9) rfl (by decide +kernel) rfl rfl (Nat.le_of_ble_eq_true rfl) d_S_comeToBeFree_17 (fun H locs hP hD hS => ?_)
  replace hP : va_P D classes ((h, .inr (0, [.int (nI cn), va_rf fi, va_rf ha, .long (lN (f + 1)), .int v, .int w, .int z])) :: (A1 ++ ((x.1, .inr (1, [.int (nI x.2.1), .int (nI x.2.2.1), .int 0, .int 0, .long (lN x.2.2.2.2.2), va_rf nx])) :: B1))) _ := hP
  replace hD : va_D A ((h, .inr (0, [.int (nI cn), va_rf fi, va_rf ha, .long (lN (f + 1)), .int v, .int w, .int z])) :: (A1 ++ ((x.1, .inr (1, [.int (nI x.2.1), .int (nI x.2.2.1), .int 0, .int 0, .long (lN x.2.2.2.2.2), va_rf nx])) :: B1))) := hD
  refine lv_aload_n hx hb d_S_comeToBeFree_20 rfl (lv_at hl 1 rfl) ?_
  refine lv_aload_n hx hb d_S_comeToBeFree_21 rfl (lv_at hl 0 rfl) ?_
  refine va_get (D := D) (ci := 0) (v := .long (lN (f + 1))) (C := R_S) (T := F_S) (N := 7) hx hb hg gi_S hown hK hP 0 rfl rfl 3 (by decide) (hg _ gw_84) (fun _ h9 => h9) rfl d_S_comeToBeFree_22 ?_
  refine va_putN (D := D) (ci := 1) (v := .long (lN (f + 1))) (ty := .long) (C := R_P) (T := F_P) (N := 6) hx hb hg gi_P t_P t_P_ok n_P hown hK hP hD hS (A1.length + 1) (sw_get1 _ _ _ _) rfl 4 (by decide) (va_Nw.use rfl (hN.1 (114, "freedAt", "J") (by decide))) (fun _ h9 => h9) rfl (by decide +kernel) rfl rfl (Nat.le_of_ble_eq_true rfl) d_S_comeToBeFree_25 (fun H locs hP hD hS => ?_)
  rw [sw_set1] at hP hD
  replace hP : va_P D classes ((h, .inr (0, [.int (nI cn), va_rf fi, va_rf ha, .long (lN (f + 1)), .int v, .int w, .int z])) :: (A1 ++ ((x.1, .inr (1, [.int (nI x.2.1), .int (nI x.2.2.1), .int 0, .int 0, .long (lN (f + 1)), va_rf nx])) :: B1))) _ := hP
  replace hD : va_D A ((h, .inr (0, [.int (nI cn), va_rf fi, va_rf ha, .long (lN (f + 1)), .int v, .int w, .int z])) :: (A1 ++ ((x.1, .inr (1, [.int (nI x.2.1), .int (nI x.2.2.1), .int 0, .int 0, .long (lN (f + 1)), va_rf nx])) :: B1))) := hD
  refine W.widen (k := 0) (n := 0) (Nat.le_of_ble_eq_true rfl) (Nat.le_of_ble_eq_true rfl) ?_
  exact W.vret hx hb hr (fun t ht hW => ⟨⟨_, rfl, rfl, at2.of hP hK hD ht hW⟩, hS.F ht⟩) hS.2.2 d_S_comeToBeFree_28
set_option maxHeartbeats 4000000 in
set_option maxRecDepth 100000 in
theorem c_S_startAnew (l : Launch) (D : va_G) (ty : tyL) (N0 sz : Nat) (h cn : Nat) (fi ha : Option Nat) (f : Nat) (v w z : Int32) (R1 : va_W) (n : Nat) : Met l y_S_startAnew (Cond.code y_S_startAnew b_S_startAnew 2 none :: GW) ({ frames := 2, cells := 1, slots := 6, locals := 35 }) (va_Pc [.ref h, .int (nI n)] (at1 D ty N0 sz (scell h cn fi ha f v w z :: R1))) (va_Qv (fun ws' => ∃ q : Nat, ws' = [scell h n (some q) none 1 0 0 0, pcell (q, 1, n, false, false, 1) none]) (at2 D ty (va_A (scell h cn fi ha f v w z :: R1) sz)) (va_A (scell h cn fi ha f v w z :: R1) sz)) 1 6 (va_A (scell h cn fi ha f v w z :: R1) sz) := by
  refine Met.ofW (cc := b_S_startAnew) (maxL := 2) (ret := none) (by decide) rfl ?_
  intro p e s m args below meth c s₁ B hml hv
  obtain ⟨rfl, hsz, hN0, ⟨hP, hK, hN⟩, hD0, hE⟩ := hv
  subst hsz
  have hD := hD0.self (sz := s.heap.size)
  have hAN := sw_AN hD0 hN0
  generalize hAe : va_A (scell h cn fi ha f v w z :: R1) s.heap.size = A at hD hAN ⊢
  have hA : ∀ q : Nat, s.heap.size ≤ q → A q := fun q h => by rw [← hAe]; exact Or.inr h
  have hS : va_S A s.heap s.heap [] := va_S.rf
  have hP : va_P D classes (scell h cn fi ha f v w z :: R1) s.heap := hP
  have hx := B.exec
  have hb := B.bytes
  have hr := B.returns
  have hg : ∀ w ∈ GW, w.before _ s = true := fun w h => atoms_spec (ws := Cond.code y_S_startAnew b_S_startAnew 2 none :: GW) B.pre w (List.mem_cons_of_mem _ h)
  have hown : s.vm.findClass R_S = some m.cls := findClass_of_methodNamed B.named
  have hlocks := B.notSynchronized
  have hl := lv_entry ([.ref h, .int (nI n)]) (n := 2) (Nat.le_of_ble_eq_true rfl)
  rw [lg_entry_eq]
  generalize (lg_sl ([.ref h, .int (nI n)]) ++ List.replicate (2 - (lg_sl ([.ref h, .int (nI n)])).length) Slot.unset).toArray = ls at hl ⊢
  replace hl : lv_has ls 2 [(0, .ref h), (1, .int (nI n))] := hl
  replace hP : va_P D classes ((h, .inr (0, [.int (nI cn), va_rf fi, va_rf ha, .long (lN f), .int v, .int w, .int z])) :: R1) _ := hP
  replace hD : va_D A ((h, .inr (0, [.int (nI cn), va_rf fi, va_rf ha, .long (lN f), .int v, .int w, .int z])) :: R1) := hD
  refine lv_aload_n hx hb d_S_startAnew_0 rfl (lv_at hl 0 rfl) ?_
  refine lv_iload_n hx hb d_S_startAnew_1 rfl (lv_at hl 1 rfl) ?_
  refine va_put (D := D) (ci := 0) (v := .int (nI n)) (ty := .int) (C := R_S) (T := F_S) (N := 7) hx hb hg gi_S t_S t_S_ok n_S hown hK hP hD hS 0 rfl rfl 0 (by decide) (hg _ gw_81) (fun _ h9 => h9) rfl (by decide +kernel) rfl rfl (Nat.le_of_ble_eq_true rfl) d_S_startAnew_2 (fun H locs hP hD hS => ?_)
  replace hP : va_P D classes ((h, .inr (0, [.int (nI n), va_rf fi, va_rf ha, .long (lN f), .int v, .int w, .int z])) :: R1) _ := hP
  replace hD : va_D A ((h, .inr (0, [.int (nI n), va_rf fi, va_rf ha, .long (lN f), .int v, .int w, .int z])) :: R1) := hD
  refine lv_aload_n hx hb d_S_startAnew_5 rfl (lv_at hl 0 rfl) ?_
  refine va_new (ci := 1) (fs := [.int 0, .int 0, .int 0, .int 0, .long 0, .null]) (C := R_P) (T := F_P) (N := 6) hx hb hg gi_P t_P t_P_ok hown (hg _ gw_47) (hg _ gw_48) (hg _ gw_27) hK hP hD hS hA rfl (fun j hj => by rcases (show j = 0 ∨ j = 1 ∨ j = 2 ∨ j = 3 ∨ j = 4 ∨ j = 5 by omega) with rfl | rfl | rfl | rfl | rfl | rfl <;> rfl) (Nat.le_of_ble_eq_true rfl) (Nat.le_of_ble_eq_true rfl) d_S_startAnew_6 (fun q H hP hD hS => ?_)
  refine W.widen (k := 1) (n := 6) (Nat.le_of_ble_eq_true rfl) (Nat.le_of_ble_eq_true rfl) ?_
  refine lv_dup hx hb d_S_startAnew_9 rfl ?_
  refine lv_iconst (v := 1) hx hb d_S_startAnew_10 (by decide) ?_
  refine lv_iload_n hx hb d_S_startAnew_11 rfl (lv_at hl 1 rfl) ?_
  refine lv_null hx hb d_S_startAnew_12 ?_
  have hFc := sw_free hD hS hA
  refine va_callv (va_runIN (As := [.int 1, .int (nI n), .null]) (rest := [.ref q, .ref h]) ⟨hx, hb, hml, hown, hg⟩ (c_P_init l D ty N0 _ ((h, .inr (0, [.int (nI n), va_rf fi, va_rf ha, .long (lN f), .int v, .int w, .int z])) :: R1) q 1 n none) ⟨va_cnB 3 hg (gw_c gw_51) rfl rfl rfl (hN.2.1 (107, y_P_init) (by decide +kernel)) (hg _ gw_27) (by decide +kernel) ⟨Nat.le_of_ble_eq_true rfl, Nat.le_of_ble_eq_true rfl⟩, rfl, hg _ gw_50⟩ (pre_wrS hP hK hN hD hS hAN hN0 hE) rfl rfl hl.1 rfl (lv_room (Nat.le_of_ble_eq_true rfl)) d_S_startAnew_13 ⟨Nat.le_of_ble_eq_true rfl, Nat.le_of_ble_eq_true rfl⟩) hS (fun q _ h => hFc q h) hFc (fun u t H locs ht hvm hw hB hz1 hk1 hS => ?_)
  obtain ⟨hP, hK1, hD1⟩ := hB
  rw [ht] at hP
  have hD := hD1.weaken (fun _ _ _ h => hFc _ h)
  clear hK1 hD1 hFc hk1 hz1
  subst hw
  replace hD := sw_D_sub2 hD (sw_new0 _ _ _)
  replace hP := sw_P_sub hP (sw_new0 _ _ _)
  replace hP : va_P D classes ((h, .inr (0, [.int (nI n), va_rf fi, va_rf ha, .long (lN f), .int v, .int w, .int z])) :: [(q, .inr (1, [.int (nI 1), .int (nI n), .int (bI false), .int (bI false), .long (lN 0), va_rf none]))]) _ := hP
  replace hD : va_D A ((h, .inr (0, [.int (nI n), va_rf fi, va_rf ha, .long (lN f), .int v, .int w, .int z])) :: [(q, .inr (1, [.int (nI 1), .int (nI n), .int (bI false), .int (bI false), .long (lN 0), va_rf none]))]) := hD
  refine W.widen (k := 1) (n := 6) (Nat.le_of_ble_eq_true rfl) (Nat.le_of_ble_eq_true rfl) ?_
  refine va_put (D := D) (ci := 0) (v := .ref q) (ty := .object "SweepHand$Piece") (C := R_S) (T := F_S) (N := 7) hx hb hg gi_S t_S t_S_ok n_S hown hK hP hD hS 0 rfl rfl 1 (by decide) (hg _ gw_82) (fun _ h9 => h9) rfl (by decide +kernel) rfl rfl (Nat.le_of_ble_eq_true rfl) d_S_startAnew_16 (fun H locs hP hD hS => ?_)
  replace hP : va_P D classes ((h, .inr (0, [.int (nI n), .ref q, va_rf ha, .long (lN f), .int v, .int w, .int z])) :: [(q, .inr (1, [.int (nI 1), .int (nI n), .int (bI false), .int (bI false), .long (lN 0), va_rf none]))]) _ := hP
  replace hD : va_D A ((h, .inr (0, [.int (nI n), .ref q, va_rf ha, .long (lN f), .int v, .int w, .int z])) :: [(q, .inr (1, [.int (nI 1), .int (nI n), .int (bI false), .int (bI false), .long (lN 0), va_rf none]))]) := hD
  refine lv_aload_n hx hb d_S_startAnew_19 rfl (lv_at hl 0 rfl) ?_
  refine lv_null hx hb d_S_startAnew_20 ?_
  refine va_put (D := D) (ci := 0) (v := .null) (ty := .object "SweepHand$Piece") (C := R_S) (T := F_S) (N := 7) hx hb hg gi_S t_S t_S_ok n_S hown hK hP hD hS 0 rfl rfl 2 (by decide) (hg _ gw_83) (fun _ h9 => h9) rfl (by decide +kernel) rfl rfl (Nat.le_of_ble_eq_true rfl) d_S_startAnew_21 (fun H locs hP hD hS => ?_)
  replace hP : va_P D classes ((h, .inr (0, [.int (nI n), .ref q, .null, .long (lN f), .int v, .int w, .int z])) :: [(q, .inr (1, [.int (nI 1), .int (nI n), .int (bI false), .int (bI false), .long (lN 0), va_rf none]))]) _ := hP
  replace hD : va_D A ((h, .inr (0, [.int (nI n), .ref q, .null, .long (lN f), .int v, .int w, .int z])) :: [(q, .inr (1, [.int (nI 1), .int (nI n), .int (bI false), .int (bI false), .long (lN 0), va_rf none]))]) := hD
  refine lv_aload_n hx hb d_S_startAnew_24 rfl (lv_at hl 0 rfl) ?_
  refine lv_lconst (v := 0) hx hb d_S_startAnew_25 (by decide) ?_
  refine va_put (D := D) (ci := 0) (v := .long 0) (ty := .long) (C := R_S) (T := F_S) (N := 7) hx hb hg gi_S t_S t_S_ok n_S hown hK hP hD hS 0 rfl rfl 3 (by decide) (hg _ gw_84) (fun _ h9 => h9) rfl (by decide +kernel) rfl rfl (Nat.le_of_ble_eq_true rfl) d_S_startAnew_26 (fun H locs hP hD hS => ?_)
  replace hP : va_P D classes ((h, .inr (0, [.int (nI n), .ref q, .null, .long 0, .int v, .int w, .int z])) :: [(q, .inr (1, [.int (nI 1), .int (nI n), .int (bI false), .int (bI false), .long (lN 0), va_rf none]))]) _ := hP
  replace hD : va_D A ((h, .inr (0, [.int (nI n), .ref q, .null, .long 0, .int v, .int w, .int z])) :: [(q, .inr (1, [.int (nI 1), .int (nI n), .int (bI false), .int (bI false), .long (lN 0), va_rf none]))]) := hD
  refine lv_aload_n hx hb d_S_startAnew_29 rfl (lv_at hl 0 rfl) ?_
  refine lv_iconst (v := 0) hx hb d_S_startAnew_30 (by decide) ?_
  refine va_put (D := D) (ci := 0) (v := .int 0) (ty := .int) (C := R_S) (T := F_S) (N := 7) hx hb hg gi_S t_S t_S_ok n_S hown hK hP hD hS 0 rfl rfl 4 (by decide) (hg _ gw_85) (fun _ h9 => h9) rfl (by decide +kernel) rfl rfl (Nat.le_of_ble_eq_true rfl) d_S_startAnew_31 (fun H locs hP hD hS => ?_)
  replace hP : va_P D classes ((h, .inr (0, [.int (nI n), .ref q, .null, .long 0, .int 0, .int w, .int z])) :: [(q, .inr (1, [.int (nI 1), .int (nI n), .int (bI false), .int (bI false), .long (lN 0), va_rf none]))]) _ := hP
  replace hD : va_D A ((h, .inr (0, [.int (nI n), .ref q, .null, .long 0, .int 0, .int w, .int z])) :: [(q, .inr (1, [.int (nI 1), .int (nI n), .int (bI false), .int (bI false), .long (lN 0), va_rf none]))]) := hD
  refine lv_aload_n hx hb d_S_startAnew_34 rfl (lv_at hl 0 rfl) ?_
  refine lv_iconst (v := 0) hx hb d_S_startAnew_35 (by decide) ?_
  refine va_put (D := D) (ci := 0) (v := .int 0) (ty := .int) (C := R_S) (T := F_S) (N := 7) hx hb hg gi_S t_S t_S_ok n_S hown hK hP hD hS 0 rfl rfl 5 (by decide) (hg _ gw_86) (fun _ h9 => h9) rfl (by decide +kernel) rfl rfl (Nat.le_of_ble_eq_true rfl) d_S_startAnew_36 (fun H locs hP hD hS => ?_)
  replace hP : va_P D classes ((h, .inr (0, [.int (nI n), .ref q, .null, .long 0, .int 0, .int 0, .int z])) :: [(q, .inr (1, [.int (nI 1), .int (nI n), .int (bI false), .int (bI false), .long (lN 0), va_rf none]))]) _ := hP
  replace hD : va_D A ((h, .inr (0, [.int (nI n), .ref q, .null, .long 0, .int 0, .int 0, .int z])) :: [(q, .inr (1, [.int (nI 1), .int (nI n), .int (bI false), .int (bI false), .long (lN 0), va_rf none]))]) := hD
  refine lv_aload_n hx hb d_S_startAnew_39 rfl (lv_at hl 0 rfl) ?_
  refine lv_iconst (v := 0) hx hb d_S_startAnew_40 (by decide) ?_
  refine va_put (D := D) (ci := 0) (v := .int 0) (ty := .int) (C := R_S) (T := F_S) (N := 7) hx hb hg gi_S t_S t_S_ok n_S hown hK hP hD hS 0 rfl rfl 6 (by decide) (hg _ gw_87) (fun _ h9 => h9) rfl (by decide +kernel) rfl rfl (Nat.le_of_ble_eq_true rfl) d_S_startAnew_41 (fun H locs hP hD hS => ?_)
  replace hP : va_P D classes ((h, .inr (0, [.int (nI n), .ref q, .null, .long 0, .int 0, .int 0, .int 0])) :: [(q, .inr (1, [.int (nI 1), .int (nI n), .int (bI false), .int (bI false), .long (lN 0), va_rf none]))]) _ := hP
  replace hD : va_D A ((h, .inr (0, [.int (nI n), .ref q, .null, .long 0, .int 0, .int 0, .int 0])) :: [(q, .inr (1, [.int (nI 1), .int (nI n), .int (bI false), .int (bI false), .long (lN 0), va_rf none]))]) := hD
  refine lv_aload_n hx hb d_S_startAnew_44 rfl (lv_at hl 0 rfl) ?_
  refine lv_aload_n hx hb d_S_startAnew_45 rfl (lv_at hl 0 rfl) ?_
  refine va_get (D := D) (ci := 0) (v := .ref q) (C := R_S) (T := F_S) (N := 7) hx hb hg gi_S hown hK hP 0 rfl rfl 1 (by decide) (hg _ gw_82) (fun _ h9 => h9) rfl d_S_startAnew_46 ?_
  have hFc := sw_free hD hS hA
  refine va_callv (va_runV (As := [.ref q]) (rest := []) ⟨hx, hb, hml, hown, hg⟩ (c_S_comeToBeFree l D ty N0 _ h n (some q) none 0 0 0 0 [] [] (q, 1, n, false, false, 0) none) (cwV 1 hg (gw_V gw_77 gw_79 gw_1 gw_26 gw_80) rfl rfl rfl (by decide +kernel) ⟨Nat.le_of_ble_eq_true rfl, Nat.le_of_ble_eq_true rfl⟩) (pre_wrV hP hK hN hD hS hAN hN0 hE (ci := 0) (k := 0) rfl rfl) rfl rfl hl.1 rfl (lv_room (Nat.le_of_ble_eq_true rfl)) d_S_startAnew_49 ⟨Nat.le_of_ble_eq_true rfl, Nat.le_of_ble_eq_true rfl⟩) hS (fun q _ h => hFc q h) hFc (fun u t H locs ht hvm hw hB hz1 hk1 hS => ?_)
  obtain ⟨hP, hK1, hD1⟩ := hB
  rw [ht] at hP
  have hD := hD1.weaken (fun _ _ _ h => hFc _ h)
  clear hK1 hD1 hFc hk1 hz1
  subst hw
  refine W.widen (k := 1) (n := 6) (Nat.le_of_ble_eq_true rfl) (Nat.le_of_ble_eq_true rfl) ?_
  exact W.vret hx hb hr (fun t ht hW => ⟨⟨_, rfl, ⟨q, rfl⟩, at2.of hP hK hD ht hW⟩, hS.F ht⟩) hS.2.2 d_S_startAnew_52
set_option maxHeartbeats 4000000 in
set_option maxRecDepth 100000 in
theorem c_S_init (l : Launch) (D : va_G) (ty : tyL) (N0 sz : Nat) (h : Nat) : Met l y_S_init (Cond.code y_S_init b_S_init 1 none :: GW) ({ frames := 3, cells := 1, slots := 6, locals := 56 }) (va_Pc [.ref h] (at1 D ty N0 sz [(h, .inr (0, [.int 0, .null, .null, .long 0, .int 0, .int 0, .int 0]))])) (va_Qv (fun ws' => ∃ q : Nat, ws' = [scell h 1024 (some q) none 1 0 0 0, pcell (q, 1, 1024, false, false, 1) none]) (at2 D ty (va_A [(h, .inr (0, [.int 0, .null, .null, .long 0, .int 0, .int 0, .int 0]))] sz)) (va_A [(h, .inr (0, [.int 0, .null, .null, .long 0, .int 0, .int 0, .int 0]))] sz)) 1 6 (va_A [(h, .inr (0, [.int 0, .null, .null, .long 0, .int 0, .int 0, .int 0]))] sz) := by
  refine Met.ofW (cc := b_S_init) (maxL := 1) (ret := none) (by decide) rfl ?_
  intro p e s m args below meth c s₁ B hml hv
  obtain ⟨rfl, hsz, hN0, ⟨hP, hK, hN⟩, hD0, hE⟩ := hv
  subst hsz
  have hD := hD0.self (sz := s.heap.size)
  have hAN := sw_AN hD0 hN0
  generalize hAe : va_A [(h, .inr (0, [.int 0, .null, .null, .long 0, .int 0, .int 0, .int 0]))] s.heap.size = A at hD hAN ⊢
  have hA : ∀ q : Nat, s.heap.size ≤ q → A q := fun q h => by rw [← hAe]; exact Or.inr h
  have hS : va_S A s.heap s.heap [] := va_S.rf
  have hP : va_P D classes [(h, .inr (0, [.int 0, .null, .null, .long 0, .int 0, .int 0, .int 0]))] s.heap := hP
  have hx := B.exec
  have hb := B.bytes
  have hr := B.returns
  have hg : ∀ w ∈ GW, w.before _ s = true := fun w h => atoms_spec (ws := Cond.code y_S_init b_S_init 1 none :: GW) B.pre w (List.mem_cons_of_mem _ h)
  have hown : s.vm.findClass R_S = some m.cls := findClass_of_methodNamed B.named
  have hlocks := B.notSynchronized
  have hin : meth.name = "<init>" := (name_of_methodNamed B.named B.method).1
  have hl := lv_entry ([.ref h]) (n := 1) (Nat.le_of_ble_eq_true rfl)
  rw [lg_entry_eq]
  generalize (lg_sl ([.ref h]) ++ List.replicate (1 - (lg_sl ([.ref h])).length) Slot.unset).toArray = ls at hl ⊢
  replace hl : lv_has ls 1 [(0, .ref h)] := hl
  refine lv_aload_n hx hb d_S_init_0 rfl (lv_at hl 0 rfl) ?_
  refine W.objInit hx hb hown (hg _ gw_40) (hg _ gw_41) (hg _ gw_42) rfl (by rw [hml]; exact hl.1) rfl d_S_init_1 (Nat.le_of_ble_eq_true rfl) (Nat.le_of_ble_eq_true rfl) ?_
  refine W.eq (g2 := F0 m 4 ls []) rfl ?_
  refine lv_aload_n hx hb d_S_init_4 rfl (lv_at hl 0 rfl) ?_
  refine lv_sipush (v := 1024) hx hb d_S_init_5 (by decide) ?_
  have hFc := sw_free hD hS hA
  refine va_callv (va_runV (As := [.int 1024]) (rest := []) ⟨hx, hb, hml, hown, hg⟩ (c_S_startAnew l D ty N0 _ h 0 none none 0 0 0 0 [] 1024) (cwV 1 hg (gw_V gw_43 gw_45 gw_0 gw_26 gw_46) rfl rfl rfl (by decide +kernel) ⟨Nat.le_of_ble_eq_true rfl, Nat.le_of_ble_eq_true rfl⟩) (pre_wrV hP hK hN hD hS hAN hN0 hE (ci := 0) (k := 0) rfl rfl) rfl rfl hl.1 rfl (lv_room (Nat.le_of_ble_eq_true rfl)) d_S_init_8 ⟨Nat.le_of_ble_eq_true rfl, Nat.le_of_ble_eq_true rfl⟩) hS (fun q _ h => hFc q h) hFc (fun u t H locs ht hvm hw hB hz1 hk1 hS => ?_)
  obtain ⟨hP, hK1, hD1⟩ := hB
  rw [ht] at hP
  have hD := hD1.weaken (fun _ _ _ h => hFc _ h)
  clear hK1 hD1 hFc hk1 hz1
  refine W.widen (k := 1) (n := 6) (Nat.le_of_ble_eq_true rfl) (Nat.le_of_ble_eq_true rfl) ?_
  exact W.vret hx hb hr (fun t ht hW => ⟨⟨_, rfl, hw, at2.of hP hK hD ht hW⟩, hS.F ht⟩) hS.2.2 d_S_init_11
end
section
theorem hdO_none {s : List AP} : hdO s none = none ↔ s = [] := by
  cases s with
  | nil => exact ⟨fun _ => rfl, fun _ => rfl⟩
  | cons x s => exact ⟨fun h => (by cases h), fun h => (by cases h)⟩
theorem gaR_sub (suf : List AP) : (chG (gaR suf) none).Sublist (chG suf none) := by
  have h := gaMR suf
  have h2 : chG suf none = chG (gaM suf) (hdO (gaR suf) none) ++ chG (gaR suf) none := by rw [← chG_app, h]
  rw [h2]
  exact List.sublist_append_right _ _
theorem sw_nd {A : Nat → Prop} {S : Nat × va_E} {pre : List AP} {x : AP} {suf : List AP} (h : va_D A (S :: chG (pre ++ x :: suf) none)) : (suf.map Prod.fst).Nodup := by
  have h1 := (sw_D_iff.mp h).1
  rw [List.map_cons, chG_fst, List.map_append, List.map_cons] at h1
  exact (List.nodup_cons.mp (List.nodup_append.mp (List.nodup_cons.mp h1).2).2.1).2
theorem sw_ndL {A : Nat → Prop} {S : Nat × va_E} {L : List AP} (h : va_D A (S :: chG L none)) : (L.map Prod.fst).Nodup := by
  have h1 := (sw_D_iff.mp h).1
  rw [List.map_cons, chG_fst] at h1
  exact (List.nodup_cons.mp h1).2
theorem gaX_f {f : Nat} {x : AP} {suf : List AP} (h : gaE x suf = false) : gaX f x suf = (x.1, x.2.1, x.2.2.1 + szS (gaM suf), false, false, f + 1) ∧ gaF f x suf = f + 1 ∧ gaW x suf = (if x.2.2.2.1 then 1 else 0) + usS (gaM suf) := by
  unfold gaX gaF gaW
  rw [h]
  exact ⟨rfl, rfl, rfl⟩
theorem gaX_t {f : Nat} {x : AP} {suf : List AP} (h : gaE x suf = true) : gaX f x suf = x ∧ gaF f x suf = f ∧ gaW x suf = 0 ∧ gaR suf = suf := by
  unfold gaX gaF gaW
  rw [h]
  refine ⟨rfl, rfl, rfl, gaR_nil ?_⟩
  unfold gaE at h
  cases hm : gaM suf with
  | nil => rfl
  | cons y M => rw [hm] at h; simp at h
end
section
set_option maxHeartbeats 4000000 in
set_option maxRecDepth 100000 in
theorem c_S_cutTo (l : Launch) (D : va_G) (ty : tyL) (N0 sz : Nat) (h cn : Nat) (fi ha : Option Nat) (f : Nat) (v w z : Int32) (A1 B1 : va_W) (x : AP) (nx : Option Nat) (n : Nat) (hn : n < 2 ^ 31) (hb2 : x.2.2.1 < 2 ^ 31) : Met l y_S_cutTo (Cond.code y_S_cutTo b_S_cutTo 4 none :: GW) ({ frames := 2, cells := 1, slots := 6, locals := 35 }) (va_Pc [.ref h, .ref x.1, .int (nI n)] (at1 D ty N0 sz (scell h cn fi ha f v w z :: (A1 ++ pcell x nx :: B1)))) (va_Qv (fun ws' => (x.2.2.1 ≤ n ∧ ws' = scell h cn fi ha f v w z :: (A1 ++ pcell x nx :: B1)) ∨ (n < x.2.2.1 ∧ ∃ q : Nat, ws' = scell h cn fi ha (f + 1) v w z :: (A1 ++ pcell (x.1, x.2.1, n, x.2.2.2) (some q) :: pcell (q, x.2.1 + n, x.2.2.1 - n, false, false, f + 1) nx :: B1))) (at2 D ty (va_A (scell h cn fi ha f v w z :: (A1 ++ pcell x nx :: B1)) sz)) (va_A (scell h cn fi ha f v w z :: (A1 ++ pcell x nx :: B1)) sz)) 1 6 (va_A (scell h cn fi ha f v w z :: (A1 ++ pcell x nx :: B1)) sz) := by
  refine Met.ofW (cc := b_S_cutTo) (maxL := 4) (ret := none) (by decide) rfl ?_
  intro p e s m args below meth c s₁ B hml hv
  obtain ⟨rfl, hsz, hN0, ⟨hP, hK, hN⟩, hD0, hE⟩ := hv
  subst hsz
  have hD := hD0.self (sz := s.heap.size)
  have hAN := sw_AN hD0 hN0
  generalize hAe : va_A (scell h cn fi ha f v w z :: (A1 ++ pcell x nx :: B1)) s.heap.size = A at hD hAN ⊢
  have hA : ∀ q : Nat, s.heap.size ≤ q → A q := fun q h => by rw [← hAe]; exact Or.inr h
  have hS : va_S A s.heap s.heap [] := va_S.rf
  have hP : va_P D classes (scell h cn fi ha f v w z :: (A1 ++ pcell x nx :: B1)) s.heap := hP
  have hx := B.exec
  have hb := B.bytes
  have hr := B.returns
  have hg : ∀ w ∈ GW, w.before _ s = true := fun w h => atoms_spec (ws := Cond.code y_S_cutTo b_S_cutTo 4 none :: GW) B.pre w (List.mem_cons_of_mem _ h)
  have hown : s.vm.findClass R_S = some m.cls := findClass_of_methodNamed B.named
  have hlocks := B.notSynchronized
  have hl := lv_entry ([.ref h, .ref x.1, .int (nI n)]) (n := 4) (Nat.le_of_ble_eq_true rfl)
  rw [lg_entry_eq]
  generalize (lg_sl ([.ref h, .ref x.1, .int (nI n)]) ++ List.replicate (4 - (lg_sl ([.ref h, .ref x.1, .int (nI n)])).length) Slot.unset).toArray = ls at hl ⊢
  replace hl : lv_has ls 4 [(0, .ref h), (1, .ref x.1), (2, .int (nI n))] := hl
  replace hP : va_P D classes ((h, .inr (0, [.int (nI cn), va_rf fi, va_rf ha, .long (lN f), .int v, .int w, .int z])) :: (A1 ++ ((x.1, .inr (1, [.int (nI x.2.1), .int (nI x.2.2.1), .int (bI x.2.2.2.1), .int (bI x.2.2.2.2.1), .long (lN x.2.2.2.2.2), va_rf nx])) :: B1))) _ := hP
  replace hD : va_D A ((h, .inr (0, [.int (nI cn), va_rf fi, va_rf ha, .long (lN f), .int v, .int w, .int z])) :: (A1 ++ ((x.1, .inr (1, [.int (nI x.2.1), .int (nI x.2.2.1), .int (bI x.2.2.2.1), .int (bI x.2.2.2.2.1), .long (lN x.2.2.2.2.2), va_rf nx])) :: B1))) := hD
  refine lv_aload_n hx hb d_S_cutTo_0 rfl (lv_at hl 1 rfl) ?_
  refine va_getN (D := D) (ci := 1) (v := .int (nI x.2.2.1)) (C := R_P) (T := F_P) (N := 6) hx hb hg gi_P hown hK hP (A1.length + 1) (sw_get1 _ _ _ _) rfl 1 (by decide) (va_Nw.use rfl (hN.1 (60, "size", "I") (by decide))) (fun _ h9 => h9) rfl d_S_cutTo_1 ?_
  refine lv_iload_n hx hb d_S_cutTo_4 rfl (lv_at hl 2 rfl) ?_
  refine lv_icmp_gt (tgt := 9) hx hb d_S_cutTo_5 (by decide) (fun c_5 => ?_) (fun c_5 => ?_)
  · have hlt := (nI_ltI hn hb2).mp c_5
    refine va_new (ci := 1) (fs := [.int 0, .int 0, .int 0, .int 0, .long 0, .null]) (C := R_P) (T := F_P) (N := 6) hx hb hg gi_P t_P t_P_ok hown (hg _ gw_47) (hg _ gw_48) (hg _ gw_27) hK hP hD hS hA rfl (fun j hj => by rcases (show j = 0 ∨ j = 1 ∨ j = 2 ∨ j = 3 ∨ j = 4 ∨ j = 5 by omega) with rfl | rfl | rfl | rfl | rfl | rfl <;> rfl) (Nat.le_of_ble_eq_true rfl) (Nat.le_of_ble_eq_true rfl) d_S_cutTo_9 (fun q H hP hD hS => ?_)
    refine W.widen (k := 1) (n := 6) (Nat.le_of_ble_eq_true rfl) (Nat.le_of_ble_eq_true rfl) ?_
    refine lv_dup hx hb d_S_cutTo_12 rfl ?_
    refine lv_aload_n hx hb d_S_cutTo_13 rfl (lv_at hl 1 rfl) ?_
    refine va_getN (D := D) (ci := 1) (v := .int (nI x.2.1)) (C := R_P) (T := F_P) (N := 6) hx hb hg gi_P hown hK hP (A1.length + 1) (by rw [List.getElem?_append_left (by simp)]; exact sw_get1 _ _ _ _) rfl 0 (by decide) (va_Nw.use rfl (hN.1 (47, "begin", "I") (by decide))) (fun _ h9 => h9) rfl d_S_cutTo_14 ?_
    refine lv_iload_n hx hb d_S_cutTo_17 rfl (lv_at hl 2 rfl) ?_
    refine lv_iadd hx hb d_S_cutTo_18 ?_
    refine lv_topi (fun y1 ey1 => ?_)
    obtain rfl : y1 = nI (x.2.1 + n) := ey1.trans (nI_add _ _)
    clear ey1
    refine lv_aload_n hx hb d_S_cutTo_19 rfl (lv_at hl 1 rfl) ?_
    refine va_getN (D := D) (ci := 1) (v := .int (nI x.2.2.1)) (C := R_P) (T := F_P) (N := 6) hx hb hg gi_P hown hK hP (A1.length + 1) (by rw [List.getElem?_append_left (by simp)]; exact sw_get1 _ _ _ _) rfl 1 (by decide) (va_Nw.use rfl (hN.1 (60, "size", "I") (by decide))) (fun _ h9 => h9) rfl d_S_cutTo_20 ?_
    refine lv_iload_n hx hb d_S_cutTo_23 rfl (lv_at hl 2 rfl) ?_
    refine lv_isub hx hb d_S_cutTo_24 ?_
    refine lv_topi (fun y2 ey2 => ?_)
    obtain rfl : y2 = nI (x.2.2.1 - n) := ey2.trans (pk_sub (Nat.le_of_lt hlt))
    clear ey2
    refine lv_aload_n hx hb d_S_cutTo_25 rfl (lv_at hl 1 rfl) ?_
    refine va_getN (D := D) (ci := 1) (v := va_rf nx) (C := R_P) (T := F_P) (N := 6) hx hb hg gi_P hown hK hP (A1.length + 1) (by rw [List.getElem?_append_left (by simp)]; exact sw_get1 _ _ _ _) rfl 5 (by decide) (va_Nw.use rfl (hN.1 (69, "next", "LSweepHand$Piece;") (by decide))) (fun _ h9 => h9) rfl d_S_cutTo_26 ?_
    have hFc := sw_free hD hS hA
    refine va_callv (va_runIN (As := [.int (nI (x.2.1 + n)), .int (nI (x.2.2.1 - n)), va_rf nx]) (rest := [.ref q]) ⟨hx, hb, hml, hown, hg⟩ (c_P_init l D ty N0 _ ((h, .inr (0, [.int (nI cn), va_rf fi, va_rf ha, .long (lN f), .int v, .int w, .int z])) :: (A1 ++ ((x.1, .inr (1, [.int (nI x.2.1), .int (nI x.2.2.1), .int (bI x.2.2.2.1), .int (bI x.2.2.2.2.1), .long (lN x.2.2.2.2.2), va_rf nx])) :: B1))) q (x.2.1 + n) (x.2.2.1 - n) nx) ⟨va_cnB 3 hg (gw_c gw_51) rfl rfl rfl (hN.2.1 (107, y_P_init) (by decide +kernel)) (hg _ gw_27) (by decide +kernel) ⟨Nat.le_of_ble_eq_true rfl, Nat.le_of_ble_eq_true rfl⟩, rfl, hg _ gw_50⟩ (pre_wrS hP hK hN hD hS hAN hN0 hE) rfl rfl hl.1 rfl (lv_room (Nat.le_of_ble_eq_true rfl)) d_S_cutTo_29 ⟨Nat.le_of_ble_eq_true rfl, Nat.le_of_ble_eq_true rfl⟩) hS (fun q _ h => hFc q h) hFc (fun u t H locs ht hvm hw hB hz1 hk1 hS => ?_)
    obtain ⟨hP, hK1, hD1⟩ := hB
    rw [ht] at hP
    have hD := hD1.weaken (fun _ _ _ h => hFc _ h)
    clear hK1 hD1 hFc hk1 hz1
    subst hw
    replace hP := sw_P_perm hP (sw_new _ _ _ _ _)
    replace hD := sw_D_perm2 hD (sw_new _ _ _ _ _)
    replace hP : va_P D classes ((h, .inr (0, [.int (nI cn), va_rf fi, va_rf ha, .long (lN f), .int v, .int w, .int z])) :: (A1 ++ ((x.1, .inr (1, [.int (nI x.2.1), .int (nI x.2.2.1), .int (bI x.2.2.2.1), .int (bI x.2.2.2.2.1), .long (lN x.2.2.2.2.2), va_rf nx])) :: ((q, .inr (1, [.int (nI (x.2.1 + n)), .int (nI (x.2.2.1 - n)), .int (bI false), .int (bI false), .long (lN 0), va_rf nx])) :: B1)))) _ := hP
    replace hD : va_D A ((h, .inr (0, [.int (nI cn), va_rf fi, va_rf ha, .long (lN f), .int v, .int w, .int z])) :: (A1 ++ ((x.1, .inr (1, [.int (nI x.2.1), .int (nI x.2.2.1), .int (bI x.2.2.2.1), .int (bI x.2.2.2.2.1), .long (lN x.2.2.2.2.2), va_rf nx])) :: ((q, .inr (1, [.int (nI (x.2.1 + n)), .int (nI (x.2.2.1 - n)), .int (bI false), .int (bI false), .long (lN 0), va_rf nx])) :: B1)))) := hD
    refine W.widen (k := 1) (n := 6) (Nat.le_of_ble_eq_true rfl) (Nat.le_of_ble_eq_true rfl) ?_
    refine lv_astore_n (lv' := [(3, .ref q), (0, .ref h), (1, .ref x.1), (2, .int (nI n))]) hx hb d_S_cutTo_32 rfl hl (by decide) rfl (fun ls hl => ?_)
    refine lv_aload_n hx hb d_S_cutTo_33 rfl (lv_at hl 2 rfl) ?_
    refine lv_iload_n hx hb d_S_cutTo_34 rfl (lv_at hl 3 rfl) ?_
    refine va_putN (D := D) (ci := 1) (v := .int (nI n)) (ty := .int) (C := R_P) (T := F_P) (N := 6) hx hb hg gi_P t_P t_P_ok n_P hown hK hP hD hS (A1.length + 1) (sw_get1 _ _ _ _) rfl 1 (by decide) (va_Nw.use rfl (hN.1 (60, "size", "I") (by decide))) (fun _ h9 => h9) rfl (by decide +kernel) rfl rfl (Nat.le_of_ble_eq_true rfl) d_S_cutTo_35 (fun H locs hP hD hS => ?_)
    rw [sw_set1] at hP hD
    replace hP : va_P D classes ((h, .inr (0, [.int (nI cn), va_rf fi, va_rf ha, .long (lN f), .int v, .int w, .int z])) :: (A1 ++ ((x.1, .inr (1, [.int (nI x.2.1), .int (nI n), .int (bI x.2.2.2.1), .int (bI x.2.2.2.2.1), .long (lN x.2.2.2.2.2), va_rf nx])) :: ((q, .inr (1, [.int (nI (x.2.1 + n)), .int (nI (x.2.2.1 - n)), .int (bI false), .int (bI false), .long (lN 0), va_rf nx])) :: B1)))) _ := hP
    replace hD : va_D A ((h, .inr (0, [.int (nI cn), va_rf fi, va_rf ha, .long (lN f), .int v, .int w, .int z])) :: (A1 ++ ((x.1, .inr (1, [.int (nI x.2.1), .int (nI n), .int (bI x.2.2.2.1), .int (bI x.2.2.2.2.1), .long (lN x.2.2.2.2.2), va_rf nx])) :: ((q, .inr (1, [.int (nI (x.2.1 + n)), .int (nI (x.2.2.1 - n)), .int (bI false), .int (bI false), .long (lN 0), va_rf nx])) :: B1)))) := hD
    refine lv_aload_n hx hb d_S_cutTo_38 rfl (lv_at hl 2 rfl) ?_
    refine lv_aload_n hx hb d_S_cutTo_39 rfl (lv_at hl 0 rfl) ?_
    refine va_putN (D := D) (ci := 1) (v := .ref q) (ty := .object "SweepHand$Piece") (C := R_P) (T := F_P) (N := 6) hx hb hg gi_P t_P t_P_ok n_P hown hK hP hD hS (A1.length + 1) (sw_get1 _ _ _ _) rfl 5 (by decide) (va_Nw.use rfl (hN.1 (69, "next", "LSweepHand$Piece;") (by decide))) (fun _ h9 => h9) rfl (by decide +kernel) rfl rfl (Nat.le_of_ble_eq_true rfl) d_S_cutTo_40 (fun H locs hP hD hS => ?_)
    rw [sw_set1] at hP hD
    replace hP : va_P D classes ((h, .inr (0, [.int (nI cn), va_rf fi, va_rf ha, .long (lN f), .int v, .int w, .int z])) :: (A1 ++ ((x.1, .inr (1, [.int (nI x.2.1), .int (nI n), .int (bI x.2.2.2.1), .int (bI x.2.2.2.2.1), .long (lN x.2.2.2.2.2), .ref q])) :: ((q, .inr (1, [.int (nI (x.2.1 + n)), .int (nI (x.2.2.1 - n)), .int (bI false), .int (bI false), .long (lN 0), va_rf nx])) :: B1)))) _ := hP
    replace hD : va_D A ((h, .inr (0, [.int (nI cn), va_rf fi, va_rf ha, .long (lN f), .int v, .int w, .int z])) :: (A1 ++ ((x.1, .inr (1, [.int (nI x.2.1), .int (nI n), .int (bI x.2.2.2.1), .int (bI x.2.2.2.2.1), .long (lN x.2.2.2.2.2), .ref q])) :: ((q, .inr (1, [.int (nI (x.2.1 + n)), .int (nI (x.2.2.1 - n)), .int (bI false), .int (bI false), .long (lN 0), va_rf nx])) :: B1)))) := hD
    refine lv_aload_n hx hb d_S_cutTo_43 rfl (lv_at hl 1 rfl) ?_
    refine lv_aload_n hx hb d_S_cutTo_44 rfl (lv_at hl 0 rfl) ?_
    replace hP : va_P D classes ((h, .inr (0, [.int (nI cn), va_rf fi, va_rf ha, .long (lN f), .int v, .int w, .int z])) :: ((A1 ++ [(x.1, .inr (1, [.int (nI x.2.1), .int (nI n), .int (bI x.2.2.2.1), .int (bI x.2.2.2.2.1), .long (lN x.2.2.2.2.2), .ref q]))]) ++ (q, .inr (1, [.int (nI (x.2.1 + n)), .int (nI (x.2.2.1 - n)), .int (bI false), .int (bI false), .long (lN 0), va_rf nx])) :: B1)) H := by rw [List.append_assoc]; exact hP
    replace hD : va_D A ((h, .inr (0, [.int (nI cn), va_rf fi, va_rf ha, .long (lN f), .int v, .int w, .int z])) :: ((A1 ++ [(x.1, .inr (1, [.int (nI x.2.1), .int (nI n), .int (bI x.2.2.2.1), .int (bI x.2.2.2.2.1), .long (lN x.2.2.2.2.2), .ref q]))]) ++ (q, .inr (1, [.int (nI (x.2.1 + n)), .int (nI (x.2.2.1 - n)), .int (bI false), .int (bI false), .long (lN 0), va_rf nx])) :: B1)) := by rw [List.append_assoc]; exact hD
    have hFc := sw_free hD hS hA
    refine va_callv (va_runV (As := [.ref q]) (rest := []) ⟨hx, hb, hml, hown, hg⟩ (c_S_comeToBeFree l D ty N0 _ h cn fi ha f v w z (A1 ++ ([(x.1, .inr (1, [.int (nI x.2.1), .int (nI n), .int (bI x.2.2.2.1), .int (bI x.2.2.2.2.1), .long (lN x.2.2.2.2.2), .ref q]))] : va_W)) B1 (q, x.2.1 + n, x.2.2.1 - n, false, false, 0) nx) (cwV 1 hg (gw_V gw_77 gw_79 gw_1 gw_26 gw_80) rfl rfl rfl (by decide +kernel) ⟨Nat.le_of_ble_eq_true rfl, Nat.le_of_ble_eq_true rfl⟩) (pre_wrV hP hK hN hD hS hAN hN0 hE (ci := 0) (k := 0) rfl rfl) rfl rfl hl.1 rfl (lv_room (Nat.le_of_ble_eq_true rfl)) d_S_cutTo_45 ⟨Nat.le_of_ble_eq_true rfl, Nat.le_of_ble_eq_true rfl⟩) hS (fun q _ h => hFc q h) hFc (fun u t H locs ht hvm hw hB hz1 hk1 hS => ?_)
    obtain ⟨hP, hK1, hD1⟩ := hB
    rw [ht] at hP
    have hD := hD1.weaken (fun _ _ _ h => hFc _ h)
    clear hK1 hD1 hFc hk1 hz1
    subst hw
    rw [List.append_assoc] at hP hD
    refine W.widen (k := 1) (n := 6) (Nat.le_of_ble_eq_true rfl) (Nat.le_of_ble_eq_true rfl) ?_
    exact W.vret hx hb hr (fun t ht hW => ⟨⟨_, rfl, (Or.inr ⟨hlt, q, rfl⟩), at2.of hP hK hD ht hW⟩, hS.F ht⟩) hS.2.2 d_S_cutTo_48
  · refine W.widen (k := 1) (n := 6) (Nat.le_of_ble_eq_true rfl) (Nat.le_of_ble_eq_true rfl) ?_
    exact W.vret hx hb hr (fun t ht hW => ⟨⟨_, rfl, (Or.inl ⟨Nat.not_lt.mp (fun h9 => c_5 ((nI_ltI hn hb2).mpr h9)), rfl⟩), at2.of hP hK hD ht hW⟩, hS.F ht⟩) hS.2.2 d_S_cutTo_8
set_option maxHeartbeats 4000000 in
set_option maxRecDepth 100000 in
theorem c_S_gatherFrom (l : Launch) (D : va_G) (ty : tyL) (N0 sz : Nat) (h cn : Nat) (fi ha : Option Nat) (f : Nat) (v w z : Int32) (pre suf : List AP) (x : AP) : Met l y_S_gatherFrom (Cond.code y_S_gatherFrom b_S_gatherFrom 5 none :: GW) ({ frames := 1, cells := 0, slots := 0, locals := 21 }) (va_Pc [.ref h, .ref x.1] (at1 D ty N0 sz (scell h cn fi ha f v w z :: chG (pre ++ x :: suf) none))) (va_Qv (fun ws' => ws' = scell h cn fi ha (gaF f x suf) v (w + nI (gaW x suf)) z :: chG (pre ++ gaX f x suf :: gaR suf) none) (at2 D ty (va_A (scell h cn fi ha f v w z :: chG (pre ++ x :: suf) none) sz)) (va_A (scell h cn fi ha f v w z :: chG (pre ++ x :: suf) none) sz)) 0 0 (va_A (scell h cn fi ha f v w z :: chG (pre ++ x :: suf) none) sz) := by
  refine Met.ofW (cc := b_S_gatherFrom) (maxL := 5) (ret := none) (by decide) rfl ?_
  intro p e s m args below meth c s₁ B hml hv
  obtain ⟨rfl, hsz, hN0, ⟨hP, hK, hN⟩, hD0, hE⟩ := hv
  subst hsz
  have hD := hD0.self (sz := s.heap.size)
  have hAN := sw_AN hD0 hN0
  generalize hAe : va_A (scell h cn fi ha f v w z :: chG (pre ++ x :: suf) none) s.heap.size = A at hD hAN ⊢
  have hA : ∀ q : Nat, s.heap.size ≤ q → A q := fun q h => by rw [← hAe]; exact Or.inr h
  have hS : va_S A s.heap s.heap [] := va_S.rf
  have hP : va_P D classes (scell h cn fi ha f v w z :: chG (pre ++ x :: suf) none) s.heap := hP
  have hx := B.exec
  have hb := B.bytes
  have hr := B.returns
  have hg : ∀ w ∈ GW, w.before _ s = true := fun w h => atoms_spec (ws := Cond.code y_S_gatherFrom b_S_gatherFrom 5 none :: GW) B.pre w (List.mem_cons_of_mem _ h)
  have hown : s.vm.findClass R_S = some m.cls := findClass_of_methodNamed B.named
  have hlocks := B.notSynchronized
  have hl := lv_entry ([.ref h, .ref x.1]) (n := 5) (Nat.le_of_ble_eq_true rfl)
  rw [lg_entry_eq]
  generalize (lg_sl ([.ref h, .ref x.1]) ++ List.replicate (5 - (lg_sl ([.ref h, .ref x.1])).length) Slot.unset).toArray = ls at hl ⊢
  replace hl : lv_has ls 5 [(0, .ref h), (1, .ref x.1)] := hl
  have hx9 := chG_at (scell h cn fi ha f v w z) pre x suf none
  refine lv_aload_n hx hb d_S_gatherFrom_0 rfl (lv_at hl 1 rfl) ?_
  refine va_getN (D := D) (ci := 1) (v := .int (bI x.2.2.2.1)) (C := R_P) (T := F_P) (N := 6) hx hb hg gi_P hown hK hP (pre.length + 1) hx9 rfl 2 (by decide) (va_Nw.use rfl (hN.1 (37, "used", "Z") (by decide))) (fun _ h9 => h9) rfl d_S_gatherFrom_1 ?_
  refine lv_if_eq (tgt := 11) hx hb d_S_gatherFrom_4 (by decide) (fun c_4 => ?_) (fun c_4 => ?_)
  · refine lv_iconst (v := 0) hx hb d_S_gatherFrom_11 (by decide) ?_
    have hu : x.2.2.2.1 = false := bI_0.mp c_4
    refine lv_istore_n (lv' := [(2, .int 0), (0, .ref h), (1, .ref x.1)]) hx hb d_S_gatherFrom_12 rfl hl (by decide) rfl (fun ls hl => ?_)
    refine lv_aload_n hx hb d_S_gatherFrom_13 rfl (lv_at hl 2 rfl) ?_
    refine va_getN (D := D) (ci := 1) (v := .int (nI x.2.2.1)) (C := R_P) (T := F_P) (N := 6) hx hb hg gi_P hown hK hP (pre.length + 1) hx9 rfl 1 (by decide) (va_Nw.use rfl (hN.1 (60, "size", "I") (by decide))) (fun _ h9 => h9) rfl d_S_gatherFrom_14 ?_
    refine lv_istore_n (lv' := [(3, .int (nI x.2.2.1)), (2, .int 0), (0, .ref h), (1, .ref x.1)]) hx hb d_S_gatherFrom_17 rfl hl (by decide) rfl (fun ls hl => ?_)
    refine lv_aload_n hx hb d_S_gatherFrom_18 rfl (lv_at hl 3 rfl) ?_
    refine va_getN (D := D) (ci := 1) (v := va_rf (hdO suf none)) (C := R_P) (T := F_P) (N := 6) hx hb hg gi_P hown hK hP (pre.length + 1) hx9 rfl 5 (by decide) (va_Nw.use rfl (hN.1 (69, "next", "LSweepHand$Piece;") (by decide))) (fun _ h9 => h9) rfl d_S_gatherFrom_19 ?_
    refine sv_astore (lv' := [(4, va_rf (hdO suf none)), (3, .int (nI x.2.2.1)), (2, .int 0), (0, .ref h), (1, .ref x.1)]) hx hb d_S_gatherFrom_22 hl (by decide) rfl (fun ls hl => ?_)
    obtain ⟨g, hgg⟩ : ∃ q : Nat, q = x.2.2.1 := ⟨_, rfl⟩
    obtain ⟨k2, hk2⟩ : ∃ q : Nat, q = 0 := ⟨_, rfl⟩
    obtain ⟨rs, hs⟩ : ∃ q, q = suf := ⟨_, rfl⟩
    replace hl := lv_sub hl [0, 1, 2, 3, 4] rfl
    replace hl : lv_has ls 5 [(4, va_rf (hdO suf none)), (3, .int (nI x.2.2.1)), (2, .int 0), (0, .ref h), (1, .ref x.1)] := hl
    replace hl : lv_has ls 5 [(4, va_rf (hdO rs none)), (3, .int (nI g)), (2, .int (nI k2)), (0, .ref h), (1, .ref x.1)] := by rw [hs, hgg, hk2]; exact hl
    have hmid : ∃ mid, suf = mid ++ rs := ⟨[], hs.symm⟩
    have hr1 : gaR suf = gaR rs := by rw [hs]
    have hr2 : x.2.2.1 + szS (gaM suf) = g + szS (gaM rs) := by rw [hs, hgg]
    have hr3 : (if x.2.2.2.1 then 1 else 0) + usS (gaM suf) = k2 + usS (gaM rs) := by rw [hs, hk2, hu]; rfl
    clear hs hgg hk2
    revert hr3
    revert hr2
    revert hr1
    revert hmid
    revert hl
    revert k2
    revert g
    revert ls
    induction rs with
    | nil =>
      intro ls g k2 hl hmid hr1 hr2 hr3
      replace hl : lv_has ls 5 [(4, .null), (3, .int (nI g)), (2, .int (nI k2)), (0, .ref h), (1, .ref x.1)] := hl
      refine lv_aloadN hx hb d_S_gatherFrom_24 (lv_at hl 0 rfl) ?_
      refine lv_ifnullN (tgt := 71) hx hb d_S_gatherFrom_26 (by decide) ?_
      have hgr : gaR suf = [] := hr1
      have hg2 : g = x.2.2.1 + szS (gaM suf) := by rw [hr2]; rfl
      have hk9 : k2 = (if x.2.2.2.1 then 1 else 0) + usS (gaM suf) := by rw [hr3]; rfl
      replace hl : lv_has ls 5 [(4, va_rf (hdO (gaR suf) none)), (3, .int (nI (x.2.2.1 + szS (gaM suf)))), (2, .int (nI k2)), (0, .ref h), (1, .ref x.1)] := by rw [hgr, ← hg2]; exact hl
      refine lv_aload_n hx hb d_S_gatherFrom_71 rfl (lv_at hl 4 rfl) ?_
      refine va_getN (D := D) (ci := 1) (v := .int (bI x.2.2.2.1)) (C := R_P) (T := F_P) (N := 6) hx hb hg gi_P hown hK hP (pre.length + 1) hx9 rfl 2 (by decide) (va_Nw.use rfl (hN.1 (37, "used", "Z") (by decide))) (fun _ h9 => h9) rfl d_S_gatherFrom_72 ?_
      refine lv_if_ne (tgt := 88) hx hb d_S_gatherFrom_75 (by decide) (fun c_75 => ?_) (fun c_75 => ?_)
      · exact absurd (by rw [hu]; rfl) c_75
      · refine sv_aload hx hb d_S_gatherFrom_78 (lv_at hl 0 rfl) ?_
        refine lv_aload_n hx hb d_S_gatherFrom_80 rfl (lv_at hl 4 rfl) ?_
        refine va_getN (D := D) (ci := 1) (v := va_rf (hdO suf none)) (C := R_P) (T := F_P) (N := 6) hx hb hg gi_P hown hK hP (pre.length + 1) hx9 rfl 5 (by decide) (va_Nw.use rfl (hN.1 (69, "next", "LSweepHand$Piece;") (by decide))) (fun _ h9 => h9) rfl d_S_gatherFrom_81 ?_
        refine lv_acmp_ne (rx := (hdO (gaR suf) none)) (ry := (hdO suf none)) (tgt := 88) hx hb d_S_gatherFrom_84 (by decide) (fun c_84 => ?_) (fun c_84 => ?_)
        · have hE9 : gaE x suf = false := by unfold gaE; rw [hu]; cases hm9 : gaM suf with | nil => exact absurd ((ga_same (sw_nd hD)).mpr hm9) c_84 | cons y9 m9 => rfl
          obtain ⟨e1, e2, e3⟩ := gaX_f (f := f) hE9
          rw [chG_mid] at hP hD
          replace hP : va_P D classes ((h, .inr (0, [.int (nI cn), va_rf fi, va_rf ha, .long (lN f), .int v, .int w, .int z])) :: ((chG pre (some x.1)) ++ ((x.1, .inr (1, [.int (nI x.2.1), .int (nI x.2.2.1), .int (bI x.2.2.2.1), .int (bI x.2.2.2.2.1), .long (lN x.2.2.2.2.2), va_rf (hdO suf none)])) :: chG suf none))) _ := hP
          replace hD : va_D A ((h, .inr (0, [.int (nI cn), va_rf fi, va_rf ha, .long (lN f), .int v, .int w, .int z])) :: ((chG pre (some x.1)) ++ ((x.1, .inr (1, [.int (nI x.2.1), .int (nI x.2.2.1), .int (bI x.2.2.2.1), .int (bI x.2.2.2.2.1), .long (lN x.2.2.2.2.2), va_rf (hdO suf none)])) :: chG suf none))) := hD
          refine lv_aload_n hx hb d_S_gatherFrom_88 rfl (lv_at hl 4 rfl) ?_
          refine lv_iload_n hx hb d_S_gatherFrom_89 rfl (lv_at hl 1 rfl) ?_
          refine va_putN (D := D) (ci := 1) (v := .int (nI (x.2.2.1 + szS (gaM suf)))) (ty := .int) (C := R_P) (T := F_P) (N := 6) hx hb hg gi_P t_P t_P_ok n_P hown hK hP hD hS ((chG pre (some x.1)).length + 1) (sw_get1 _ _ _ _) rfl 1 (by decide) (va_Nw.use rfl (hN.1 (60, "size", "I") (by decide))) (fun _ h9 => h9) rfl (by decide +kernel) rfl rfl (Nat.le_of_ble_eq_true rfl) d_S_gatherFrom_90 (fun H locs hP hD hS => ?_)
          rw [sw_set1] at hP hD
          replace hP : va_P D classes ((h, .inr (0, [.int (nI cn), va_rf fi, va_rf ha, .long (lN f), .int v, .int w, .int z])) :: ((chG pre (some x.1)) ++ ((x.1, .inr (1, [.int (nI x.2.1), .int (nI (x.2.2.1 + szS (gaM suf))), .int (bI x.2.2.2.1), .int (bI x.2.2.2.2.1), .long (lN x.2.2.2.2.2), va_rf (hdO suf none)])) :: chG suf none))) _ := hP
          replace hD : va_D A ((h, .inr (0, [.int (nI cn), va_rf fi, va_rf ha, .long (lN f), .int v, .int w, .int z])) :: ((chG pre (some x.1)) ++ ((x.1, .inr (1, [.int (nI x.2.1), .int (nI (x.2.2.1 + szS (gaM suf))), .int (bI x.2.2.2.1), .int (bI x.2.2.2.2.1), .long (lN x.2.2.2.2.2), va_rf (hdO suf none)])) :: chG suf none))) := hD
          refine lv_aload_n hx hb d_S_gatherFrom_93 rfl (lv_at hl 4 rfl) ?_
          refine sv_aload hx hb d_S_gatherFrom_94 (lv_at hl 0 rfl) ?_
          refine va_putN (D := D) (ci := 1) (v := va_rf (hdO (gaR suf) none)) (ty := .object "SweepHand$Piece") (C := R_P) (T := F_P) (N := 6) hx hb hg gi_P t_P t_P_ok n_P hown hK hP hD hS ((chG pre (some x.1)).length + 1) (sw_get1 _ _ _ _) rfl 5 (by decide) (va_Nw.use rfl (hN.1 (69, "next", "LSweepHand$Piece;") (by decide))) (fun _ h9 => h9) rfl (by decide +kernel) (sv_nar _ _) (sv_fit _ _) (Nat.le_of_ble_eq_true rfl) d_S_gatherFrom_96 (fun H locs hP hD hS => ?_)
          rw [sw_set1] at hP hD
          replace hP : va_P D classes ((h, .inr (0, [.int (nI cn), va_rf fi, va_rf ha, .long (lN f), .int v, .int w, .int z])) :: ((chG pre (some x.1)) ++ ((x.1, .inr (1, [.int (nI x.2.1), .int (nI (x.2.2.1 + szS (gaM suf))), .int (bI x.2.2.2.1), .int (bI x.2.2.2.2.1), .long (lN x.2.2.2.2.2), va_rf (hdO (gaR suf) none)])) :: chG suf none))) _ := hP
          replace hD : va_D A ((h, .inr (0, [.int (nI cn), va_rf fi, va_rf ha, .long (lN f), .int v, .int w, .int z])) :: ((chG pre (some x.1)) ++ ((x.1, .inr (1, [.int (nI x.2.1), .int (nI (x.2.2.1 + szS (gaM suf))), .int (bI x.2.2.2.1), .int (bI x.2.2.2.2.1), .long (lN x.2.2.2.2.2), va_rf (hdO (gaR suf) none)])) :: chG suf none))) := hD
          refine lv_aload_n hx hb d_S_gatherFrom_99 rfl (lv_at hl 3 rfl) ?_
          refine lv_aload_n hx hb d_S_gatherFrom_100 rfl (lv_at hl 4 rfl) ?_
          have hFc := sw_free hD hS hA
          refine va_callv (va_runV (As := [.ref x.1]) (rest := []) ⟨hx, hb, hml, hown, hg⟩ (c_S_comeToBeFree l D ty N0 _ h cn fi ha f v w z (chG pre (some x.1)) (chG suf none) (x.1, x.2.1, x.2.2.1 + szS (gaM suf), x.2.2.2) (hdO (gaR suf) none)) (cwV 1 hg (gw_V gw_77 gw_79 gw_1 gw_26 gw_80) rfl rfl rfl (by decide +kernel) ⟨Nat.le_of_ble_eq_true rfl, Nat.le_of_ble_eq_true rfl⟩) (pre_wrV hP hK hN hD hS hAN hN0 hE (ci := 0) (k := 0) rfl rfl) rfl rfl hl.1 rfl (lv_room (Nat.le_of_ble_eq_true rfl)) d_S_gatherFrom_101 ⟨Nat.le_of_ble_eq_true rfl, Nat.le_of_ble_eq_true rfl⟩) hS (fun q _ h => hFc q h) hFc (fun u t H locs ht hvm hw hB hz1 hk1 hS => ?_)
          obtain ⟨hP, hK1, hD1⟩ := hB
          rw [ht] at hP
          have hD := hD1.weaken (fun _ _ _ h => hFc _ h)
          clear hK1 hD1 hFc hk1 hz1
          subst hw
          replace hP : va_P D classes ((h, .inr (0, [.int (nI cn), va_rf fi, va_rf ha, .long (lN (f + 1)), .int v, .int w, .int z])) :: ((chG pre (some x.1)) ++ ((x.1, .inr (1, [.int (nI x.2.1), .int (nI (x.2.2.1 + szS (gaM suf))), .int (bI false), .int (bI false), .long (lN (f + 1)), va_rf (hdO (gaR suf) none)])) :: chG suf none))) _ := hP
          replace hD : va_D A ((h, .inr (0, [.int (nI cn), va_rf fi, va_rf ha, .long (lN (f + 1)), .int v, .int w, .int z])) :: ((chG pre (some x.1)) ++ ((x.1, .inr (1, [.int (nI x.2.1), .int (nI (x.2.2.1 + szS (gaM suf))), .int (bI false), .int (bI false), .long (lN (f + 1)), va_rf (hdO (gaR suf) none)])) :: chG suf none))) := hD
          refine lv_aload_n hx hb d_S_gatherFrom_104 rfl (lv_at hl 3 rfl) ?_
          refine lv_dup hx hb d_S_gatherFrom_105 rfl ?_
          refine va_get (D := D) (ci := 0) (v := .int w) (C := R_S) (T := F_S) (N := 7) hx hb hg gi_S hown hK hP 0 rfl rfl 5 (by decide) (hg _ gw_86) (fun _ h9 => h9) rfl d_S_gatherFrom_106 ?_
          refine lv_iload_n hx hb d_S_gatherFrom_109 rfl (lv_at hl 2 rfl) ?_
          refine lv_iadd hx hb d_S_gatherFrom_110 ?_
          refine va_put (D := D) (ci := 0) (v := .int (w + (nI k2))) (ty := .int) (C := R_S) (T := F_S) (N := 7) hx hb hg gi_S t_S t_S_ok n_S hown hK hP hD hS 0 rfl rfl 5 (by decide) (hg _ gw_86) (fun _ h9 => h9) rfl (by decide +kernel) rfl rfl (Nat.le_of_ble_eq_true rfl) d_S_gatherFrom_111 (fun H locs hP hD hS => ?_)
          replace hP : va_P D classes ((h, .inr (0, [.int (nI cn), va_rf fi, va_rf ha, .long (lN (f + 1)), .int v, .int (w + (nI k2)), .int z])) :: ((chG pre (some x.1)) ++ ((x.1, .inr (1, [.int (nI x.2.1), .int (nI (x.2.2.1 + szS (gaM suf))), .int (bI false), .int (bI false), .long (lN (f + 1)), va_rf (hdO (gaR suf) none)])) :: chG suf none))) _ := hP
          replace hD : va_D A ((h, .inr (0, [.int (nI cn), va_rf fi, va_rf ha, .long (lN (f + 1)), .int v, .int (w + (nI k2)), .int z])) :: ((chG pre (some x.1)) ++ ((x.1, .inr (1, [.int (nI x.2.1), .int (nI (x.2.2.1 + szS (gaM suf))), .int (bI false), .int (bI false), .long (lN (f + 1)), va_rf (hdO (gaR suf) none)])) :: chG suf none))) := hD
          replace hP := sw_P_sub hP (List.Sublist.cons_cons _ (List.Sublist.append_left (List.Sublist.cons_cons _ (gaR_sub suf)) _))
          replace hD := sw_D_sub2 hD (List.Sublist.cons_cons _ (List.Sublist.append_left (List.Sublist.cons_cons _ (gaR_sub suf)) _))
          refine W.widen (k := 0) (n := 0) (Nat.le_of_ble_eq_true rfl) (Nat.le_of_ble_eq_true rfl) ?_
          exact W.vret hx hb hr (fun t ht hW => ⟨⟨_, rfl, (by rw [e1, e2, e3, ← hk9, chG_mid]; rfl), at2.of hP hK hD ht hW⟩, hS.F ht⟩) hS.2.2 d_S_gatherFrom_114
        · have hE9 : gaE x suf = true := by unfold gaE; rw [hu, (ga_same (sw_nd hD)).mp c_84]; rfl
          obtain ⟨e1, e2, e3, e4⟩ := gaX_t (f := f) hE9
          refine W.widen (k := 0) (n := 0) (Nat.le_of_ble_eq_true rfl) (Nat.le_of_ble_eq_true rfl) ?_
          exact W.vret hx hb hr (fun t ht hW => ⟨⟨_, rfl, (by rw [e1, e2, e3, e4, nI_0, Int32.add_zero]), at2.of hP hK hD ht hW⟩, hS.F ht⟩) hS.2.2 d_S_gatherFrom_87
    | cons y rs ih =>
      intro ls g k2 hl hmid hr1 hr2 hr3
      replace hl : lv_has ls 5 [(4, .ref y.1), (3, .int (nI g)), (2, .int (nI k2)), (0, .ref h), (1, .ref x.1)] := hl
      obtain ⟨mid, hmid⟩ := hmid
      have he := chG_at (scell h cn fi ha f v w z) (pre ++ x :: mid) y rs none
      rw [List.append_assoc, List.cons_append, ← hmid] at he
      refine lv_aload hx hb d_S_gatherFrom_24 (lv_at hl 0 rfl) ?_
      refine lv_ifnull hx hb d_S_gatherFrom_26 ?_
      refine lv_aload hx hb d_S_gatherFrom_29 (lv_at hl 0 rfl) ?_
      refine vp_callSi (va_runVN (As := []) (rest := []) ⟨hx, hb, hml, hown, hg⟩ (c_P_isKeptBySweep l D ty _ ((pre ++ x :: mid).length + 1) y (hdO rs none) he) ⟨va_cnB 0 hg (gw_c gw_318) rfl rfl rfl (hN.2.1 (135, y_P_isKeptBySweep) (by decide +kernel)) (hg _ gw_27) (by decide +kernel) ⟨Nat.le_of_ble_eq_true rfl, Nat.le_of_ble_eq_true rfl⟩, hg _ gw_317, hg _ gw_12⟩ (pre_roV hP hK hN (ci := 1) rfl he) rfl rfl hl.1 rfl (lv_room (Nat.le_of_ble_eq_true rfl)) d_S_gatherFrom_31 ⟨Nat.le_of_ble_eq_true rfl, Nat.le_of_ble_eq_true rfl⟩).run (fun rk hrk => ?_)
      refine lv_if_ne (tgt := 71) hx hb d_S_gatherFrom_34 (by decide) (fun c_34 => ?_) (fun c_34 => ?_)
      · have hky : isKp y = true := bI_n0.mp (by rw [← hrk]; exact c_34)
        have hgr : gaR suf = y :: rs := by rw [hr1, gaR, if_pos hky]
        have hg2 : g = x.2.2.1 + szS (gaM suf) := by rw [hr2, gaM, if_pos hky]; rfl
        have hk9 : k2 = (if x.2.2.2.1 then 1 else 0) + usS (gaM suf) := by rw [hr3, gaM, if_pos hky]; rfl
        replace hl : lv_has ls 5 [(4, va_rf (hdO (gaR suf) none)), (3, .int (nI (x.2.2.1 + szS (gaM suf)))), (2, .int (nI k2)), (0, .ref h), (1, .ref x.1)] := by rw [hgr, ← hg2]; exact hl
        refine lv_aload_n hx hb d_S_gatherFrom_71 rfl (lv_at hl 4 rfl) ?_
        refine va_getN (D := D) (ci := 1) (v := .int (bI x.2.2.2.1)) (C := R_P) (T := F_P) (N := 6) hx hb hg gi_P hown hK hP (pre.length + 1) hx9 rfl 2 (by decide) (va_Nw.use rfl (hN.1 (37, "used", "Z") (by decide))) (fun _ h9 => h9) rfl d_S_gatherFrom_72 ?_
        refine lv_if_ne (tgt := 88) hx hb d_S_gatherFrom_75 (by decide) (fun c_75 => ?_) (fun c_75 => ?_)
        · exact absurd (by rw [hu]; rfl) c_75
        · refine sv_aload hx hb d_S_gatherFrom_78 (lv_at hl 0 rfl) ?_
          refine lv_aload_n hx hb d_S_gatherFrom_80 rfl (lv_at hl 4 rfl) ?_
          refine va_getN (D := D) (ci := 1) (v := va_rf (hdO suf none)) (C := R_P) (T := F_P) (N := 6) hx hb hg gi_P hown hK hP (pre.length + 1) hx9 rfl 5 (by decide) (va_Nw.use rfl (hN.1 (69, "next", "LSweepHand$Piece;") (by decide))) (fun _ h9 => h9) rfl d_S_gatherFrom_81 ?_
          refine lv_acmp_ne (rx := (hdO (gaR suf) none)) (ry := (hdO suf none)) (tgt := 88) hx hb d_S_gatherFrom_84 (by decide) (fun c_84 => ?_) (fun c_84 => ?_)
          · have hE9 : gaE x suf = false := by unfold gaE; rw [hu]; cases hm9 : gaM suf with | nil => exact absurd ((ga_same (sw_nd hD)).mpr hm9) c_84 | cons y9 m9 => rfl
            obtain ⟨e1, e2, e3⟩ := gaX_f (f := f) hE9
            rw [chG_mid] at hP hD
            replace hP : va_P D classes ((h, .inr (0, [.int (nI cn), va_rf fi, va_rf ha, .long (lN f), .int v, .int w, .int z])) :: ((chG pre (some x.1)) ++ ((x.1, .inr (1, [.int (nI x.2.1), .int (nI x.2.2.1), .int (bI x.2.2.2.1), .int (bI x.2.2.2.2.1), .long (lN x.2.2.2.2.2), va_rf (hdO suf none)])) :: chG suf none))) _ := hP
            replace hD : va_D A ((h, .inr (0, [.int (nI cn), va_rf fi, va_rf ha, .long (lN f), .int v, .int w, .int z])) :: ((chG pre (some x.1)) ++ ((x.1, .inr (1, [.int (nI x.2.1), .int (nI x.2.2.1), .int (bI x.2.2.2.1), .int (bI x.2.2.2.2.1), .long (lN x.2.2.2.2.2), va_rf (hdO suf none)])) :: chG suf none))) := hD
            refine lv_aload_n hx hb d_S_gatherFrom_88 rfl (lv_at hl 4 rfl) ?_
            refine lv_iload_n hx hb d_S_gatherFrom_89 rfl (lv_at hl 1 rfl) ?_
            refine va_putN (D := D) (ci := 1) (v := .int (nI (x.2.2.1 + szS (gaM suf)))) (ty := .int) (C := R_P) (T := F_P) (N := 6) hx hb hg gi_P t_P t_P_ok n_P hown hK hP hD hS ((chG pre (some x.1)).length + 1) (sw_get1 _ _ _ _) rfl 1 (by decide) (va_Nw.use rfl (hN.1 (60, "size", "I") (by decide))) (fun _ h9 => h9) rfl (by decide +kernel) rfl rfl (Nat.le_of_ble_eq_true rfl) d_S_gatherFrom_90 (fun H locs hP hD hS => ?_)
            rw [sw_set1] at hP hD
            replace hP : va_P D classes ((h, .inr (0, [.int (nI cn), va_rf fi, va_rf ha, .long (lN f), .int v, .int w, .int z])) :: ((chG pre (some x.1)) ++ ((x.1, .inr (1, [.int (nI x.2.1), .int (nI (x.2.2.1 + szS (gaM suf))), .int (bI x.2.2.2.1), .int (bI x.2.2.2.2.1), .long (lN x.2.2.2.2.2), va_rf (hdO suf none)])) :: chG suf none))) _ := hP
            replace hD : va_D A ((h, .inr (0, [.int (nI cn), va_rf fi, va_rf ha, .long (lN f), .int v, .int w, .int z])) :: ((chG pre (some x.1)) ++ ((x.1, .inr (1, [.int (nI x.2.1), .int (nI (x.2.2.1 + szS (gaM suf))), .int (bI x.2.2.2.1), .int (bI x.2.2.2.2.1), .long (lN x.2.2.2.2.2), va_rf (hdO suf none)])) :: chG suf none))) := hD
            refine lv_aload_n hx hb d_S_gatherFrom_93 rfl (lv_at hl 4 rfl) ?_
            refine sv_aload hx hb d_S_gatherFrom_94 (lv_at hl 0 rfl) ?_
            refine va_putN (D := D) (ci := 1) (v := va_rf (hdO (gaR suf) none)) (ty := .object "SweepHand$Piece") (C := R_P) (T := F_P) (N := 6) hx hb hg gi_P t_P t_P_ok n_P hown hK hP hD hS ((chG pre (some x.1)).length + 1) (sw_get1 _ _ _ _) rfl 5 (by decide) (va_Nw.use rfl (hN.1 (69, "next", "LSweepHand$Piece;") (by decide))) (fun _ h9 => h9) rfl (by decide +kernel) (sv_nar _ _) (sv_fit _ _) (Nat.le_of_ble_eq_true rfl) d_S_gatherFrom_96 (fun H locs hP hD hS => ?_)
            rw [sw_set1] at hP hD
            replace hP : va_P D classes ((h, .inr (0, [.int (nI cn), va_rf fi, va_rf ha, .long (lN f), .int v, .int w, .int z])) :: ((chG pre (some x.1)) ++ ((x.1, .inr (1, [.int (nI x.2.1), .int (nI (x.2.2.1 + szS (gaM suf))), .int (bI x.2.2.2.1), .int (bI x.2.2.2.2.1), .long (lN x.2.2.2.2.2), va_rf (hdO (gaR suf) none)])) :: chG suf none))) _ := hP
            replace hD : va_D A ((h, .inr (0, [.int (nI cn), va_rf fi, va_rf ha, .long (lN f), .int v, .int w, .int z])) :: ((chG pre (some x.1)) ++ ((x.1, .inr (1, [.int (nI x.2.1), .int (nI (x.2.2.1 + szS (gaM suf))), .int (bI x.2.2.2.1), .int (bI x.2.2.2.2.1), .long (lN x.2.2.2.2.2), va_rf (hdO (gaR suf) none)])) :: chG suf none))) := hD
            refine lv_aload_n hx hb d_S_gatherFrom_99 rfl (lv_at hl 3 rfl) ?_
            refine lv_aload_n hx hb d_S_gatherFrom_100 rfl (lv_at hl 4 rfl) ?_
            have hFc := sw_free hD hS hA
            refine va_callv (va_runV (As := [.ref x.1]) (rest := []) ⟨hx, hb, hml, hown, hg⟩ (c_S_comeToBeFree l D ty N0 _ h cn fi ha f v w z (chG pre (some x.1)) (chG suf none) (x.1, x.2.1, x.2.2.1 + szS (gaM suf), x.2.2.2) (hdO (gaR suf) none)) (cwV 1 hg (gw_V gw_77 gw_79 gw_1 gw_26 gw_80) rfl rfl rfl (by decide +kernel) ⟨Nat.le_of_ble_eq_true rfl, Nat.le_of_ble_eq_true rfl⟩) (pre_wrV hP hK hN hD hS hAN hN0 hE (ci := 0) (k := 0) rfl rfl) rfl rfl hl.1 rfl (lv_room (Nat.le_of_ble_eq_true rfl)) d_S_gatherFrom_101 ⟨Nat.le_of_ble_eq_true rfl, Nat.le_of_ble_eq_true rfl⟩) hS (fun q _ h => hFc q h) hFc (fun u t H locs ht hvm hw hB hz1 hk1 hS => ?_)
            obtain ⟨hP, hK1, hD1⟩ := hB
            rw [ht] at hP
            have hD := hD1.weaken (fun _ _ _ h => hFc _ h)
            clear hK1 hD1 hFc hk1 hz1
            subst hw
            replace hP : va_P D classes ((h, .inr (0, [.int (nI cn), va_rf fi, va_rf ha, .long (lN (f + 1)), .int v, .int w, .int z])) :: ((chG pre (some x.1)) ++ ((x.1, .inr (1, [.int (nI x.2.1), .int (nI (x.2.2.1 + szS (gaM suf))), .int (bI false), .int (bI false), .long (lN (f + 1)), va_rf (hdO (gaR suf) none)])) :: chG suf none))) _ := hP
            replace hD : va_D A ((h, .inr (0, [.int (nI cn), va_rf fi, va_rf ha, .long (lN (f + 1)), .int v, .int w, .int z])) :: ((chG pre (some x.1)) ++ ((x.1, .inr (1, [.int (nI x.2.1), .int (nI (x.2.2.1 + szS (gaM suf))), .int (bI false), .int (bI false), .long (lN (f + 1)), va_rf (hdO (gaR suf) none)])) :: chG suf none))) := hD
            refine lv_aload_n hx hb d_S_gatherFrom_104 rfl (lv_at hl 3 rfl) ?_
            refine lv_dup hx hb d_S_gatherFrom_105 rfl ?_
            refine va_get (D := D) (ci := 0) (v := .int w) (C := R_S) (T := F_S) (N := 7) hx hb hg gi_S hown hK hP 0 rfl rfl 5 (by decide) (hg _ gw_86) (fun _ h9 => h9) rfl d_S_gatherFrom_106 ?_
            refine lv_iload_n hx hb d_S_gatherFrom_109 rfl (lv_at hl 2 rfl) ?_
            refine lv_iadd hx hb d_S_gatherFrom_110 ?_
            refine va_put (D := D) (ci := 0) (v := .int (w + (nI k2))) (ty := .int) (C := R_S) (T := F_S) (N := 7) hx hb hg gi_S t_S t_S_ok n_S hown hK hP hD hS 0 rfl rfl 5 (by decide) (hg _ gw_86) (fun _ h9 => h9) rfl (by decide +kernel) rfl rfl (Nat.le_of_ble_eq_true rfl) d_S_gatherFrom_111 (fun H locs hP hD hS => ?_)
            replace hP : va_P D classes ((h, .inr (0, [.int (nI cn), va_rf fi, va_rf ha, .long (lN (f + 1)), .int v, .int (w + (nI k2)), .int z])) :: ((chG pre (some x.1)) ++ ((x.1, .inr (1, [.int (nI x.2.1), .int (nI (x.2.2.1 + szS (gaM suf))), .int (bI false), .int (bI false), .long (lN (f + 1)), va_rf (hdO (gaR suf) none)])) :: chG suf none))) _ := hP
            replace hD : va_D A ((h, .inr (0, [.int (nI cn), va_rf fi, va_rf ha, .long (lN (f + 1)), .int v, .int (w + (nI k2)), .int z])) :: ((chG pre (some x.1)) ++ ((x.1, .inr (1, [.int (nI x.2.1), .int (nI (x.2.2.1 + szS (gaM suf))), .int (bI false), .int (bI false), .long (lN (f + 1)), va_rf (hdO (gaR suf) none)])) :: chG suf none))) := hD
            replace hP := sw_P_sub hP (List.Sublist.cons_cons _ (List.Sublist.append_left (List.Sublist.cons_cons _ (gaR_sub suf)) _))
            replace hD := sw_D_sub2 hD (List.Sublist.cons_cons _ (List.Sublist.append_left (List.Sublist.cons_cons _ (gaR_sub suf)) _))
            refine W.widen (k := 0) (n := 0) (Nat.le_of_ble_eq_true rfl) (Nat.le_of_ble_eq_true rfl) ?_
            exact W.vret hx hb hr (fun t ht hW => ⟨⟨_, rfl, (by rw [e1, e2, e3, ← hk9, chG_mid]; rfl), at2.of hP hK hD ht hW⟩, hS.F ht⟩) hS.2.2 d_S_gatherFrom_114
          · have hE9 : gaE x suf = true := by unfold gaE; rw [hu, (ga_same (sw_nd hD)).mp c_84]; rfl
            obtain ⟨e1, e2, e3, e4⟩ := gaX_t (f := f) hE9
            refine W.widen (k := 0) (n := 0) (Nat.le_of_ble_eq_true rfl) (Nat.le_of_ble_eq_true rfl) ?_
            exact W.vret hx hb hr (fun t ht hW => ⟨⟨_, rfl, (by rw [e1, e2, e3, e4, nI_0, Int32.add_zero]), at2.of hP hK hD ht hW⟩, hS.F ht⟩) hS.2.2 d_S_gatherFrom_87
      · have hky : ¬ isKp y = true := by rw [show isKp y = false from bI_0.mp (by rw [← hrk]; exact c_34)]; decide
        refine lv_iload_n hx hb d_S_gatherFrom_37 rfl (lv_at hl 2 rfl) ?_
        refine lv_aload hx hb d_S_gatherFrom_38 (lv_at hl 0 rfl) ?_
        refine va_getN (D := D) (ci := 1) (v := .int (bI y.2.2.2.1)) (C := R_P) (T := F_P) (N := 6) hx hb hg gi_P hown hK hP ((pre ++ x :: mid).length + 1) he rfl 2 (by decide) (va_Nw.use rfl (hN.1 (37, "used", "Z") (by decide))) (fun _ h9 => h9) rfl d_S_gatherFrom_40 ?_
        refine lv_if_eq (tgt := 50) hx hb d_S_gatherFrom_43 (by decide) (fun c_43 => ?_) (fun c_43 => ?_)
        · refine lv_iconst (v := 0) hx hb d_S_gatherFrom_50 (by decide) ?_
          have huy : y.2.2.2.1 = false := bI_0.mp c_43
          refine lv_iadd hx hb d_S_gatherFrom_51 ?_
          refine lv_topi (fun y1 ey1 => ?_)
          obtain rfl : y1 = nI (k2 + 0) := ey1.trans (nI_add k2 0)
          clear ey1
          refine lv_istore_n (lv' := [(2, .int (nI (k2 + 0))), (4, .ref y.1), (3, .int (nI g)), (0, .ref h), (1, .ref x.1)]) hx hb d_S_gatherFrom_52 rfl hl (by decide) rfl (fun ls hl => ?_)
          refine lv_iload_n hx hb d_S_gatherFrom_53 rfl (lv_at hl 2 rfl) ?_
          refine lv_aload hx hb d_S_gatherFrom_54 (lv_at hl 1 rfl) ?_
          refine va_getN (D := D) (ci := 1) (v := .int (nI y.2.2.1)) (C := R_P) (T := F_P) (N := 6) hx hb hg gi_P hown hK hP ((pre ++ x :: mid).length + 1) he rfl 1 (by decide) (va_Nw.use rfl (hN.1 (60, "size", "I") (by decide))) (fun _ h9 => h9) rfl d_S_gatherFrom_56 ?_
          refine lv_iadd hx hb d_S_gatherFrom_59 ?_
          refine lv_topi (fun y2 ey2 => ?_)
          obtain rfl : y2 = nI (g + y.2.2.1) := ey2.trans (nI_add _ _)
          clear ey2
          refine lv_istore_n (lv' := [(3, .int (nI (g + y.2.2.1))), (2, .int (nI (k2 + 0))), (4, .ref y.1), (0, .ref h), (1, .ref x.1)]) hx hb d_S_gatherFrom_60 rfl hl (by decide) rfl (fun ls hl => ?_)
          refine lv_aload hx hb d_S_gatherFrom_61 (lv_at hl 2 rfl) ?_
          refine va_getN (D := D) (ci := 1) (v := va_rf (hdO rs none)) (C := R_P) (T := F_P) (N := 6) hx hb hg gi_P hown hK hP ((pre ++ x :: mid).length + 1) he rfl 5 (by decide) (va_Nw.use rfl (hN.1 (69, "next", "LSweepHand$Piece;") (by decide))) (fun _ h9 => h9) rfl d_S_gatherFrom_63 ?_
          refine sv_astore (lv' := [(4, va_rf (hdO rs none)), (3, .int (nI (g + y.2.2.1))), (2, .int (nI (k2 + 0))), (0, .ref h), (1, .ref x.1)]) hx hb d_S_gatherFrom_66 hl (by decide) rfl (fun ls hl => ?_)
          refine lv_goto (tgt := 24) hx hb d_S_gatherFrom_68 (by decide) ?_
          exact ih ls (g + y.2.2.1) (k2 + 0) (lv_sub hl [0, 1, 2, 3, 4] rfl) ⟨mid ++ [y], by rw [hmid, List.append_assoc]; rfl⟩ (by rw [hr1, gaR, if_neg hky]) (by rw [hr2, gaM, if_neg hky, szS]; omega) (by rw [hr3, gaM, if_neg hky, usS, huy]; simp)
        · refine lv_iconst (v := 1) hx hb d_S_gatherFrom_46 (by decide) ?_
          refine lv_goto (tgt := 51) hx hb d_S_gatherFrom_47 (by decide) ?_
          have huy : y.2.2.2.1 = true := bI_n0.mp c_43
          refine lv_iadd hx hb d_S_gatherFrom_51 ?_
          refine lv_topi (fun y3 ey3 => ?_)
          obtain rfl : y3 = nI (k2 + 1) := ey3.trans (nI_add k2 1)
          clear ey3
          refine lv_istore_n (lv' := [(2, .int (nI (k2 + 1))), (4, .ref y.1), (3, .int (nI g)), (0, .ref h), (1, .ref x.1)]) hx hb d_S_gatherFrom_52 rfl hl (by decide) rfl (fun ls hl => ?_)
          refine lv_iload_n hx hb d_S_gatherFrom_53 rfl (lv_at hl 2 rfl) ?_
          refine lv_aload hx hb d_S_gatherFrom_54 (lv_at hl 1 rfl) ?_
          refine va_getN (D := D) (ci := 1) (v := .int (nI y.2.2.1)) (C := R_P) (T := F_P) (N := 6) hx hb hg gi_P hown hK hP ((pre ++ x :: mid).length + 1) he rfl 1 (by decide) (va_Nw.use rfl (hN.1 (60, "size", "I") (by decide))) (fun _ h9 => h9) rfl d_S_gatherFrom_56 ?_
          refine lv_iadd hx hb d_S_gatherFrom_59 ?_
          refine lv_topi (fun y4 ey4 => ?_)
          obtain rfl : y4 = nI (g + y.2.2.1) := ey4.trans (nI_add _ _)
          clear ey4
          refine lv_istore_n (lv' := [(3, .int (nI (g + y.2.2.1))), (2, .int (nI (k2 + 1))), (4, .ref y.1), (0, .ref h), (1, .ref x.1)]) hx hb d_S_gatherFrom_60 rfl hl (by decide) rfl (fun ls hl => ?_)
          refine lv_aload hx hb d_S_gatherFrom_61 (lv_at hl 2 rfl) ?_
          refine va_getN (D := D) (ci := 1) (v := va_rf (hdO rs none)) (C := R_P) (T := F_P) (N := 6) hx hb hg gi_P hown hK hP ((pre ++ x :: mid).length + 1) he rfl 5 (by decide) (va_Nw.use rfl (hN.1 (69, "next", "LSweepHand$Piece;") (by decide))) (fun _ h9 => h9) rfl d_S_gatherFrom_63 ?_
          refine sv_astore (lv' := [(4, va_rf (hdO rs none)), (3, .int (nI (g + y.2.2.1))), (2, .int (nI (k2 + 1))), (0, .ref h), (1, .ref x.1)]) hx hb d_S_gatherFrom_66 hl (by decide) rfl (fun ls hl => ?_)
          refine lv_goto (tgt := 24) hx hb d_S_gatherFrom_68 (by decide) ?_
          exact ih ls (g + y.2.2.1) (k2 + 1) (lv_sub hl [0, 1, 2, 3, 4] rfl) ⟨mid ++ [y], by rw [hmid, List.append_assoc]; rfl⟩ (by rw [hr1, gaR, if_neg hky]) (by rw [hr2, gaM, if_neg hky, szS]; omega) (by rw [hr3, gaM, if_neg hky, usS, huy]; simp; omega)
  · refine lv_iconst (v := 1) hx hb d_S_gatherFrom_7 (by decide) ?_
    refine lv_goto (tgt := 12) hx hb d_S_gatherFrom_8 (by decide) ?_
    have hu : x.2.2.2.1 = true := bI_n0.mp c_4
    refine lv_istore_n (lv' := [(2, .int 1), (0, .ref h), (1, .ref x.1)]) hx hb d_S_gatherFrom_12 rfl hl (by decide) rfl (fun ls hl => ?_)
    refine lv_aload_n hx hb d_S_gatherFrom_13 rfl (lv_at hl 2 rfl) ?_
    refine va_getN (D := D) (ci := 1) (v := .int (nI x.2.2.1)) (C := R_P) (T := F_P) (N := 6) hx hb hg gi_P hown hK hP (pre.length + 1) hx9 rfl 1 (by decide) (va_Nw.use rfl (hN.1 (60, "size", "I") (by decide))) (fun _ h9 => h9) rfl d_S_gatherFrom_14 ?_
    refine lv_istore_n (lv' := [(3, .int (nI x.2.2.1)), (2, .int 1), (0, .ref h), (1, .ref x.1)]) hx hb d_S_gatherFrom_17 rfl hl (by decide) rfl (fun ls hl => ?_)
    refine lv_aload_n hx hb d_S_gatherFrom_18 rfl (lv_at hl 3 rfl) ?_
    refine va_getN (D := D) (ci := 1) (v := va_rf (hdO suf none)) (C := R_P) (T := F_P) (N := 6) hx hb hg gi_P hown hK hP (pre.length + 1) hx9 rfl 5 (by decide) (va_Nw.use rfl (hN.1 (69, "next", "LSweepHand$Piece;") (by decide))) (fun _ h9 => h9) rfl d_S_gatherFrom_19 ?_
    refine sv_astore (lv' := [(4, va_rf (hdO suf none)), (3, .int (nI x.2.2.1)), (2, .int 1), (0, .ref h), (1, .ref x.1)]) hx hb d_S_gatherFrom_22 hl (by decide) rfl (fun ls hl => ?_)
    obtain ⟨g, hgg⟩ : ∃ q : Nat, q = x.2.2.1 := ⟨_, rfl⟩
    obtain ⟨k2, hk2⟩ : ∃ q : Nat, q = 1 := ⟨_, rfl⟩
    obtain ⟨rs, hs⟩ : ∃ q, q = suf := ⟨_, rfl⟩
    replace hl := lv_sub hl [0, 1, 2, 3, 4] rfl
    replace hl : lv_has ls 5 [(4, va_rf (hdO suf none)), (3, .int (nI x.2.2.1)), (2, .int 1), (0, .ref h), (1, .ref x.1)] := hl
    replace hl : lv_has ls 5 [(4, va_rf (hdO rs none)), (3, .int (nI g)), (2, .int (nI k2)), (0, .ref h), (1, .ref x.1)] := by rw [hs, hgg, hk2]; exact hl
    have hmid : ∃ mid, suf = mid ++ rs := ⟨[], hs.symm⟩
    have hr1 : gaR suf = gaR rs := by rw [hs]
    have hr2 : x.2.2.1 + szS (gaM suf) = g + szS (gaM rs) := by rw [hs, hgg]
    have hr3 : (if x.2.2.2.1 then 1 else 0) + usS (gaM suf) = k2 + usS (gaM rs) := by rw [hs, hk2, hu]; rfl
    clear hs hgg hk2
    revert hr3
    revert hr2
    revert hr1
    revert hmid
    revert hl
    revert k2
    revert g
    revert ls
    induction rs with
    | nil =>
      intro ls g k2 hl hmid hr1 hr2 hr3
      replace hl : lv_has ls 5 [(4, .null), (3, .int (nI g)), (2, .int (nI k2)), (0, .ref h), (1, .ref x.1)] := hl
      refine lv_aloadN hx hb d_S_gatherFrom_24 (lv_at hl 0 rfl) ?_
      refine lv_ifnullN (tgt := 71) hx hb d_S_gatherFrom_26 (by decide) ?_
      have hgr : gaR suf = [] := hr1
      have hg2 : g = x.2.2.1 + szS (gaM suf) := by rw [hr2]; rfl
      have hk9 : k2 = (if x.2.2.2.1 then 1 else 0) + usS (gaM suf) := by rw [hr3]; rfl
      replace hl : lv_has ls 5 [(4, va_rf (hdO (gaR suf) none)), (3, .int (nI (x.2.2.1 + szS (gaM suf)))), (2, .int (nI k2)), (0, .ref h), (1, .ref x.1)] := by rw [hgr, ← hg2]; exact hl
      refine lv_aload_n hx hb d_S_gatherFrom_71 rfl (lv_at hl 4 rfl) ?_
      refine va_getN (D := D) (ci := 1) (v := .int (bI x.2.2.2.1)) (C := R_P) (T := F_P) (N := 6) hx hb hg gi_P hown hK hP (pre.length + 1) hx9 rfl 2 (by decide) (va_Nw.use rfl (hN.1 (37, "used", "Z") (by decide))) (fun _ h9 => h9) rfl d_S_gatherFrom_72 ?_
      refine lv_if_ne (tgt := 88) hx hb d_S_gatherFrom_75 (by decide) (fun c_75 => ?_) (fun c_75 => ?_)
      · have hE9 : gaE x suf = false := by unfold gaE; rw [hu]; rfl
        obtain ⟨e1, e2, e3⟩ := gaX_f (f := f) hE9
        rw [chG_mid] at hP hD
        replace hP : va_P D classes ((h, .inr (0, [.int (nI cn), va_rf fi, va_rf ha, .long (lN f), .int v, .int w, .int z])) :: ((chG pre (some x.1)) ++ ((x.1, .inr (1, [.int (nI x.2.1), .int (nI x.2.2.1), .int (bI x.2.2.2.1), .int (bI x.2.2.2.2.1), .long (lN x.2.2.2.2.2), va_rf (hdO suf none)])) :: chG suf none))) _ := hP
        replace hD : va_D A ((h, .inr (0, [.int (nI cn), va_rf fi, va_rf ha, .long (lN f), .int v, .int w, .int z])) :: ((chG pre (some x.1)) ++ ((x.1, .inr (1, [.int (nI x.2.1), .int (nI x.2.2.1), .int (bI x.2.2.2.1), .int (bI x.2.2.2.2.1), .long (lN x.2.2.2.2.2), va_rf (hdO suf none)])) :: chG suf none))) := hD
        refine lv_aload_n hx hb d_S_gatherFrom_88 rfl (lv_at hl 4 rfl) ?_
        refine lv_iload_n hx hb d_S_gatherFrom_89 rfl (lv_at hl 1 rfl) ?_
        refine va_putN (D := D) (ci := 1) (v := .int (nI (x.2.2.1 + szS (gaM suf)))) (ty := .int) (C := R_P) (T := F_P) (N := 6) hx hb hg gi_P t_P t_P_ok n_P hown hK hP hD hS ((chG pre (some x.1)).length + 1) (sw_get1 _ _ _ _) rfl 1 (by decide) (va_Nw.use rfl (hN.1 (60, "size", "I") (by decide))) (fun _ h9 => h9) rfl (by decide +kernel) rfl rfl (Nat.le_of_ble_eq_true rfl) d_S_gatherFrom_90 (fun H locs hP hD hS => ?_)
        rw [sw_set1] at hP hD
        replace hP : va_P D classes ((h, .inr (0, [.int (nI cn), va_rf fi, va_rf ha, .long (lN f), .int v, .int w, .int z])) :: ((chG pre (some x.1)) ++ ((x.1, .inr (1, [.int (nI x.2.1), .int (nI (x.2.2.1 + szS (gaM suf))), .int (bI x.2.2.2.1), .int (bI x.2.2.2.2.1), .long (lN x.2.2.2.2.2), va_rf (hdO suf none)])) :: chG suf none))) _ := hP
        replace hD : va_D A ((h, .inr (0, [.int (nI cn), va_rf fi, va_rf ha, .long (lN f), .int v, .int w, .int z])) :: ((chG pre (some x.1)) ++ ((x.1, .inr (1, [.int (nI x.2.1), .int (nI (x.2.2.1 + szS (gaM suf))), .int (bI x.2.2.2.1), .int (bI x.2.2.2.2.1), .long (lN x.2.2.2.2.2), va_rf (hdO suf none)])) :: chG suf none))) := hD
        refine lv_aload_n hx hb d_S_gatherFrom_93 rfl (lv_at hl 4 rfl) ?_
        refine sv_aload hx hb d_S_gatherFrom_94 (lv_at hl 0 rfl) ?_
        refine va_putN (D := D) (ci := 1) (v := va_rf (hdO (gaR suf) none)) (ty := .object "SweepHand$Piece") (C := R_P) (T := F_P) (N := 6) hx hb hg gi_P t_P t_P_ok n_P hown hK hP hD hS ((chG pre (some x.1)).length + 1) (sw_get1 _ _ _ _) rfl 5 (by decide) (va_Nw.use rfl (hN.1 (69, "next", "LSweepHand$Piece;") (by decide))) (fun _ h9 => h9) rfl (by decide +kernel) (sv_nar _ _) (sv_fit _ _) (Nat.le_of_ble_eq_true rfl) d_S_gatherFrom_96 (fun H locs hP hD hS => ?_)
        rw [sw_set1] at hP hD
        replace hP : va_P D classes ((h, .inr (0, [.int (nI cn), va_rf fi, va_rf ha, .long (lN f), .int v, .int w, .int z])) :: ((chG pre (some x.1)) ++ ((x.1, .inr (1, [.int (nI x.2.1), .int (nI (x.2.2.1 + szS (gaM suf))), .int (bI x.2.2.2.1), .int (bI x.2.2.2.2.1), .long (lN x.2.2.2.2.2), va_rf (hdO (gaR suf) none)])) :: chG suf none))) _ := hP
        replace hD : va_D A ((h, .inr (0, [.int (nI cn), va_rf fi, va_rf ha, .long (lN f), .int v, .int w, .int z])) :: ((chG pre (some x.1)) ++ ((x.1, .inr (1, [.int (nI x.2.1), .int (nI (x.2.2.1 + szS (gaM suf))), .int (bI x.2.2.2.1), .int (bI x.2.2.2.2.1), .long (lN x.2.2.2.2.2), va_rf (hdO (gaR suf) none)])) :: chG suf none))) := hD
        refine lv_aload_n hx hb d_S_gatherFrom_99 rfl (lv_at hl 3 rfl) ?_
        refine lv_aload_n hx hb d_S_gatherFrom_100 rfl (lv_at hl 4 rfl) ?_
        have hFc := sw_free hD hS hA
        refine va_callv (va_runV (As := [.ref x.1]) (rest := []) ⟨hx, hb, hml, hown, hg⟩ (c_S_comeToBeFree l D ty N0 _ h cn fi ha f v w z (chG pre (some x.1)) (chG suf none) (x.1, x.2.1, x.2.2.1 + szS (gaM suf), x.2.2.2) (hdO (gaR suf) none)) (cwV 1 hg (gw_V gw_77 gw_79 gw_1 gw_26 gw_80) rfl rfl rfl (by decide +kernel) ⟨Nat.le_of_ble_eq_true rfl, Nat.le_of_ble_eq_true rfl⟩) (pre_wrV hP hK hN hD hS hAN hN0 hE (ci := 0) (k := 0) rfl rfl) rfl rfl hl.1 rfl (lv_room (Nat.le_of_ble_eq_true rfl)) d_S_gatherFrom_101 ⟨Nat.le_of_ble_eq_true rfl, Nat.le_of_ble_eq_true rfl⟩) hS (fun q _ h => hFc q h) hFc (fun u t H locs ht hvm hw hB hz1 hk1 hS => ?_)
        obtain ⟨hP, hK1, hD1⟩ := hB
        rw [ht] at hP
        have hD := hD1.weaken (fun _ _ _ h => hFc _ h)
        clear hK1 hD1 hFc hk1 hz1
        subst hw
        replace hP : va_P D classes ((h, .inr (0, [.int (nI cn), va_rf fi, va_rf ha, .long (lN (f + 1)), .int v, .int w, .int z])) :: ((chG pre (some x.1)) ++ ((x.1, .inr (1, [.int (nI x.2.1), .int (nI (x.2.2.1 + szS (gaM suf))), .int (bI false), .int (bI false), .long (lN (f + 1)), va_rf (hdO (gaR suf) none)])) :: chG suf none))) _ := hP
        replace hD : va_D A ((h, .inr (0, [.int (nI cn), va_rf fi, va_rf ha, .long (lN (f + 1)), .int v, .int w, .int z])) :: ((chG pre (some x.1)) ++ ((x.1, .inr (1, [.int (nI x.2.1), .int (nI (x.2.2.1 + szS (gaM suf))), .int (bI false), .int (bI false), .long (lN (f + 1)), va_rf (hdO (gaR suf) none)])) :: chG suf none))) := hD
        refine lv_aload_n hx hb d_S_gatherFrom_104 rfl (lv_at hl 3 rfl) ?_
        refine lv_dup hx hb d_S_gatherFrom_105 rfl ?_
        refine va_get (D := D) (ci := 0) (v := .int w) (C := R_S) (T := F_S) (N := 7) hx hb hg gi_S hown hK hP 0 rfl rfl 5 (by decide) (hg _ gw_86) (fun _ h9 => h9) rfl d_S_gatherFrom_106 ?_
        refine lv_iload_n hx hb d_S_gatherFrom_109 rfl (lv_at hl 2 rfl) ?_
        refine lv_iadd hx hb d_S_gatherFrom_110 ?_
        refine va_put (D := D) (ci := 0) (v := .int (w + (nI k2))) (ty := .int) (C := R_S) (T := F_S) (N := 7) hx hb hg gi_S t_S t_S_ok n_S hown hK hP hD hS 0 rfl rfl 5 (by decide) (hg _ gw_86) (fun _ h9 => h9) rfl (by decide +kernel) rfl rfl (Nat.le_of_ble_eq_true rfl) d_S_gatherFrom_111 (fun H locs hP hD hS => ?_)
        replace hP : va_P D classes ((h, .inr (0, [.int (nI cn), va_rf fi, va_rf ha, .long (lN (f + 1)), .int v, .int (w + (nI k2)), .int z])) :: ((chG pre (some x.1)) ++ ((x.1, .inr (1, [.int (nI x.2.1), .int (nI (x.2.2.1 + szS (gaM suf))), .int (bI false), .int (bI false), .long (lN (f + 1)), va_rf (hdO (gaR suf) none)])) :: chG suf none))) _ := hP
        replace hD : va_D A ((h, .inr (0, [.int (nI cn), va_rf fi, va_rf ha, .long (lN (f + 1)), .int v, .int (w + (nI k2)), .int z])) :: ((chG pre (some x.1)) ++ ((x.1, .inr (1, [.int (nI x.2.1), .int (nI (x.2.2.1 + szS (gaM suf))), .int (bI false), .int (bI false), .long (lN (f + 1)), va_rf (hdO (gaR suf) none)])) :: chG suf none))) := hD
        replace hP := sw_P_sub hP (List.Sublist.cons_cons _ (List.Sublist.append_left (List.Sublist.cons_cons _ (gaR_sub suf)) _))
        replace hD := sw_D_sub2 hD (List.Sublist.cons_cons _ (List.Sublist.append_left (List.Sublist.cons_cons _ (gaR_sub suf)) _))
        refine W.widen (k := 0) (n := 0) (Nat.le_of_ble_eq_true rfl) (Nat.le_of_ble_eq_true rfl) ?_
        exact W.vret hx hb hr (fun t ht hW => ⟨⟨_, rfl, (by rw [e1, e2, e3, ← hk9, chG_mid]; rfl), at2.of hP hK hD ht hW⟩, hS.F ht⟩) hS.2.2 d_S_gatherFrom_114
      · exact absurd c_75 (by rw [hu]; decide)
    | cons y rs ih =>
      intro ls g k2 hl hmid hr1 hr2 hr3
      replace hl : lv_has ls 5 [(4, .ref y.1), (3, .int (nI g)), (2, .int (nI k2)), (0, .ref h), (1, .ref x.1)] := hl
      obtain ⟨mid, hmid⟩ := hmid
      have he := chG_at (scell h cn fi ha f v w z) (pre ++ x :: mid) y rs none
      rw [List.append_assoc, List.cons_append, ← hmid] at he
      refine lv_aload hx hb d_S_gatherFrom_24 (lv_at hl 0 rfl) ?_
      refine lv_ifnull hx hb d_S_gatherFrom_26 ?_
      refine lv_aload hx hb d_S_gatherFrom_29 (lv_at hl 0 rfl) ?_
      refine vp_callSi (va_runVN (As := []) (rest := []) ⟨hx, hb, hml, hown, hg⟩ (c_P_isKeptBySweep l D ty _ ((pre ++ x :: mid).length + 1) y (hdO rs none) he) ⟨va_cnB 0 hg (gw_c gw_318) rfl rfl rfl (hN.2.1 (135, y_P_isKeptBySweep) (by decide +kernel)) (hg _ gw_27) (by decide +kernel) ⟨Nat.le_of_ble_eq_true rfl, Nat.le_of_ble_eq_true rfl⟩, hg _ gw_317, hg _ gw_12⟩ (pre_roV hP hK hN (ci := 1) rfl he) rfl rfl hl.1 rfl (lv_room (Nat.le_of_ble_eq_true rfl)) d_S_gatherFrom_31 ⟨Nat.le_of_ble_eq_true rfl, Nat.le_of_ble_eq_true rfl⟩).run (fun rk hrk => ?_)
      refine lv_if_ne (tgt := 71) hx hb d_S_gatherFrom_34 (by decide) (fun c_34 => ?_) (fun c_34 => ?_)
      · have hky : isKp y = true := bI_n0.mp (by rw [← hrk]; exact c_34)
        have hgr : gaR suf = y :: rs := by rw [hr1, gaR, if_pos hky]
        have hg2 : g = x.2.2.1 + szS (gaM suf) := by rw [hr2, gaM, if_pos hky]; rfl
        have hk9 : k2 = (if x.2.2.2.1 then 1 else 0) + usS (gaM suf) := by rw [hr3, gaM, if_pos hky]; rfl
        replace hl : lv_has ls 5 [(4, va_rf (hdO (gaR suf) none)), (3, .int (nI (x.2.2.1 + szS (gaM suf)))), (2, .int (nI k2)), (0, .ref h), (1, .ref x.1)] := by rw [hgr, ← hg2]; exact hl
        refine lv_aload_n hx hb d_S_gatherFrom_71 rfl (lv_at hl 4 rfl) ?_
        refine va_getN (D := D) (ci := 1) (v := .int (bI x.2.2.2.1)) (C := R_P) (T := F_P) (N := 6) hx hb hg gi_P hown hK hP (pre.length + 1) hx9 rfl 2 (by decide) (va_Nw.use rfl (hN.1 (37, "used", "Z") (by decide))) (fun _ h9 => h9) rfl d_S_gatherFrom_72 ?_
        refine lv_if_ne (tgt := 88) hx hb d_S_gatherFrom_75 (by decide) (fun c_75 => ?_) (fun c_75 => ?_)
        · have hE9 : gaE x suf = false := by unfold gaE; rw [hu]; rfl
          obtain ⟨e1, e2, e3⟩ := gaX_f (f := f) hE9
          rw [chG_mid] at hP hD
          replace hP : va_P D classes ((h, .inr (0, [.int (nI cn), va_rf fi, va_rf ha, .long (lN f), .int v, .int w, .int z])) :: ((chG pre (some x.1)) ++ ((x.1, .inr (1, [.int (nI x.2.1), .int (nI x.2.2.1), .int (bI x.2.2.2.1), .int (bI x.2.2.2.2.1), .long (lN x.2.2.2.2.2), va_rf (hdO suf none)])) :: chG suf none))) _ := hP
          replace hD : va_D A ((h, .inr (0, [.int (nI cn), va_rf fi, va_rf ha, .long (lN f), .int v, .int w, .int z])) :: ((chG pre (some x.1)) ++ ((x.1, .inr (1, [.int (nI x.2.1), .int (nI x.2.2.1), .int (bI x.2.2.2.1), .int (bI x.2.2.2.2.1), .long (lN x.2.2.2.2.2), va_rf (hdO suf none)])) :: chG suf none))) := hD
          refine lv_aload_n hx hb d_S_gatherFrom_88 rfl (lv_at hl 4 rfl) ?_
          refine lv_iload_n hx hb d_S_gatherFrom_89 rfl (lv_at hl 1 rfl) ?_
          refine va_putN (D := D) (ci := 1) (v := .int (nI (x.2.2.1 + szS (gaM suf)))) (ty := .int) (C := R_P) (T := F_P) (N := 6) hx hb hg gi_P t_P t_P_ok n_P hown hK hP hD hS ((chG pre (some x.1)).length + 1) (sw_get1 _ _ _ _) rfl 1 (by decide) (va_Nw.use rfl (hN.1 (60, "size", "I") (by decide))) (fun _ h9 => h9) rfl (by decide +kernel) rfl rfl (Nat.le_of_ble_eq_true rfl) d_S_gatherFrom_90 (fun H locs hP hD hS => ?_)
          rw [sw_set1] at hP hD
          replace hP : va_P D classes ((h, .inr (0, [.int (nI cn), va_rf fi, va_rf ha, .long (lN f), .int v, .int w, .int z])) :: ((chG pre (some x.1)) ++ ((x.1, .inr (1, [.int (nI x.2.1), .int (nI (x.2.2.1 + szS (gaM suf))), .int (bI x.2.2.2.1), .int (bI x.2.2.2.2.1), .long (lN x.2.2.2.2.2), va_rf (hdO suf none)])) :: chG suf none))) _ := hP
          replace hD : va_D A ((h, .inr (0, [.int (nI cn), va_rf fi, va_rf ha, .long (lN f), .int v, .int w, .int z])) :: ((chG pre (some x.1)) ++ ((x.1, .inr (1, [.int (nI x.2.1), .int (nI (x.2.2.1 + szS (gaM suf))), .int (bI x.2.2.2.1), .int (bI x.2.2.2.2.1), .long (lN x.2.2.2.2.2), va_rf (hdO suf none)])) :: chG suf none))) := hD
          refine lv_aload_n hx hb d_S_gatherFrom_93 rfl (lv_at hl 4 rfl) ?_
          refine sv_aload hx hb d_S_gatherFrom_94 (lv_at hl 0 rfl) ?_
          refine va_putN (D := D) (ci := 1) (v := va_rf (hdO (gaR suf) none)) (ty := .object "SweepHand$Piece") (C := R_P) (T := F_P) (N := 6) hx hb hg gi_P t_P t_P_ok n_P hown hK hP hD hS ((chG pre (some x.1)).length + 1) (sw_get1 _ _ _ _) rfl 5 (by decide) (va_Nw.use rfl (hN.1 (69, "next", "LSweepHand$Piece;") (by decide))) (fun _ h9 => h9) rfl (by decide +kernel) (sv_nar _ _) (sv_fit _ _) (Nat.le_of_ble_eq_true rfl) d_S_gatherFrom_96 (fun H locs hP hD hS => ?_)
          rw [sw_set1] at hP hD
          replace hP : va_P D classes ((h, .inr (0, [.int (nI cn), va_rf fi, va_rf ha, .long (lN f), .int v, .int w, .int z])) :: ((chG pre (some x.1)) ++ ((x.1, .inr (1, [.int (nI x.2.1), .int (nI (x.2.2.1 + szS (gaM suf))), .int (bI x.2.2.2.1), .int (bI x.2.2.2.2.1), .long (lN x.2.2.2.2.2), va_rf (hdO (gaR suf) none)])) :: chG suf none))) _ := hP
          replace hD : va_D A ((h, .inr (0, [.int (nI cn), va_rf fi, va_rf ha, .long (lN f), .int v, .int w, .int z])) :: ((chG pre (some x.1)) ++ ((x.1, .inr (1, [.int (nI x.2.1), .int (nI (x.2.2.1 + szS (gaM suf))), .int (bI x.2.2.2.1), .int (bI x.2.2.2.2.1), .long (lN x.2.2.2.2.2), va_rf (hdO (gaR suf) none)])) :: chG suf none))) := hD
          refine lv_aload_n hx hb d_S_gatherFrom_99 rfl (lv_at hl 3 rfl) ?_
          refine lv_aload_n hx hb d_S_gatherFrom_100 rfl (lv_at hl 4 rfl) ?_
          have hFc := sw_free hD hS hA
          refine va_callv (va_runV (As := [.ref x.1]) (rest := []) ⟨hx, hb, hml, hown, hg⟩ (c_S_comeToBeFree l D ty N0 _ h cn fi ha f v w z (chG pre (some x.1)) (chG suf none) (x.1, x.2.1, x.2.2.1 + szS (gaM suf), x.2.2.2) (hdO (gaR suf) none)) (cwV 1 hg (gw_V gw_77 gw_79 gw_1 gw_26 gw_80) rfl rfl rfl (by decide +kernel) ⟨Nat.le_of_ble_eq_true rfl, Nat.le_of_ble_eq_true rfl⟩) (pre_wrV hP hK hN hD hS hAN hN0 hE (ci := 0) (k := 0) rfl rfl) rfl rfl hl.1 rfl (lv_room (Nat.le_of_ble_eq_true rfl)) d_S_gatherFrom_101 ⟨Nat.le_of_ble_eq_true rfl, Nat.le_of_ble_eq_true rfl⟩) hS (fun q _ h => hFc q h) hFc (fun u t H locs ht hvm hw hB hz1 hk1 hS => ?_)
          obtain ⟨hP, hK1, hD1⟩ := hB
          rw [ht] at hP
          have hD := hD1.weaken (fun _ _ _ h => hFc _ h)
          clear hK1 hD1 hFc hk1 hz1
          subst hw
          replace hP : va_P D classes ((h, .inr (0, [.int (nI cn), va_rf fi, va_rf ha, .long (lN (f + 1)), .int v, .int w, .int z])) :: ((chG pre (some x.1)) ++ ((x.1, .inr (1, [.int (nI x.2.1), .int (nI (x.2.2.1 + szS (gaM suf))), .int (bI false), .int (bI false), .long (lN (f + 1)), va_rf (hdO (gaR suf) none)])) :: chG suf none))) _ := hP
          replace hD : va_D A ((h, .inr (0, [.int (nI cn), va_rf fi, va_rf ha, .long (lN (f + 1)), .int v, .int w, .int z])) :: ((chG pre (some x.1)) ++ ((x.1, .inr (1, [.int (nI x.2.1), .int (nI (x.2.2.1 + szS (gaM suf))), .int (bI false), .int (bI false), .long (lN (f + 1)), va_rf (hdO (gaR suf) none)])) :: chG suf none))) := hD
          refine lv_aload_n hx hb d_S_gatherFrom_104 rfl (lv_at hl 3 rfl) ?_
          refine lv_dup hx hb d_S_gatherFrom_105 rfl ?_
          refine va_get (D := D) (ci := 0) (v := .int w) (C := R_S) (T := F_S) (N := 7) hx hb hg gi_S hown hK hP 0 rfl rfl 5 (by decide) (hg _ gw_86) (fun _ h9 => h9) rfl d_S_gatherFrom_106 ?_
          refine lv_iload_n hx hb d_S_gatherFrom_109 rfl (lv_at hl 2 rfl) ?_
          refine lv_iadd hx hb d_S_gatherFrom_110 ?_
          refine va_put (D := D) (ci := 0) (v := .int (w + (nI k2))) (ty := .int) (C := R_S) (T := F_S) (N := 7) hx hb hg gi_S t_S t_S_ok n_S hown hK hP hD hS 0 rfl rfl 5 (by decide) (hg _ gw_86) (fun _ h9 => h9) rfl (by decide +kernel) rfl rfl (Nat.le_of_ble_eq_true rfl) d_S_gatherFrom_111 (fun H locs hP hD hS => ?_)
          replace hP : va_P D classes ((h, .inr (0, [.int (nI cn), va_rf fi, va_rf ha, .long (lN (f + 1)), .int v, .int (w + (nI k2)), .int z])) :: ((chG pre (some x.1)) ++ ((x.1, .inr (1, [.int (nI x.2.1), .int (nI (x.2.2.1 + szS (gaM suf))), .int (bI false), .int (bI false), .long (lN (f + 1)), va_rf (hdO (gaR suf) none)])) :: chG suf none))) _ := hP
          replace hD : va_D A ((h, .inr (0, [.int (nI cn), va_rf fi, va_rf ha, .long (lN (f + 1)), .int v, .int (w + (nI k2)), .int z])) :: ((chG pre (some x.1)) ++ ((x.1, .inr (1, [.int (nI x.2.1), .int (nI (x.2.2.1 + szS (gaM suf))), .int (bI false), .int (bI false), .long (lN (f + 1)), va_rf (hdO (gaR suf) none)])) :: chG suf none))) := hD
          replace hP := sw_P_sub hP (List.Sublist.cons_cons _ (List.Sublist.append_left (List.Sublist.cons_cons _ (gaR_sub suf)) _))
          replace hD := sw_D_sub2 hD (List.Sublist.cons_cons _ (List.Sublist.append_left (List.Sublist.cons_cons _ (gaR_sub suf)) _))
          refine W.widen (k := 0) (n := 0) (Nat.le_of_ble_eq_true rfl) (Nat.le_of_ble_eq_true rfl) ?_
          exact W.vret hx hb hr (fun t ht hW => ⟨⟨_, rfl, (by rw [e1, e2, e3, ← hk9, chG_mid]; rfl), at2.of hP hK hD ht hW⟩, hS.F ht⟩) hS.2.2 d_S_gatherFrom_114
        · exact absurd c_75 (by rw [hu]; decide)
      · have hky : ¬ isKp y = true := by rw [show isKp y = false from bI_0.mp (by rw [← hrk]; exact c_34)]; decide
        refine lv_iload_n hx hb d_S_gatherFrom_37 rfl (lv_at hl 2 rfl) ?_
        refine lv_aload hx hb d_S_gatherFrom_38 (lv_at hl 0 rfl) ?_
        refine va_getN (D := D) (ci := 1) (v := .int (bI y.2.2.2.1)) (C := R_P) (T := F_P) (N := 6) hx hb hg gi_P hown hK hP ((pre ++ x :: mid).length + 1) he rfl 2 (by decide) (va_Nw.use rfl (hN.1 (37, "used", "Z") (by decide))) (fun _ h9 => h9) rfl d_S_gatherFrom_40 ?_
        refine lv_if_eq (tgt := 50) hx hb d_S_gatherFrom_43 (by decide) (fun c_43 => ?_) (fun c_43 => ?_)
        · refine lv_iconst (v := 0) hx hb d_S_gatherFrom_50 (by decide) ?_
          have huy : y.2.2.2.1 = false := bI_0.mp c_43
          refine lv_iadd hx hb d_S_gatherFrom_51 ?_
          refine lv_topi (fun y5 ey5 => ?_)
          obtain rfl : y5 = nI (k2 + 0) := ey5.trans (nI_add k2 0)
          clear ey5
          refine lv_istore_n (lv' := [(2, .int (nI (k2 + 0))), (4, .ref y.1), (3, .int (nI g)), (0, .ref h), (1, .ref x.1)]) hx hb d_S_gatherFrom_52 rfl hl (by decide) rfl (fun ls hl => ?_)
          refine lv_iload_n hx hb d_S_gatherFrom_53 rfl (lv_at hl 2 rfl) ?_
          refine lv_aload hx hb d_S_gatherFrom_54 (lv_at hl 1 rfl) ?_
          refine va_getN (D := D) (ci := 1) (v := .int (nI y.2.2.1)) (C := R_P) (T := F_P) (N := 6) hx hb hg gi_P hown hK hP ((pre ++ x :: mid).length + 1) he rfl 1 (by decide) (va_Nw.use rfl (hN.1 (60, "size", "I") (by decide))) (fun _ h9 => h9) rfl d_S_gatherFrom_56 ?_
          refine lv_iadd hx hb d_S_gatherFrom_59 ?_
          refine lv_topi (fun y6 ey6 => ?_)
          obtain rfl : y6 = nI (g + y.2.2.1) := ey6.trans (nI_add _ _)
          clear ey6
          refine lv_istore_n (lv' := [(3, .int (nI (g + y.2.2.1))), (2, .int (nI (k2 + 0))), (4, .ref y.1), (0, .ref h), (1, .ref x.1)]) hx hb d_S_gatherFrom_60 rfl hl (by decide) rfl (fun ls hl => ?_)
          refine lv_aload hx hb d_S_gatherFrom_61 (lv_at hl 2 rfl) ?_
          refine va_getN (D := D) (ci := 1) (v := va_rf (hdO rs none)) (C := R_P) (T := F_P) (N := 6) hx hb hg gi_P hown hK hP ((pre ++ x :: mid).length + 1) he rfl 5 (by decide) (va_Nw.use rfl (hN.1 (69, "next", "LSweepHand$Piece;") (by decide))) (fun _ h9 => h9) rfl d_S_gatherFrom_63 ?_
          refine sv_astore (lv' := [(4, va_rf (hdO rs none)), (3, .int (nI (g + y.2.2.1))), (2, .int (nI (k2 + 0))), (0, .ref h), (1, .ref x.1)]) hx hb d_S_gatherFrom_66 hl (by decide) rfl (fun ls hl => ?_)
          refine lv_goto (tgt := 24) hx hb d_S_gatherFrom_68 (by decide) ?_
          exact ih ls (g + y.2.2.1) (k2 + 0) (lv_sub hl [0, 1, 2, 3, 4] rfl) ⟨mid ++ [y], by rw [hmid, List.append_assoc]; rfl⟩ (by rw [hr1, gaR, if_neg hky]) (by rw [hr2, gaM, if_neg hky, szS]; omega) (by rw [hr3, gaM, if_neg hky, usS, huy]; simp)
        · refine lv_iconst (v := 1) hx hb d_S_gatherFrom_46 (by decide) ?_
          refine lv_goto (tgt := 51) hx hb d_S_gatherFrom_47 (by decide) ?_
          have huy : y.2.2.2.1 = true := bI_n0.mp c_43
          refine lv_iadd hx hb d_S_gatherFrom_51 ?_
          refine lv_topi (fun y7 ey7 => ?_)
          obtain rfl : y7 = nI (k2 + 1) := ey7.trans (nI_add k2 1)
          clear ey7
          refine lv_istore_n (lv' := [(2, .int (nI (k2 + 1))), (4, .ref y.1), (3, .int (nI g)), (0, .ref h), (1, .ref x.1)]) hx hb d_S_gatherFrom_52 rfl hl (by decide) rfl (fun ls hl => ?_)
          refine lv_iload_n hx hb d_S_gatherFrom_53 rfl (lv_at hl 2 rfl) ?_
          refine lv_aload hx hb d_S_gatherFrom_54 (lv_at hl 1 rfl) ?_
          refine va_getN (D := D) (ci := 1) (v := .int (nI y.2.2.1)) (C := R_P) (T := F_P) (N := 6) hx hb hg gi_P hown hK hP ((pre ++ x :: mid).length + 1) he rfl 1 (by decide) (va_Nw.use rfl (hN.1 (60, "size", "I") (by decide))) (fun _ h9 => h9) rfl d_S_gatherFrom_56 ?_
          refine lv_iadd hx hb d_S_gatherFrom_59 ?_
          refine lv_topi (fun y8 ey8 => ?_)
          obtain rfl : y8 = nI (g + y.2.2.1) := ey8.trans (nI_add _ _)
          clear ey8
          refine lv_istore_n (lv' := [(3, .int (nI (g + y.2.2.1))), (2, .int (nI (k2 + 1))), (4, .ref y.1), (0, .ref h), (1, .ref x.1)]) hx hb d_S_gatherFrom_60 rfl hl (by decide) rfl (fun ls hl => ?_)
          refine lv_aload hx hb d_S_gatherFrom_61 (lv_at hl 2 rfl) ?_
          refine va_getN (D := D) (ci := 1) (v := va_rf (hdO rs none)) (C := R_P) (T := F_P) (N := 6) hx hb hg gi_P hown hK hP ((pre ++ x :: mid).length + 1) he rfl 5 (by decide) (va_Nw.use rfl (hN.1 (69, "next", "LSweepHand$Piece;") (by decide))) (fun _ h9 => h9) rfl d_S_gatherFrom_63 ?_
          refine sv_astore (lv' := [(4, va_rf (hdO rs none)), (3, .int (nI (g + y.2.2.1))), (2, .int (nI (k2 + 1))), (0, .ref h), (1, .ref x.1)]) hx hb d_S_gatherFrom_66 hl (by decide) rfl (fun ls hl => ?_)
          refine lv_goto (tgt := 24) hx hb d_S_gatherFrom_68 (by decide) ?_
          exact ih ls (g + y.2.2.1) (k2 + 1) (lv_sub hl [0, 1, 2, 3, 4] rfl) ⟨mid ++ [y], by rw [hmid, List.append_assoc]; rfl⟩ (by rw [hr1, gaR, if_neg hky]) (by rw [hr2, gaM, if_neg hky, szS]; omega) (by rw [hr3, gaM, if_neg hky, usS, huy]; simp; omega)
set_option maxHeartbeats 4000000 in
set_option maxRecDepth 100000 in
theorem c_S_stepFrom (l : Launch) (D : va_G) (ty : tyL) (N0 sz : Nat) (h cn f : Nat) (v w z : Int32) (pre suf : List AP) (x : AP) : Met l y_S_stepFrom (Cond.code y_S_stepFrom b_S_stepFrom 2 none :: GW) ({ frames := 2, cells := 0, slots := 0, locals := 45 }) (va_Pc [.ref h, .ref x.1] (at1 D ty N0 sz (scell h cn (hdO (pre ++ x :: suf) none) (some x.1) f v w z :: chG (pre ++ x :: suf) none))) (va_Qv (fun ws' => ws' = scell h cn (hdO (pre ++ stX f x suf :: stS x suf) none) (hdO (stS x suf) none) (stF f x suf) v (w + nI (stW x suf)) (if stS x suf = [] then z + 1 else z) :: chG (pre ++ stX f x suf :: stS x suf) none) (at2 D ty (va_A (scell h cn (hdO (pre ++ x :: suf) none) (some x.1) f v w z :: chG (pre ++ x :: suf) none) sz)) (va_A (scell h cn (hdO (pre ++ x :: suf) none) (some x.1) f v w z :: chG (pre ++ x :: suf) none) sz)) 0 0 (va_A (scell h cn (hdO (pre ++ x :: suf) none) (some x.1) f v w z :: chG (pre ++ x :: suf) none) sz) := by
  refine Met.ofW (cc := b_S_stepFrom) (maxL := 2) (ret := none) (by decide) rfl ?_
  intro p e s m args below meth c s₁ B hml hv
  obtain ⟨rfl, hsz, hN0, ⟨hP, hK, hN⟩, hD0, hE⟩ := hv
  subst hsz
  have hD := hD0.self (sz := s.heap.size)
  have hAN := sw_AN hD0 hN0
  generalize hAe : va_A (scell h cn (hdO (pre ++ x :: suf) none) (some x.1) f v w z :: chG (pre ++ x :: suf) none) s.heap.size = A at hD hAN ⊢
  have hA : ∀ q : Nat, s.heap.size ≤ q → A q := fun q h => by rw [← hAe]; exact Or.inr h
  have hS : va_S A s.heap s.heap [] := va_S.rf
  have hP : va_P D classes (scell h cn (hdO (pre ++ x :: suf) none) (some x.1) f v w z :: chG (pre ++ x :: suf) none) s.heap := hP
  have hx := B.exec
  have hb := B.bytes
  have hr := B.returns
  have hg : ∀ w ∈ GW, w.before _ s = true := fun w h => atoms_spec (ws := Cond.code y_S_stepFrom b_S_stepFrom 2 none :: GW) B.pre w (List.mem_cons_of_mem _ h)
  have hown : s.vm.findClass R_S = some m.cls := findClass_of_methodNamed B.named
  have hlocks := B.notSynchronized
  have hl := lv_entry ([.ref h, .ref x.1]) (n := 2) (Nat.le_of_ble_eq_true rfl)
  rw [lg_entry_eq]
  generalize (lg_sl ([.ref h, .ref x.1]) ++ List.replicate (2 - (lg_sl ([.ref h, .ref x.1])).length) Slot.unset).toArray = ls at hl ⊢
  replace hl : lv_has ls 2 [(0, .ref h), (1, .ref x.1)] := hl
  have hx9 := chG_at (scell h cn (hdO (pre ++ x :: suf) none) (some x.1) f v w z) pre x suf none
  refine lv_aload_n hx hb d_S_stepFrom_0 rfl (lv_at hl 1 rfl) ?_
  refine vp_callSi (va_runVN (As := []) (rest := []) ⟨hx, hb, hml, hown, hg⟩ (c_P_isKeptBySweep l D ty _ (pre.length + 1) x (hdO suf none) hx9) ⟨va_cnB 0 hg (gw_c gw_318) rfl rfl rfl (hN.2.1 (135, y_P_isKeptBySweep) (by decide +kernel)) (hg _ gw_27) (by decide +kernel) ⟨Nat.le_of_ble_eq_true rfl, Nat.le_of_ble_eq_true rfl⟩, hg _ gw_317, hg _ gw_12⟩ (pre_roV hP hK hN (ci := 1) rfl hx9) rfl rfl hl.1 rfl (lv_room (Nat.le_of_ble_eq_true rfl)) d_S_stepFrom_1 ⟨Nat.le_of_ble_eq_true rfl, Nat.le_of_ble_eq_true rfl⟩).run (fun rk hrk => ?_)
  refine lv_if_eq (tgt := 15) hx hb d_S_stepFrom_4 (by decide) (fun c_4 => ?_) (fun c_4 => ?_)
  · have hkx : isKp x = false := bI_0.mp (by rw [← hrk]; exact c_4)
    refine lv_aload_n hx hb d_S_stepFrom_15 rfl (lv_at hl 0 rfl) ?_
    refine lv_aload_n hx hb d_S_stepFrom_16 rfl (lv_at hl 1 rfl) ?_
    have hFc := sw_free hD hS hA
    refine va_callv (va_runV (As := [.ref x.1]) (rest := []) ⟨hx, hb, hml, hown, hg⟩ (c_S_gatherFrom l D ty N0 _ h cn (hdO (pre ++ x :: suf) none) (some x.1) f v w z pre suf x) (cwV 1 hg (gw_V gw_319 gw_321 gw_13 gw_26 gw_322) rfl rfl rfl (by decide +kernel) ⟨Nat.le_of_ble_eq_true rfl, Nat.le_of_ble_eq_true rfl⟩) (pre_wrV hP hK hN hD hS hAN hN0 hE (ci := 0) (k := 0) rfl rfl) rfl rfl hl.1 rfl (lv_room (Nat.le_of_ble_eq_true rfl)) d_S_stepFrom_17 ⟨Nat.le_of_ble_eq_true rfl, Nat.le_of_ble_eq_true rfl⟩) hS (fun q _ h => hFc q h) hFc (fun u t H locs ht hvm hw hB hz1 hk1 hS => ?_)
    obtain ⟨hP, hK1, hD1⟩ := hB
    rw [ht] at hP
    have hD := hD1.weaken (fun _ _ _ h => hFc _ h)
    clear hK1 hD1 hFc hk1 hz1
    subst hw
    have hgx : (x.1, (gaX f x suf).2) = gaX f x suf := by rw [← gaX_a f x suf]
    obtain ⟨xd, hxd⟩ : ∃ q, q = (gaX f x suf).2 := ⟨_, rfl⟩
    rw [← hxd] at hgx
    rw [← hgx, chG_mid] at hP hD
    replace hP : va_P D classes ((h, .inr (0, [.int (nI cn), va_rf (hdO (pre ++ x :: suf) none), va_rf (some x.1), .long (lN (gaF f x suf)), .int v, .int (w + nI (gaW x suf)), .int z])) :: ((chG pre (some x.1)) ++ ((x.1, .inr (1, [.int (nI xd.1), .int (nI xd.2.1), .int (bI xd.2.2.1), .int (bI xd.2.2.2.1), .long (lN xd.2.2.2.2), va_rf (hdO (gaR suf) none)])) :: chG (gaR suf) none))) _ := hP
    replace hD : va_D A ((h, .inr (0, [.int (nI cn), va_rf (hdO (pre ++ x :: suf) none), va_rf (some x.1), .long (lN (gaF f x suf)), .int v, .int (w + nI (gaW x suf)), .int z])) :: ((chG pre (some x.1)) ++ ((x.1, .inr (1, [.int (nI xd.1), .int (nI xd.2.1), .int (bI xd.2.2.1), .int (bI xd.2.2.2.1), .long (lN xd.2.2.2.2), va_rf (hdO (gaR suf) none)])) :: chG (gaR suf) none))) := hD
    refine lv_aload_n hx hb d_S_stepFrom_20 rfl (lv_at hl 0 rfl) ?_
    refine lv_aload_n hx hb d_S_stepFrom_21 rfl (lv_at hl 1 rfl) ?_
    refine va_getN (D := D) (ci := 1) (v := va_rf (hdO (gaR suf) none)) (C := R_P) (T := F_P) (N := 6) hx hb hg gi_P hown hK hP ((chG pre (some x.1)).length + 1) (sw_get1 _ _ _ _) rfl 5 (by decide) (va_Nw.use rfl (hN.1 (69, "next", "LSweepHand$Piece;") (by decide))) (fun _ h9 => h9) rfl d_S_stepFrom_22 ?_
    refine va_put (D := D) (ci := 0) (v := va_rf (hdO (gaR suf) none)) (ty := .object "SweepHand$Piece") (C := R_S) (T := F_S) (N := 7) hx hb hg gi_S t_S t_S_ok n_S hown hK hP hD hS 0 rfl rfl 2 (by decide) (hg _ gw_83) (fun _ h9 => h9) rfl (by decide +kernel) (sv_nar _ _) (sv_fit _ _) (Nat.le_of_ble_eq_true rfl) d_S_stepFrom_25 (fun H locs hP hD hS => ?_)
    replace hP : va_P D classes ((h, .inr (0, [.int (nI cn), va_rf (hdO (pre ++ x :: suf) none), va_rf (hdO (gaR suf) none), .long (lN (gaF f x suf)), .int v, .int (w + nI (gaW x suf)), .int z])) :: ((chG pre (some x.1)) ++ ((x.1, .inr (1, [.int (nI xd.1), .int (nI xd.2.1), .int (bI xd.2.2.1), .int (bI xd.2.2.2.1), .long (lN xd.2.2.2.2), va_rf (hdO (gaR suf) none)])) :: chG (gaR suf) none))) _ := hP
    replace hD : va_D A ((h, .inr (0, [.int (nI cn), va_rf (hdO (pre ++ x :: suf) none), va_rf (hdO (gaR suf) none), .long (lN (gaF f x suf)), .int v, .int (w + nI (gaW x suf)), .int z])) :: ((chG pre (some x.1)) ++ ((x.1, .inr (1, [.int (nI xd.1), .int (nI xd.2.1), .int (bI xd.2.2.1), .int (bI xd.2.2.2.1), .long (lN xd.2.2.2.2), va_rf (hdO (gaR suf) none)])) :: chG (gaR suf) none))) := hD
    refine lv_aload_n hx hb d_S_stepFrom_28 rfl (lv_at hl 0 rfl) ?_
    refine va_get (D := D) (ci := 0) (v := va_rf (hdO (gaR suf) none)) (C := R_S) (T := F_S) (N := 7) hx hb hg gi_S hown hK hP 0 rfl rfl 2 (by decide) (hg _ gw_83) (fun _ h9 => h9) rfl d_S_stepFrom_29 ?_
    refine sv_ifnonnull (tgt := 45) hx hb d_S_stepFrom_32 (by decide) (fun y0 c_32 => ?_) (fun c_32 => ?_)
    · have hne : ¬ gaR suf = [] := fun h9 => by rw [h9] at c_32; cases c_32
      refine W.widen (k := 0) (n := 0) (Nat.le_of_ble_eq_true rfl) (Nat.le_of_ble_eq_true rfl) ?_
      exact W.vret hx hb hr (fun t ht hW => ⟨⟨_, rfl, (by unfold stX stS stF stW; rw [hkx]; show _ = scell h cn (hdO (pre ++ gaX f x suf :: gaR suf) none) (hdO (gaR suf) none) (gaF f x suf) v (w + nI (gaW x suf)) (if gaR suf = [] then z + 1 else z) :: chG (pre ++ gaX f x suf :: gaR suf) none; rw [if_neg hne, ← hgx, chG_mid, hdO_mid pre x (x.1, xd) suf (gaR suf) none none rfl]; rfl), at2.of hP hK hD ht hW⟩, hS.F ht⟩) hS.2.2 d_S_stepFrom_45
    · have hne : gaR suf = [] := hdO_none.mp c_32
      refine lv_aload_n hx hb d_S_stepFrom_35 rfl (lv_at hl 0 rfl) ?_
      refine lv_dup hx hb d_S_stepFrom_36 rfl ?_
      refine va_get (D := D) (ci := 0) (v := .int z) (C := R_S) (T := F_S) (N := 7) hx hb hg gi_S hown hK hP 0 rfl rfl 6 (by decide) (hg _ gw_87) (fun _ h9 => h9) rfl d_S_stepFrom_37 ?_
      refine lv_iconst (v := 1) hx hb d_S_stepFrom_40 (by decide) ?_
      refine lv_iadd hx hb d_S_stepFrom_41 ?_
      refine va_put (D := D) (ci := 0) (v := .int (z + 1)) (ty := .int) (C := R_S) (T := F_S) (N := 7) hx hb hg gi_S t_S t_S_ok n_S hown hK hP hD hS 0 rfl rfl 6 (by decide) (hg _ gw_87) (fun _ h9 => h9) rfl (by decide +kernel) rfl rfl (Nat.le_of_ble_eq_true rfl) d_S_stepFrom_42 (fun H locs hP hD hS => ?_)
      replace hP : va_P D classes ((h, .inr (0, [.int (nI cn), va_rf (hdO (pre ++ x :: suf) none), va_rf (hdO (gaR suf) none), .long (lN (gaF f x suf)), .int v, .int (w + nI (gaW x suf)), .int (z + 1)])) :: ((chG pre (some x.1)) ++ ((x.1, .inr (1, [.int (nI xd.1), .int (nI xd.2.1), .int (bI xd.2.2.1), .int (bI xd.2.2.2.1), .long (lN xd.2.2.2.2), va_rf (hdO (gaR suf) none)])) :: chG (gaR suf) none))) _ := hP
      replace hD : va_D A ((h, .inr (0, [.int (nI cn), va_rf (hdO (pre ++ x :: suf) none), va_rf (hdO (gaR suf) none), .long (lN (gaF f x suf)), .int v, .int (w + nI (gaW x suf)), .int (z + 1)])) :: ((chG pre (some x.1)) ++ ((x.1, .inr (1, [.int (nI xd.1), .int (nI xd.2.1), .int (bI xd.2.2.1), .int (bI xd.2.2.2.1), .long (lN xd.2.2.2.2), va_rf (hdO (gaR suf) none)])) :: chG (gaR suf) none))) := hD
      refine W.widen (k := 0) (n := 0) (Nat.le_of_ble_eq_true rfl) (Nat.le_of_ble_eq_true rfl) ?_
      exact W.vret hx hb hr (fun t ht hW => ⟨⟨_, rfl, (by unfold stX stS stF stW; rw [hkx]; show _ = scell h cn (hdO (pre ++ gaX f x suf :: gaR suf) none) (hdO (gaR suf) none) (gaF f x suf) v (w + nI (gaW x suf)) (if gaR suf = [] then z + 1 else z) :: chG (pre ++ gaX f x suf :: gaR suf) none; rw [if_pos hne, ← hgx, chG_mid, hdO_mid pre x (x.1, xd) suf (gaR suf) none none rfl]; rfl), at2.of hP hK hD ht hW⟩, hS.F ht⟩) hS.2.2 d_S_stepFrom_45
  · have hkx : isKp x = true := bI_n0.mp (by rw [← hrk]; exact c_4)
    rw [chG_mid] at hP hD
    replace hP : va_P D classes ((h, .inr (0, [.int (nI cn), va_rf (hdO (pre ++ x :: suf) none), va_rf (some x.1), .long (lN f), .int v, .int w, .int z])) :: ((chG pre (some x.1)) ++ ((x.1, .inr (1, [.int (nI x.2.1), .int (nI x.2.2.1), .int (bI x.2.2.2.1), .int (bI x.2.2.2.2.1), .long (lN x.2.2.2.2.2), va_rf (hdO suf none)])) :: chG suf none))) _ := hP
    replace hD : va_D A ((h, .inr (0, [.int (nI cn), va_rf (hdO (pre ++ x :: suf) none), va_rf (some x.1), .long (lN f), .int v, .int w, .int z])) :: ((chG pre (some x.1)) ++ ((x.1, .inr (1, [.int (nI x.2.1), .int (nI x.2.2.1), .int (bI x.2.2.2.1), .int (bI x.2.2.2.2.1), .long (lN x.2.2.2.2.2), va_rf (hdO suf none)])) :: chG suf none))) := hD
    refine lv_aload_n hx hb d_S_stepFrom_7 rfl (lv_at hl 1 rfl) ?_
    refine lv_iconst (v := 0) hx hb d_S_stepFrom_8 (by decide) ?_
    refine va_putN (D := D) (ci := 1) (v := .int 0) (ty := .boolean) (C := R_P) (T := F_P) (N := 6) hx hb hg gi_P t_P t_P_ok n_P hown hK hP hD hS ((chG pre (some x.1)).length + 1) (sw_get1 _ _ _ _) rfl 3 (by decide) (va_Nw.use rfl (hN.1 (50, "marked", "Z") (by decide))) (fun _ h9 => h9) rfl (by decide +kernel) rfl rfl (Nat.le_of_ble_eq_true rfl) d_S_stepFrom_9 (fun H locs hP hD hS => ?_)
    rw [sw_set1] at hP hD
    replace hP : va_P D classes ((h, .inr (0, [.int (nI cn), va_rf (hdO (pre ++ x :: suf) none), va_rf (some x.1), .long (lN f), .int v, .int w, .int z])) :: ((chG pre (some x.1)) ++ ((x.1, .inr (1, [.int (nI x.2.1), .int (nI x.2.2.1), .int (bI x.2.2.2.1), .int 0, .long (lN x.2.2.2.2.2), va_rf (hdO suf none)])) :: chG suf none))) _ := hP
    replace hD : va_D A ((h, .inr (0, [.int (nI cn), va_rf (hdO (pre ++ x :: suf) none), va_rf (some x.1), .long (lN f), .int v, .int w, .int z])) :: ((chG pre (some x.1)) ++ ((x.1, .inr (1, [.int (nI x.2.1), .int (nI x.2.2.1), .int (bI x.2.2.2.1), .int 0, .long (lN x.2.2.2.2.2), va_rf (hdO suf none)])) :: chG suf none))) := hD
    refine lv_goto (tgt := 20) hx hb d_S_stepFrom_12 (by decide) ?_
    refine lv_aload_n hx hb d_S_stepFrom_20 rfl (lv_at hl 0 rfl) ?_
    refine lv_aload_n hx hb d_S_stepFrom_21 rfl (lv_at hl 1 rfl) ?_
    refine va_getN (D := D) (ci := 1) (v := va_rf (hdO suf none)) (C := R_P) (T := F_P) (N := 6) hx hb hg gi_P hown hK hP ((chG pre (some x.1)).length + 1) (sw_get1 _ _ _ _) rfl 5 (by decide) (va_Nw.use rfl (hN.1 (69, "next", "LSweepHand$Piece;") (by decide))) (fun _ h9 => h9) rfl d_S_stepFrom_22 ?_
    refine va_put (D := D) (ci := 0) (v := va_rf (hdO suf none)) (ty := .object "SweepHand$Piece") (C := R_S) (T := F_S) (N := 7) hx hb hg gi_S t_S t_S_ok n_S hown hK hP hD hS 0 rfl rfl 2 (by decide) (hg _ gw_83) (fun _ h9 => h9) rfl (by decide +kernel) (sv_nar _ _) (sv_fit _ _) (Nat.le_of_ble_eq_true rfl) d_S_stepFrom_25 (fun H locs hP hD hS => ?_)
    replace hP : va_P D classes ((h, .inr (0, [.int (nI cn), va_rf (hdO (pre ++ x :: suf) none), va_rf (hdO suf none), .long (lN f), .int v, .int w, .int z])) :: ((chG pre (some x.1)) ++ ((x.1, .inr (1, [.int (nI x.2.1), .int (nI x.2.2.1), .int (bI x.2.2.2.1), .int 0, .long (lN x.2.2.2.2.2), va_rf (hdO suf none)])) :: chG suf none))) _ := hP
    replace hD : va_D A ((h, .inr (0, [.int (nI cn), va_rf (hdO (pre ++ x :: suf) none), va_rf (hdO suf none), .long (lN f), .int v, .int w, .int z])) :: ((chG pre (some x.1)) ++ ((x.1, .inr (1, [.int (nI x.2.1), .int (nI x.2.2.1), .int (bI x.2.2.2.1), .int 0, .long (lN x.2.2.2.2.2), va_rf (hdO suf none)])) :: chG suf none))) := hD
    refine lv_aload_n hx hb d_S_stepFrom_28 rfl (lv_at hl 0 rfl) ?_
    refine va_get (D := D) (ci := 0) (v := va_rf (hdO suf none)) (C := R_S) (T := F_S) (N := 7) hx hb hg gi_S hown hK hP 0 rfl rfl 2 (by decide) (hg _ gw_83) (fun _ h9 => h9) rfl d_S_stepFrom_29 ?_
    refine sv_ifnonnull (tgt := 45) hx hb d_S_stepFrom_32 (by decide) (fun y0 c_32 => ?_) (fun c_32 => ?_)
    · have hne : ¬ suf = [] := fun h9 => by rw [h9] at c_32; cases c_32
      refine W.widen (k := 0) (n := 0) (Nat.le_of_ble_eq_true rfl) (Nat.le_of_ble_eq_true rfl) ?_
      exact W.vret hx hb hr (fun t ht hW => ⟨⟨_, rfl, (by unfold stX stS stF stW; rw [hkx]; show _ = scell h cn (hdO (pre ++ (x.1, x.2.1, x.2.2.1, x.2.2.2.1, false, x.2.2.2.2.2) :: suf) none) (hdO suf none) f v (w + nI 0) (if suf = [] then z + 1 else z) :: chG (pre ++ (x.1, x.2.1, x.2.2.1, x.2.2.2.1, false, x.2.2.2.2.2) :: suf) none; rw [if_neg hne, chG_mid, hdO_mid pre x (x.1, x.2.1, x.2.2.1, x.2.2.2.1, false, x.2.2.2.2.2) suf suf none none rfl, nI_0, Int32.add_zero]; rfl), at2.of hP hK hD ht hW⟩, hS.F ht⟩) hS.2.2 d_S_stepFrom_45
    · have hne : suf = [] := hdO_none.mp c_32
      refine lv_aload_n hx hb d_S_stepFrom_35 rfl (lv_at hl 0 rfl) ?_
      refine lv_dup hx hb d_S_stepFrom_36 rfl ?_
      refine va_get (D := D) (ci := 0) (v := .int z) (C := R_S) (T := F_S) (N := 7) hx hb hg gi_S hown hK hP 0 rfl rfl 6 (by decide) (hg _ gw_87) (fun _ h9 => h9) rfl d_S_stepFrom_37 ?_
      refine lv_iconst (v := 1) hx hb d_S_stepFrom_40 (by decide) ?_
      refine lv_iadd hx hb d_S_stepFrom_41 ?_
      refine va_put (D := D) (ci := 0) (v := .int (z + 1)) (ty := .int) (C := R_S) (T := F_S) (N := 7) hx hb hg gi_S t_S t_S_ok n_S hown hK hP hD hS 0 rfl rfl 6 (by decide) (hg _ gw_87) (fun _ h9 => h9) rfl (by decide +kernel) rfl rfl (Nat.le_of_ble_eq_true rfl) d_S_stepFrom_42 (fun H locs hP hD hS => ?_)
      replace hP : va_P D classes ((h, .inr (0, [.int (nI cn), va_rf (hdO (pre ++ x :: suf) none), va_rf (hdO suf none), .long (lN f), .int v, .int w, .int (z + 1)])) :: ((chG pre (some x.1)) ++ ((x.1, .inr (1, [.int (nI x.2.1), .int (nI x.2.2.1), .int (bI x.2.2.2.1), .int 0, .long (lN x.2.2.2.2.2), va_rf (hdO suf none)])) :: chG suf none))) _ := hP
      replace hD : va_D A ((h, .inr (0, [.int (nI cn), va_rf (hdO (pre ++ x :: suf) none), va_rf (hdO suf none), .long (lN f), .int v, .int w, .int (z + 1)])) :: ((chG pre (some x.1)) ++ ((x.1, .inr (1, [.int (nI x.2.1), .int (nI x.2.2.1), .int (bI x.2.2.2.1), .int 0, .long (lN x.2.2.2.2.2), va_rf (hdO suf none)])) :: chG suf none))) := hD
      refine W.widen (k := 0) (n := 0) (Nat.le_of_ble_eq_true rfl) (Nat.le_of_ble_eq_true rfl) ?_
      exact W.vret hx hb hr (fun t ht hW => ⟨⟨_, rfl, (by unfold stX stS stF stW; rw [hkx]; show _ = scell h cn (hdO (pre ++ (x.1, x.2.1, x.2.2.1, x.2.2.2.1, false, x.2.2.2.2.2) :: suf) none) (hdO suf none) f v (w + nI 0) (if suf = [] then z + 1 else z) :: chG (pre ++ (x.1, x.2.1, x.2.2.1, x.2.2.2.1, false, x.2.2.2.2.2) :: suf) none; rw [if_pos hne, chG_mid, hdO_mid pre x (x.1, x.2.1, x.2.2.1, x.2.2.2.1, false, x.2.2.2.2.2) suf suf none none rfl, nI_0, Int32.add_zero]; rfl), at2.of hP hK hD ht hW⟩, hS.F ht⟩) hS.2.2 d_S_stepFrom_45
end
section
/-! calls that hand back a piece or throw; the words of the three throws -/
section VXQ
variable {p : Program} {l : Launch} {e : Env} {R : Room} {s : State} {m : MethodId} {args : Array Value} {below : List Frame} {meth : Method} {c : Code} {H : Heap} {locs : List Loc} {cells slots : Nat} {Q : State → Prop}
variable {mc ms : Nat} {free : Addr → Prop} {A0 A1 : Nat → Prop} {H0 : Heap} {a : Array Value} {pc : Nat} {ls : Array Slot} {st0 rest : List Value}
theorem vx_callq {S SX : Type} {post : Option Nat → S → Prop} {px : SX → Prop} {B : S → State → Prop} {BX : String → SX → State → Prop} {AX : Nat → Prop} (hr : vx_Run p l e R s m args below meth c H locs cells slots mc ms (F0 m pc ls st0) rest (va_Qq post B A1 a) (vx_X px BX AX) free) (hS : va_S A0 H0 H locs) (hA : ∀ q, q < H.size → A1 q → A0 q) (hf : ∀ q, free q → A0 q) (hAX : ∀ q, q < H.size → AX q → A0 q)
    (kx : ∀ (E : String) (ce : Cell) (q9 : Addr) (u : SX) (t : State) (H1 : Heap) (locs1 : List Loc), t.heap = H1 → s.vm.Alike t.vm → px u → BX E u t → H.size ≤ H1.size → (∀ q : Nat, q < H.size → ¬ AX q → H1[q]? = H[q]?) → va_S A0 H0 H1 locs1 → H1[q9]? = some ce → ce.vm = .none → s.vm.findClass E = some ce.cls → vx_W p l e R s m args below meth c H1 locs1 (cells + mc) (slots + ms) Q (F0 m pc ls rest) q9)
    (kk : ∀ (r : Option Nat) (u : S) (t : State) (H1 : Heap) (locs1 : List Loc), t.heap = H1 → s.vm.Alike t.vm → post r u → B u t → H.size ≤ H1.size → (∀ q : Nat, q < H.size → ¬ A1 q → H1[q]? = H[q]?) → va_S A0 H0 H1 locs1 → W p l e R s m args below meth c H1 locs1 (cells + mc) (slots + ms) Q (F0 m (pc + 3) ls (va_rf r :: rest))) : W p l e R s m args below meth c H locs cells slots Q (F0 m pc ls st0) := by
  intro T hT X
  rcases hr T hT X with ⟨v, st₀, t, T', L, h0, X', hL, e1, e2, ⟨⟨r, u, hv, hp, hb⟩, hF⟩, st⟩ | ⟨q, st₀, t, T', L, E, ce, h0, X', hL, e1, e2, ⟨u, hp, hb, hF⟩, hce, hcv, hcl, st⟩
  · cases hv
    obtain ⟨k1, k2, k3⟩ := vx_keep h0 e1 hS hA hf hL hF
    obtain ⟨t2, a1, b1⟩ := kk r u t T'.heap (locs ++ L) e1.symm (by rw [← e2]; exact X'.warmed.alike) hp hb k1 k2 k3 T' rfl X'
    exact ⟨t2, st t2 a1, b1⟩
  · obtain ⟨k1, k2, k3⟩ := vx_keep h0 e1 hS hAX hf hL hF
    obtain ⟨t2, a1, b1⟩ := kx E ce q u t T'.heap (locs ++ L) e1.symm (by rw [← e2]; exact X'.warmed.alike) hp hb k1 k2 k3 (by rw [e1]; exact hce) hcv hcl T' rfl X'
    exact ⟨t2, st.trans a1, b1⟩
end VXQ
abbrev xNm : List String := ["java/lang/RuntimeException", "java/lang/Exception"]
abbrev xBd (E : String) : List Cond := [.castable E E, .declares ⟨"java/lang/RuntimeException", "<init>", "(Ljava/lang/String;)V"⟩, .declares ⟨"java/lang/Exception", "<init>", "(Ljava/lang/String;)V"⟩, .declares ⟨"java/lang/Throwable", "<init>", "(Ljava/lang/String;)V"⟩]
theorem xBd_ok {E : String} {A : Array Value} {U : State} (hN : NW U) (h : E ∈ nwC) : ∀ w ∈ xBd E, w.before A U = true :=
  vx_c (va_Nw.use rfl (hN.2.2.1 E h)) (vx_c (va_Nw.use rfl (hN.2.2.2.1 "java/lang/RuntimeException" (by decide))) (vx_c (va_Nw.use rfl (hN.2.2.2.1 "java/lang/Exception" (by decide))) (vx_c (va_Nw.use rfl (hN.2.2.2.1 "java/lang/Throwable" (by decide))) vx_n)))
theorem xg_17 : ∀ w ∈ (vx_atS R_S 17 "java/lang/IllegalArgumentException" xNm).filter goodWord, w ∈ GW := by decide +kernel
theorem xg_121 : ∀ w ∈ (vx_atS R_S 121 "java/lang/IllegalStateException" xNm).filter goodWord, w ∈ GW := by decide +kernel
theorem xb_17 : ∀ w ∈ (vx_atS R_S 17 "java/lang/IllegalArgumentException" xNm).filter (fun w => !goodWord w), w ∈ xBd "java/lang/IllegalArgumentException" := by decide +kernel
theorem xb_121 : ∀ w ∈ (vx_atS R_S 121 "java/lang/IllegalStateException" xNm).filter (fun w => !goodWord w), w ∈ xBd "java/lang/IllegalStateException" := by decide +kernel
theorem xo_17 : ∀ w ∈ Cond.classLink R_S 13 "java/lang/IllegalArgumentException" :: Cond.initialized "java/lang/IllegalArgumentException" :: vx_atS R_S 17 "java/lang/IllegalArgumentException" xNm, vx_ot w = true := by decide +kernel
theorem xo_121 : ∀ w ∈ Cond.classLink R_S 117 "java/lang/IllegalStateException" :: Cond.initialized "java/lang/IllegalStateException" :: vx_atS R_S 121 "java/lang/IllegalStateException" xNm, vx_ot w = true := by decide +kernel
def uAt (a : Int32) (L : List AP) : Option AP := match pAt a L with
  | none => none
  | some x => if x.2.2.2.1 then some x else none
theorem uAt_mem {a : Int32} {L : List AP} {x : AP} (h : uAt a L = some x) : x ∈ L ∧ x.2.2.2.1 = true ∧ pAt a L = some x := by
  unfold uAt at h
  cases hp : pAt a L with
  | none => rw [hp] at h; cases h
  | some y =>
    rw [hp] at h
    by_cases hu : y.2.2.2.1 = true
    · simp [hu] at h
      subst h
      exact ⟨(pAt_mem hp).1, hu, rfl⟩
    · simp [hu] at h
theorem rng {n : Int32} {lo hi : Nat} (h1 : ¬ n < nI lo) (h2 : n ≤ nI hi) (hl : lo < 2 ^ 31) (hh : hi < 2 ^ 31) : ∃ k : Nat, lo ≤ k ∧ k ≤ hi ∧ n = nI k := by
  have h3 : ¬ n.toInt < (nI lo).toInt := fun h => h1 (Int32.lt_iff_toInt_lt.mpr h)
  have h4 : n.toInt ≤ (nI hi).toInt := Int32.le_iff_toInt_le.mp h2
  rw [nI_toInt hl] at h3
  rw [nI_toInt hh] at h4
  refine ⟨n.toInt.toNat, by omega, by omega, ?_⟩
  apply Int32.toInt_inj.mp
  rw [nI_toInt (by omega)]
  omega
end
section
/-! 'throw new NoSuchElementException("text")': its constructor's own link lies at 13, not at 7 as the other two have it; so the kit's row doesn't serve, and the chain of constructors begins with a pass of its own. (Follows the road of the library's Stand.ctorThrowS and of the kit's vx_throwS.) -/
abbrev nsN : String := "java/util/NoSuchElementException"
abbrev rtN : String := "java/lang/RuntimeException"
def nxL : List Cond := Bundle.throwableAtoms ++ Bundle.throwableSAtoms ++ Bundle.passSAtoms nsN rtN 13 prog_11_method_4_code ++ Bundle.chainSAtoms rtN ["java/lang/Exception"] ++ [.methodLink R_S 126 (Bundle.initS nsN), .instantiable nsN 6, .selects nsN Bundle.tFill0 Bundle.tFill0, .selects nsN Bundle.tFill Bundle.tFill, .lays nsN Bundle.tN "cause" "Ljava/lang/Throwable;", .lays nsN Bundle.tN "stackTrace" Bundle.steD, .lays nsN Bundle.tN "suppressedExceptions" Bundle.listD, .lays nsN Bundle.tN "detailMessage" "Ljava/lang/String;", .isRef (.static Bundle.tN "UNASSIGNED_STACK" Bundle.steD), .isRef (.static Bundle.tN "SUPPRESSED_SENTINEL" Bundle.listD), .fieldLink Bundle.tN 198 Bundle.tN "backtrace" "Ljava/lang/Object;", .lays Bundle.tN Bundle.tN "backtrace" "Ljava/lang/Object;", .lays nsN Bundle.tN "backtrace" "Ljava/lang/Object;"]
theorem nx_0 : decode prog_11_method_4_code 0 = .ok (.aload_n 0, 1) := by decide +kernel
theorem nx_1 : decode prog_11_method_4_code 1 = .ok (.aload_n 1, 1) := by decide +kernel
theorem nx_2 : decode prog_11_method_4_code 2 = .ok (.invokespecial 13, 3) := by decide +kernel
theorem nx_5 : decode prog_11_method_4_code 5 = .ok (.return_, 1) := by decide +kernel
theorem nx_g : ∀ w ∈ (nxL.filter vx_no).filter goodWord, w ∈ GW := by decide +kernel
theorem nx_b : ∀ w ∈ (nxL.filter vx_no).filter (fun w => !goodWord w), w ∈ xBd nsN := by decide +kernel
theorem nx_o : ∀ w ∈ Cond.classLink R_S 122 nsN :: Cond.initialized nsN :: nxL.filter vx_no, vx_ot w = true := by decide +kernel
section NSE
variable {p : Program} {l : Launch} {e : Env} {R : Room} {s : State} {m : MethodId} {args : Array Value} {below : List Frame} {meth : Method} {c : Code} {H : Heap} {locs : List Loc} {cells slots : Nat}
set_option maxHeartbeats 4000000 in
theorem nx_ctor {T0 : State} (X : Stand p l e R s m args below meth c T0 locs cells slots) (hexec : p.tables.exec = Jvm.exec) (htr : e.platform.stackTraces = false) (hown : s.vm.findClass R_S = some m.cls)
    (h : ∀ a ∈ nxL, a.before args s = true) (hlocs : ∀ x ∈ locs, ∀ cell, s.heap[x.base]? = some cell → cell.vm.isStatics = false)
    {a : Addr} {cX : ClassId} {kX : Class} (hfoundX : s.vm.findClass nsN = some cX) (hkX : s.vm.classes[cX]? = some kX) (hcell : T0.heap[a]? = some (freshCell cX kX)) (hnew : s.heap.size ≤ a)
    {msg : Value} (hmsg : msg.isRef = true)
    {g : JFrame} (hg : g.method = m) (hsize : g.locals.size = c.maxLocals) (hlocked : g.locked = none) (hentered : g.entered = []) {rest : List Value} (hstack : g.stack = msg :: .ref a :: .ref a :: rest)
    (hd6 : decode c.code g.pc = .ok (.invokespecial 126, 3)) (hd9 : decode c.code (g.pc + 3) = .ok (.athrow, 1)) (hout : ∀ x ∈ c.exceptionTable.toList, covers x (g.pc + 3) = false)
    (hRframes : 5 < R.frames) (hRlocals : 2 * g.monitorRoom + ((Value.ref a :: rest).map fun v => v.category).sum + 81 ≤ R.locals) (hlocks : meth.locks = false) :
    ∃ U : State, Steps p.tables e below (T0.setTop g) U ∧ U.status = .running ∧ Ended U below (.threw a) ∧ s.WarmedH U.vm ∧ s.sameButNew ({ U with vm := s.vm } : State) locs cells slots ∧
      ∃ ce, U.heap[a]? = some ce ∧ ce.vm = .none ∧ s.vm.findClass nsN = some ce.cls := by
  have howns : e.platform.frameOwnsMonitors = true := by rw [X.admits.platform]
  have hfin : e.platform.finalization = false := by rw [X.admits.platform]
  have hpl : e.platform.magicAccessors = ({} : Platform).magicAccessors := by rw [X.admits.platform]
  obtain ⟨T, Z0, L, -, Y⟩ := ThrowableC.of_atoms (args := args) howns hfin hpl (fun x hx => h x (by simp [nxL, hx]))
  obtain ⟨Z, M, LZ, LM, hnZ⟩ := Init0T.ofS_atoms (args := args) hpl L Y (fun x hx => h x (by simp [nxL, hx]))
  obtain ⟨P1, L1, hP1m, hP1s⟩ := PassC.ofS_atoms (args := args) (s := s) hpl (X := nsN) (Y := rtN) (index := 13) (bytes := prog_11_method_4_code) (by decide +kernel) (by decide +kernel) nx_0 nx_1 nx_2 nx_5 (fun x hx => h x (by simp [nxL, hx]))
  obtain ⟨P2, Ps, hlen, L2, hL, hP2m, hlink1, hlink⟩ := Bundle.chainS (args := args) hpl hnZ ["java/lang/Exception"] rtN (by decide +kernel) (by decide +kernel) (fun x hx => h x (by simp [nxL, hx]))
  have hlen : Ps.length = 1 := hlen
  have hsup : P1.sup = P2.m := Option.some.inj (hP1s.symm.trans hP2m)
  have hfound : s.vm.findClass nsN = some P1.m.cls := findClass_of_methodNamed hP1m
  cases Option.some.inj (hfoundX.symm.trans hfound)
  obtain ⟨c1, kX', hc1, hk, hord, -, -, hn6⟩ := Cond.instantiable_spec (h (.instantiable nsN 6) (by decide +kernel))
  cases Option.some.inj (hc1.symm.trans hfound)
  cases Option.some.inj (hkX.symm.trans hk)
  have hsel0 : selectMethod e.platform s.vm P1.m.cls T.fill0 = .method T.fill0 := by
    obtain ⟨c2, r2, m2, q1, q2, q3, q4, -⟩ := Cond.selects_spec (h (.selects nsN Bundle.tFill0 Bundle.tFill0) (by decide +kernel))
    cases Option.some.inj (q1.symm.trans hfound)
    cases Option.some.inj (q2.symm.trans (State.methodFound?_of_named Y.fill0 (by decide)))
    cases Option.some.inj (q3.symm.trans Y.fill0)
    rw [Launch.admits_selectMethod X.admits]; exact q4
  have hselF : selectMethod e.platform s.vm P1.m.cls T.fill = .method T.fill := by
    obtain ⟨c2, r2, m2, q1, q2, q3, q4, -⟩ := Cond.selects_spec (h (.selects nsN Bundle.tFill Bundle.tFill) (by decide +kernel))
    cases Option.some.inj (q1.symm.trans hfound)
    cases Option.some.inj (q2.symm.trans (State.methodFound?_of_named Y.fill (by decide)))
    cases Option.some.inj (q3.symm.trans Y.fill)
    rw [Launch.admits_selectMethod X.admits]; exact q4
  obtain ⟨cellS0, hcS0, hiss⟩ := Y.statics
  obtain ⟨u0, hu0⟩ := Cond.staticRefV Y.unassigned L.unassignedStatic L.statics hcS0 hiss (h (.isRef (.static Bundle.tN "UNASSIGNED_STACK" Bundle.steD)) (by decide +kernel))
  obtain ⟨sen, hsen⟩ := Cond.staticRefV Y.sentinel L.sentinelStatic L.statics hcS0 hiss (h (.isRef (.static Bundle.tN "SUPPRESSED_SENTINEL" Bundle.listD)) (by decide +kernel))
  obtain ⟨ci198, i198, fB, hk198, hg198, ha198, hsB, -, hnB, htB, hffB⟩ := Cond.ownField (t := .object "java/lang/Object") Y.found L.cls (by decide +kernel) (h (.fieldLink Bundle.tN 198 Bundle.tN "backtrace" "Ljava/lang/Object;") (by decide +kernel)) (h (.lays Bundle.tN Bundle.tN "backtrace" "Ljava/lang/Object;") (by decide +kernel)) e.platform hpl
  obtain ⟨cellS, hcS', heS, -, hkeep⟩ := X.same.2.2.2.2.2 T.aS cellS0 hcS0
  have hcellS : T0.heap[T.aS]? = some cellS := hcS'
  have hout' : ∀ i, (⟨T.aS, i⟩ : Loc) ∉ locs := fun i hmem => by
    have := hlocs _ hmem cellS0 hcS0
    rw [hiss] at this; cases this
  have hknownS : cellS.vm ≠ .unknown := by
    rw [heS]; intro hu
    rw [show cellS0.vm = .unknown from hu] at hiss
    cases hiss
  have hneS : T.aS ≠ a := Nat.ne_of_lt (Nat.lt_of_lt_of_le (Array.getElem?_eq_some_iff.mp hcS0).1 hnew)
  obtain ⟨iM, hffM⟩ := Y.msg
  obtain ⟨tyC, dC, hdC, hdnC⟩ := Cond.laysAt hfound hk Y.cause (h (.lays nsN Bundle.tN "cause" "Ljava/lang/Throwable;") (by decide +kernel))
  obtain ⟨tyS, dS, hdS, hdnS⟩ := Cond.laysAt hfound hk Y.stack (h (.lays nsN Bundle.tN "stackTrace" Bundle.steD) (by decide +kernel))
  obtain ⟨tyP, dP, hdP, hdnP⟩ := Cond.laysAt hfound hk Y.supp (h (.lays nsN Bundle.tN "suppressedExceptions" Bundle.listD) (by decide +kernel))
  obtain ⟨tyM, dM, hdM, hdnM⟩ := Cond.laysAt hfound hk hffM (h (.lays nsN Bundle.tN "detailMessage" "Ljava/lang/String;") (by decide +kernel))
  obtain ⟨tyB, dB, hdB, hdnB⟩ := Cond.laysAt hfound hk hffB (h (.lays nsN Bundle.tN "backtrace" "Ljava/lang/Object;") (by decide +kernel))
  have bC := Cond.laysApart hdB hdC hdnB hdnC (by rw [hnB, Y.causeName]; decide)
  have bS := Cond.laysApart hdB hdS hdnB hdnS (by rw [hnB, Y.stackName]; decide)
  have bP := Cond.laysApart hdB hdP hdnB hdnP (by rw [hnB, Y.suppName]; decide)
  have hskip : SkipFacts T e.platform s (fun u => u) u0 ((preparedCellV T.toThrowableT (freshCell P1.m.cls kX) a u0 sen).withEntry T0.cur) :=
    ⟨{ ci198 := ci198, i198 := i198, fBack := fB }, ⟨hk198, hg198, ha198, hsB⟩, by
      have := fresh_default (c := P1.m.cls) tyB
      rw [htB] at this
      simpa [preparedCellV, Cell.setSlot, Cell.withEntry, Array.getElem?_setIfInBounds, bC, bS, bP, bC.symm, bS.symm, bP.symm, defaultValue] using this, fun _ _ => rfl⟩
  obtain ⟨tm, methC, cdC, kC, vm₁, hnC, -, -, -, -, -, -, -, hW₁, st1⟩ := Steps.initColdS (tb := p.tables) (e := e) (below := below) (s := s) (U := T0) X.here hexec X.warmed hpl hown (t := Bundle.initS nsN) rfl rfl (by decide +kernel)
    (h (.methodLink R_S 126 (Bundle.initS nsN)) (by decide +kernel)) (h (.instanceMethod (Bundle.initS nsN)) (by decide +kernel)) (bytes := prog_11_method_4_code) (maxL := 2) (h (.code (Bundle.initS nsN) prog_11_method_4_code 2 none) (by decide +kernel))
    (f := g) hg (a := a) (msg := msg) (rest := .ref a :: rest) hstack hd6
  cases Option.some.inj (hnC.symm.trans hP1m)
  have X₁ := X.noted hW₁
  obtain ⟨vm₂, X₂, st2⟩ := X₁.ctorMessageOffV hexec (g := { g with stack := .ref a :: rest }) hg hsize T L Z LZ M LM (P1 :: P2 :: Ps)
    (fun P hP => by
      rcases List.mem_cons.mp hP with rfl | hP
      · exact L1
      · rcases List.mem_cons.mp hP with rfl | hP
        · exact L2
        · exact hL P hP) ⟨hsup, hlink1, hlink⟩ (u0 := u0) (sen := sen) (self := a) hmsg (cell := freshCell P1.m.cls kX) (cellS := cellS)
    hcell (fun _ => by simp) (by simp) rfl rfl hsel0 hselF hcellS hneS hknownS (by rw [hkeep _ (hout' _)]; exact hu0) (by rw [hkeep _ (hout' _)]; exact hsen)
    (Takes.of_laid hk hord tyC (by rw [Y.causeType]; rfl)) (Takes.of_laid hk hord tyS (by rw [Y.stackType]; exact fits_refV_array _ u0)) (Takes.of_laid hk hord tyP (by rw [Y.suppType]; exact fits_refV_object _ sen))
    (Takes.of_laid hk hord tyM (by rw [Y.msgType]; exact fits_refV_object _ ⟨msg, hmsg⟩)) Y.objLocals hskip htr [] hd6
    (by simp only [List.length_cons, hlen]; omega) (by simp only [List.length_cons, hlen]; exact hRlocals)
  obtain ⟨hwalk, hrun, hended, hWU, hsame⟩ := X₂.athrowLeaves hexec (g := { g with stack := .ref a :: rest, pc := g.pc + 3 }) hg hlocked hentered hout (a := a) (rest := rest) rfl hd9 hlocks
  have hlt : a < ((T0.setVm vm₁).setVm vm₂).heap.size := (Array.getElem?_eq_some_iff.mp hcell).1
  have hU := heapAt_setCell_self (s := (T0.setVm vm₁).setVm vm₂) (plainBareV T.toThrowableT (freshCell P1.m.cls kX) a u0 sen msg) hlt
  refine ⟨_, st1 _ (fun acts => ?_), hrun, hended, hWU, hsame.weaken (fun y hy hlt' => ?_) (Nat.le_refl _) (Nat.le_refl _), _, hU, rfl, hfound⟩
  · rw [doInvoke_state]
    exact st2 _ hwalk
  · rcases List.mem_append.mp hy with h1 | h1
    · exact h1
    · exfalso
      have hb : y.base = a := by
        simp only [List.mem_cons, List.not_mem_nil, or_false] at h1
        rcases h1 with rfl | rfl | rfl | rfl | rfl <;> rfl
      rw [hb] at hlt'
      exact Nat.not_lt.mpr hnew hlt'
variable {free : Addr → Prop} {ls : Array Slot} {rest : List Value} {Qc : Array Value → State → Outcome → State → Prop} {XC : String → State → State → Prop}
set_option maxHeartbeats 4000000 in
theorem nx_throw {cc : ByteArray} {pc : Nat} (hexec : p.tables.exec = Jvm.exec) (hb : c.code = cc) (hl : l.stackTraces = false) {text : String} {is mc ms sa : Nat} {A : Nat → Prop}
    (hown : s.vm.findClass R_S = some m.cls) (hg : ∀ w ∈ GW, w.before args s = true) (hN9 : NW s) (hstr : vk_R R_S is text sa s)
    (hU : vx_Zq Bundle.tN "UNASSIGNED_STACK" Bundle.steD A s s.heap) (hN : vx_Zq Bundle.tN "SUPPRESSED_SENTINEL" Bundle.listD A s s.heap) (hS : va_S A s.heap H locs) (hsize : ls.size = c.maxLocals)
    (d0 : decode cc pc = .ok (.new 122, 3)) (d3 : decode cc (pc + 3) = .ok (.dup, 1)) (d4 : decode cc (pc + 4) = .ok (.ldc is, 2)) (d6 : decode cc (pc + 6) = .ok (.invokespecial 126, 3)) (d9 : decode cc (pc + 9) = .ok (.athrow, 1))
    (hout : ∀ x ∈ c.exceptionTable.toList, covers x (pc + 9) = false)
    (hRframes : 5 < R.frames) (hRlocals : (rest.map fun v => v.category).sum + 82 ≤ R.locals) (hRcells : cells + 1 ≤ R.cells) (hRslots : slots + 6 ≤ R.slots) (hlocks : meth.locks = false)
    (hx : ∀ t : State, s.vm.Alike t.vm → H.size ≤ t.heap.size → (∀ q : Nat, q < H.size → t.heap[q]? = H[q]?) → XC "java/util/NoSuchElementException" s t)
    (hf : ∀ z ∈ locs, free z.base) (hc : cells + 1 ≤ mc) (hs : slots + 6 ≤ ms) :
    W p l e R s m args below meth c H locs cells slots (vx_MQ below Qc XC args s mc ms free) (F0 m pc ls rest) := by
  have hk : (Cond.classLink R_S 122 nsN).before args s = true := hg _ gw_245
  have hini : (Cond.initialized nsN).before args s = true := hg _ gw_33
  have hat : ∀ w ∈ nxL.filter vx_no, w.before args s = true := vx_hat (fun w hw => hg w (nx_g w hw)) nx_b (xBd_ok hN9 (by decide))
  intro T hT X
  have htr : e.platform.stackTraces = false := (show e.platform.stackTraces = l.stackTraces by rw [X.admits.platform]).trans hl
  have Y := vx_rebase X (R' := { frames := R.frames, locals := R.locals, cells := 1, slots := 6 }) (Nat.le_refl _) (Nat.le_refl _) hRcells hRslots
  obtain ⟨s', hA⟩ : ∃ z, z = (T.setVm s.vm).setFrames (.invoking m args :: below) := ⟨_, rfl⟩
  rw [← hA] at Y
  have hvm : s'.vm = s.vm := by rw [hA]; rfl
  have hhp : s'.heap = H := by rw [hA]; exact hT
  have hW0 : s.WarmedH s'.vm := by rw [hvm]; exact State.WarmedH.refl s
  have hat' : ∀ w ∈ nxL.filter vx_no, w.before args s' = true := fun w hw => vx_ot_at hW0 hvm.symm (nx_o w (List.mem_cons_of_mem _ (List.mem_cons_of_mem _ hw))) (hat w hw)
  have hk' : (Cond.classLink R_S 122 nsN).before args s' = true := vx_ot_at hW0 hvm.symm (nx_o _ List.mem_cons_self) hk
  have hini' : (Cond.initialized nsN).before args s' = true := vx_ot_at hW0 hvm.symm (nx_o _ (List.mem_cons_of_mem _ List.mem_cons_self)) hini
  have hU' : vx_Zq Bundle.tN "UNASSIGNED_STACK" Bundle.steD A s' s'.heap := by rw [hhp]; exact vx_Zq.moved hW0.alike (hU.kept hS.2.1)
  have hN' : vx_Zq Bundle.tN "SUPPRESSED_SENTINEL" Bundle.listD A s' s'.heap := by rw [hhp]; exact vx_Zq.moved hW0.alike (hN.kept hS.2.1)
  have h : ∀ w ∈ nxL, w.before args s' = true := vx_own hat' (vx_isRefq hU'.1) (vx_isRefq hN'.1) hU'.2.word hN'.2.word
  have hown' : s'.vm.findClass R_S = some m.cls := by rw [hvm]; exact hown
  have hins : (Cond.instantiable nsN 6).before args s' = true := h _ (by decide +kernel)
  obtain ⟨vm₁, cX, kX, hfX, hkX, -, -, X₁, st1⟩ := Y.newCold hexec (own := R_S) (C := nsN) (index := 122) (n := 6) hown' hk' hins hini'
    (g := F0 m pc ls rest) rfl (by rw [hb]; exact d0) (Nat.le_refl _) (Nat.le_refl _)
  generalize hT1 : (T.setVm vm₁).pushCell { cls := cX, slots := kX.instanceTypes.map defaultValue, vm := .none } = T1 at X₁ st1
  have hcat : (Value.ref T.heap.size).category = 1 := rfl
  have hcellA : T1.heap[T.heap.size]? = some (freshCell cX kX) := by rw [← hT1]; exact State.heap_pushCell_size _ _
  have d3' : decode c.code (pc + 3) = .ok (.dup, 1) := by rw [hb]; exact d3
  have d4' : decode c.code (pc + 4) = .ok (.ldc is, 2) := by rw [hb]; exact d4
  have hstr' : vk_R R_S is text sa s' := vk_R.warm hW0 hstr
  obtain ⟨U, hsteps, hrun, hend, hW, hsame, ce, hce, hcv, hccl⟩ := nx_ctor X₁ hexec htr hown' h (fun x hx => nomatch hx) hfX hkX hcellA (by rw [hhp, hT]; exact Nat.le_refl _) (msg := .ref sa) rfl
    (g := { method := m, pc := pc + 6, locals := ls, stack := .ref sa :: .ref T.heap.size :: .ref T.heap.size :: rest, locked := none }) rfl hsize rfl rfl (rest := rest) rfl
    (by rw [hb]; exact d6) (by rw [hb]; exact d9) hout hRframes (by simp only [List.map_cons, List.sum_cons, hcat]; omega) hlocks
  obtain ⟨f1, f2⟩ := vx_frame hsame
  rw [hhp] at f1 f2
  have hWs : s.WarmedH U.vm := State.WarmedH.trans hW0 hW
  have hcl : s.vm.findClass nsN = some ce.cls := by
    rw [hvm] at hccl
    exact hccl
  have hall : s.sameButNew ({ U with vm := s.vm } : State) locs mc ms := by
    subst hA
    obtain ⟨e1, e2⟩ := hsame
    rw [State.setFrames_setFrames] at e1
    have h2 : (T.setVm s.vm).sameButNew ({ U with vm := s.vm } : State) [] (0 + 1) (0 + 6) := ⟨e1, e2⟩
    have h3 := X.same.trans h2
    rw [List.append_nil] at h3
    exact h3.mono hc hs
  refine ⟨U, ?_, .threw T.heap.size, hrun, hend, Or.inr ⟨T.heap.size, rfl, nsN, ce, locs, hx U hWs.alike f1 (fun q hq => f2 q hq (fun z hz => nomatch hz)), hce, hcv, hcl, hWs, hall, hf⟩⟩
  refine st1 _ ?_
  show Steps p.tables e below (T1.setTop { method := m, pc := pc + 3, locals := ls, stack := .ref T.heap.size :: rest, locked := none }) _
  jvm_step X₁.here [X₁.here.top, hexec, d3', Value.category]
  exact X₁.ldcString hexec (own := R_S) (text := text) (index := is) (a := sa) hown' hstr'.1 hstr'.2
    (g := { method := m, pc := pc + 4, locals := ls, stack := .ref T.heap.size :: .ref T.heap.size :: rest, locked := none }) rfl d4' _ hsteps
end NSE
end
