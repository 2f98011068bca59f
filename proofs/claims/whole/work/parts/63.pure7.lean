/-! the relation between the class's state and the reference's, and how the calls keep it -/
def TT (f : Nat) (L : List AP) : Prop := ∀ x ∈ L, x.2.2.2.2.2 ≤ f ∧ (x.2.2.2.1 = false → 1 ≤ x.2.2.2.2.2)
def JJ (cn f nw : Nat) (p0 s0 : List AP) (za ta ka : Nat → Int32) : Prop := Inv cn f nw (p0 ++ s0) za ta ka ∧ TT f (p0 ++ s0) ∧ NoM p0 s0 ∧ f ≤ nw + 1
theorem JJ.bd {cn f nw : Nat} {p0 s0 : List AP} {za ta ka : Nat → Int32} (h : JJ cn f nw p0 s0 za ta ka) : Bd (p0 ++ s0) := by
  intro x hx
  obtain ⟨h1, h2, h3, h4⟩ := h
  obtain ⟨-, -, -, e1, e2, e3, e4, e5, e6⟩ := h1.x hx
  have := (h2 x hx).1
  have := h1.2.2.2.1
  have := h1.2.2.1
  refine ⟨by omega, by omega, by omega⟩
theorem JJ.tmo {cn f nw : Nat} {p0 s0 : List AP} {za ta ka : Nat → Int32} (h : JJ cn f nw p0 s0 za ta ka) : TmO f (p0 ++ s0) := fun x hx hu => ⟨(h.2.1 x hx).2 hu, (h.2.1 x hx).1⟩
/-- a piece is replaced: the same begin and address at the head of what comes in its place -/
theorem split_rep {p0 s0 l1 l2 R : List AP} {x x' : AP} (h : p0 ++ s0 = l1 ++ x :: l2) (ha : x'.1 = x.1) (hb : x'.2.1 = x.2.1) (hN : NoM p0 s0) (hM : ∀ m, p0 = l1 ++ x :: m → s0 ≠ [] → ∀ y ∈ x' :: R, y.2.2.2.2.1 = false) :
    ∃ p1 s1, p1 ++ s1 = l1 ++ x' :: (R ++ l2) ∧ hdO (p1 ++ s1) none = hdO (p0 ++ s0) none ∧ hdO s1 none = hdO s0 none ∧ hdB s1 = hdB s0 ∧ NoM p1 s1 := by
  rcases List.append_eq_append_iff.mp h with ⟨m, h1, h2⟩ | ⟨m, h1, h2⟩
  · refine ⟨p0, m ++ x' :: (R ++ l2), by rw [h1, List.append_assoc], ?_, ?_, ?_, ?_⟩
    · rw [h2, ← List.append_assoc, ← List.append_assoc]
      exact hdO_mid _ x x' _ _ none none ha
    · rw [h2]
      exact hdO_mid m x x' _ _ none none ha
    · rw [h2]
      cases m with
      | nil => exact hb
      | cons a m => rfl
    · intro _ y hy
      exact hN (by rw [h2]; simp) y hy
  · cases m with
    | nil =>
      have h3 : s0 = x :: l2 := h2.symm
      refine ⟨p0, x' :: (R ++ l2), by rw [h1, List.append_nil], ?_, ?_, ?_, ?_⟩
      · rw [h3]
        exact hdO_mid _ x x' _ _ none none ha
      · rw [h3]
        show some x'.1 = some x.1
        rw [ha]
      · rw [h3]
        exact hb
      · intro _ y hy
        exact hN (by rw [h3]; simp) y hy
    | cons a m =>
      obtain ⟨rfl, h4⟩ : x = a ∧ l2 = m ++ s0 := ⟨(List.cons.inj h2).1, (List.cons.inj h2).2⟩
      refine ⟨l1 ++ x' :: (R ++ m), s0, by rw [h4]; simp, ?_, rfl, rfl, ?_⟩
      · rw [h, h4]
        have e : (l1 ++ x' :: (R ++ m)) ++ s0 = l1 ++ x' :: ((R ++ m) ++ s0) := by simp
        rw [e]
        exact hdO_mid _ x x' _ _ none none ha
      · intro hs y hy
        rcases List.mem_append.mp hy with q | q
        · exact hN hs y (by rw [h1]; exact List.mem_append_left _ q)
        · rcases List.mem_cons.mp q with q | q
          · exact hM m h1 hs y (by rw [q]; exact List.mem_cons_self)
          · rcases List.mem_append.mp q with q | q
            · exact hM m h1 hs y (List.mem_cons_of_mem _ q)
            · exact hN hs y (by rw [h1]; exact List.mem_append_right _ (List.mem_cons_of_mem _ q))
theorem TT.rep {f f' : Nat} {l1 l2 M : List AP} {x : AP} (h : TT f (l1 ++ x :: l2)) (hf : f ≤ f') (hM : TT f' M) : TT f' (l1 ++ (M ++ l2)) := by
  intro y hy
  have up : ∀ z ∈ l1 ++ x :: l2, z.2.2.2.2.2 ≤ f' ∧ (z.2.2.2.1 = false → 1 ≤ z.2.2.2.2.2) := fun z hz => ⟨Nat.le_trans (h z hz).1 hf, (h z hz).2⟩
  rcases List.mem_append.mp hy with q | q
  · exact up y (List.mem_append_left _ q)
  · rcases List.mem_append.mp q with q | q
    · exact hM y q
    · exact up y (List.mem_append_right _ (List.mem_cons_of_mem _ q))
theorem tkM_mkB {p0 s0 : List AP} {x : AP} {cn f nw : Nat} {za ta ka : Nat → Int32} (h : Inv cn f nw (p0 ++ s0) za ta ka) : tkM s0 x = mkB (hdB s0) x := by
  cases s0 with
  | nil => rfl
  | cons y s =>
    have := (h.x (x := y) (by simp)).2.2.2.2.1
    show decide (y.2.1 ≤ x.2.1) = (decide (0 < y.2.1) && decide (y.2.1 ≤ x.2.1))
    rw [decide_eq_true (show 0 < y.2.1 by omega), Bool.true_and]
/-- before the hand nothing begins at it or behind -/
theorem tkM_before {p0 s0 l1 m : List AP} {x : AP} {cn f nw : Nat} {za ta ka : Nat → Int32} (h : Inv cn f nw (p0 ++ s0) za ta ka) (hp : p0 = l1 ++ x :: m) : tkM s0 x = false := by
  cases s0 with
  | nil => rfl
  | cons y s =>
    obtain ⟨t1, t2, t3⟩ := Til_mid h.2.1
    have := (Til_lo t1).2 x (by rw [hp]; simp)
    simp [tkM]
    omega
theorem stX_k {f : Nat} {x : AP} {suf : List AP} (hx : x.2.2.2.2.1 = true → x.2.2.2.1 = true) : (stX f x suf).2.2.2.2.1 = false := by
  unfold stX
  split
  · rfl
  · next hk =>
    unfold gaX
    split
    · next he =>
      unfold gaE at he
      simp at he
      cases hq : x.2.2.2.2.1
      · rfl
      · rw [hx hq] at he; cases he.1
    · rfl
theorem stX_t {f : Nat} {x : AP} {suf : List AP} (h : x.2.2.2.2.2 ≤ f ∧ (x.2.2.2.1 = false → 1 ≤ x.2.2.2.2.2)) : (stX f x suf).2.2.2.2.2 ≤ stF f x suf ∧ ((stX f x suf).2.2.2.1 = false → 1 ≤ (stX f x suf).2.2.2.2.2) ∧ f ≤ stF f x suf := by
  unfold stX stF
  split
  · exact ⟨h.1, h.2, Nat.le_refl _⟩
  · unfold gaX gaF
    split
    · exact ⟨h.1, h.2, Nat.le_refl _⟩
    · exact ⟨Nat.le_refl _, fun _ => Nat.le_add_left 1 f, Nat.le_succ f⟩
theorem gaR_mem {suf : List AP} {y : AP} (h : y ∈ gaR suf) : y ∈ suf := by
  have := gaMR suf
  rw [← this]
  exact List.mem_append_right _ h
theorem stS_mem {x y : AP} {suf : List AP} (h : y ∈ stS x suf) : y ∈ suf := by
  unfold stS at h
  split at h
  · exact h
  · exact gaR_mem h
theorem swR_keep : ∀ (k : Nat) (pre suf : List AP) (f : Nat) (w z : Int32), MkU (pre ++ suf) → TT f (pre ++ suf) → (∀ x ∈ pre, suf ≠ [] → x.2.2.2.2.1 = false) → TT (swR k pre suf f w z).2.2.2.1 ((swR k pre suf f w z).2.1 ++ (swR k pre suf f w z).2.2.1) ∧ NoM (swR k pre suf f w z).2.1 (swR k pre suf f w z).2.2.1 := by
  intro k
  induction k with
  | zero => intro pre suf f w z h1 h2 h3; exact ⟨h2, fun hs x hx => h3 x hx hs⟩
  | succ k ih =>
    intro pre suf f w z h1 h2 h3
    cases suf with
    | nil => exact ⟨h2, fun hs => absurd rfl hs⟩
    | cons x s =>
      have hx : x ∈ pre ++ x :: s := by simp
      have hxt := stX_t (suf := s) (h2 x hx)
      have hkx := stX_k (f := f) (suf := s) (h1 x hx)
      refine ih (pre ++ [stX f x s]) (stS x s) (stF f x s) (w + nI (stW x s)) (if stS x s = [] then z + 1 else z) ?_ ?_ ?_
      · intro y hy
        rcases List.mem_append.mp hy with q | q
        · rcases List.mem_append.mp q with q | q
          · exact h1 y (List.mem_append_left _ q)
          · cases List.mem_singleton.mp q
            intro q2; rw [hkx] at q2; cases q2
        · exact h1 y (List.mem_append_right _ (List.mem_cons_of_mem _ (stS_mem q)))
      · intro y hy
        rcases List.mem_append.mp hy with q | q
        · rcases List.mem_append.mp q with q | q
          · have := h2 y (List.mem_append_left _ q)
            exact ⟨by omega, this.2⟩
          · cases List.mem_singleton.mp q
            exact ⟨hxt.1, hxt.2.1⟩
        · have := h2 y (List.mem_append_right _ (List.mem_cons_of_mem _ (stS_mem q)))
          exact ⟨by omega, this.2⟩
      · intro y hy _
        rcases List.mem_append.mp hy with q | q
        · exact h3 y q (by simp)
        · cases List.mem_singleton.mp q
          exact hkx
/-- what the world of both sides is, as a state of the law's loop -/
def cW (h cn f : Nat) (v w z : Int32) (p0 s0 : List AP) : va_W := scell h cn (hdO (p0 ++ s0) none) (hdO s0 none) f v w z :: chG (p0 ++ s0) none
theorem cW_of {h cn f : Nat} {v w z : Int32} {p0 s0 p1 s1 : List AP} (L : List AP) (h1 : p1 ++ s1 = L) (h2 : hdO (p1 ++ s1) none = hdO (p0 ++ s0) none) (h3 : hdO s1 none = hdO s0 none) : scell h cn (hdO (p0 ++ s0) none) (hdO s0 none) f v w z :: chG L none = cW h cn f v w z p1 s1 := by
  unfold cW
  rw [← h1, ← h2, ← h3]
/-- how a call may end, on both sides: a new state that agrees -/
theorem J_space {k nw q : Nat} {za ta ka : Nat → Int32} (h : ∀ q : Nat, Inv k 1 (nw + 1) [(q, 1, k, false, false, 1)] za ta ka) : JJ k 1 (nw + 1) [(q, 1, k, false, false, 1)] [] za ta ka :=
  ⟨h q, fun x hx => by cases List.mem_singleton.mp hx; exact ⟨Nat.le_refl 1, fun _ => Nat.le_refl 1⟩, fun hs => absurd rfl hs, by omega⟩
theorem J_give {cn f nw : Nat} {p0 s0 l1 l2 : List AP} {x : AP} {za ta ka za' ta' ka' : Nat → Int32} (hJ : JJ cn f nw p0 s0 za ta ka) (hL : p0 ++ s0 = l1 ++ x :: l2) (hI : Inv cn (f + 1) (nw + 1) (l1 ++ (x.1, x.2.1, x.2.2.1, false, false, f + 1) :: l2) za' ta' ka') :
    ∃ p1 s1, JJ cn (f + 1) (nw + 1) p1 s1 za' ta' ka' ∧ hdB s1 = hdB s0 ∧ ∀ (h : Nat) (v w z : Int32), scell h cn (hdO (p0 ++ s0) none) (hdO s0 none) (f + 1) v w z :: chG (l1 ++ (x.1, x.2.1, x.2.2.1, false, false, f + 1) :: l2) none = cW h cn (f + 1) v w z p1 s1 := by
  obtain ⟨p1, s1, e1, e2, e3, e4, e5⟩ := split_rep (R := []) (x' := (x.1, x.2.1, x.2.2.1, false, false, f + 1)) hL rfl rfl hJ.2.2.1 (fun m _ _ y hy => by cases List.mem_singleton.mp hy; rfl)
  have e1' : p1 ++ s1 = l1 ++ (x.1, x.2.1, x.2.2.1, false, false, f + 1) :: l2 := e1
  refine ⟨p1, s1, ⟨by rw [e1']; exact hI, ?_, e5, by have := hJ.2.2.2; omega⟩, e4, fun h v w z => cW_of _ e1' e2 e3⟩
  rw [e1']
  have hT := hJ.2.1
  rw [hL] at hT
  exact hT.rep (M := [(x.1, x.2.1, x.2.2.1, false, false, f + 1)]) (Nat.le_succ f) (fun y hy => by cases List.mem_singleton.mp hy; exact ⟨Nat.le_refl _, fun _ => Nat.le_add_left 1 f⟩)
theorem J_mark {cn f nw : Nat} {p0 s0 l1 l2 : List AP} {x : AP} {za ta ka ka' : Nat → Int32} (hJ : JJ cn f nw p0 s0 za ta ka) (hs : s0 = []) (hL : p0 ++ s0 = l1 ++ x :: l2) (hI : Inv cn f nw (l1 ++ (x.1, x.2.1, x.2.2.1, x.2.2.2.1, true, x.2.2.2.2.2) :: l2) za ta ka') :
    ∃ p1 s1, JJ cn f nw p1 s1 za ta ka' ∧ hdB s1 = hdB s0 ∧ ∀ (h : Nat) (v w z : Int32), scell h cn (hdO (p0 ++ s0) none) (hdO s0 none) f v w z :: chG (l1 ++ (x.1, x.2.1, x.2.2.1, x.2.2.2.1, true, x.2.2.2.2.2) :: l2) none = cW h cn f v w z p1 s1 := by
  obtain ⟨p1, s1, e1, e2, e3, e4, e5⟩ := split_rep (R := []) (x' := (x.1, x.2.1, x.2.2.1, x.2.2.2.1, true, x.2.2.2.2.2)) hL rfl rfl hJ.2.2.1 (fun m _ h9 => absurd hs h9)
  have e1' : p1 ++ s1 = l1 ++ (x.1, x.2.1, x.2.2.1, x.2.2.2.1, true, x.2.2.2.2.2) :: l2 := e1
  refine ⟨p1, s1, ⟨by rw [e1']; exact hI, ?_, e5, hJ.2.2.2⟩, e4, fun h v w z => cW_of _ e1' e2 e3⟩
  rw [e1']
  have hT := hJ.2.1
  rw [hL] at hT
  exact hT.rep (M := [(x.1, x.2.1, x.2.2.1, x.2.2.2.1, true, x.2.2.2.2.2)]) (Nat.le_refl f) (fun y hy => by cases List.mem_singleton.mp hy; exact hT x (by simp))
theorem J_take1 {cn f nw : Nat} {p0 s0 l1 l2 : List AP} {x : AP} {za ta ka za' ka' : Nat → Int32} (hJ : JJ cn f nw p0 s0 za ta ka) (hL : p0 ++ s0 = l1 ++ x :: l2) (hI : Inv cn f nw (l1 ++ (x.1, x.2.1, x.2.2.1, true, tkM s0 x, x.2.2.2.2.2) :: l2) za' ta ka') :
    ∃ p1 s1, JJ cn f nw p1 s1 za' ta ka' ∧ hdB s1 = hdB s0 ∧ ∀ (h : Nat) (v w z : Int32), scell h cn (hdO (p0 ++ s0) none) (hdO s0 none) f v w z :: chG (l1 ++ (x.1, x.2.1, x.2.2.1, true, tkM s0 x, x.2.2.2.2.2) :: l2) none = cW h cn f v w z p1 s1 := by
  obtain ⟨p1, s1, e1, e2, e3, e4, e5⟩ := split_rep (R := []) (x' := (x.1, x.2.1, x.2.2.1, true, tkM s0 x, x.2.2.2.2.2)) hL rfl rfl hJ.2.2.1 (fun m hm _ y hy => by cases List.mem_singleton.mp hy; exact tkM_before hJ.1 hm)
  have e1' : p1 ++ s1 = l1 ++ (x.1, x.2.1, x.2.2.1, true, tkM s0 x, x.2.2.2.2.2) :: l2 := e1
  refine ⟨p1, s1, ⟨by rw [e1']; exact hI, ?_, e5, hJ.2.2.2⟩, e4, fun h v w z => cW_of _ e1' e2 e3⟩
  rw [e1']
  have hT := hJ.2.1
  rw [hL] at hT
  exact hT.rep (M := [(x.1, x.2.1, x.2.2.1, true, tkM s0 x, x.2.2.2.2.2)]) (Nat.le_refl f) (fun y hy => by cases List.mem_singleton.mp hy; exact ⟨(hT x (by simp)).1, fun q => by cases q⟩)
theorem J_take2 {cn f nw k q : Nat} {p0 s0 l1 l2 : List AP} {x : AP} {za ta ka za' ta' ka' : Nat → Int32} (hJ : JJ cn f nw p0 s0 za ta ka) (hL : p0 ++ s0 = l1 ++ x :: l2) (hI : Inv cn (f + 1) (nw + 1) (l1 ++ (x.1, x.2.1, k, true, tkM s0 x, x.2.2.2.2.2) :: (q, x.2.1 + k, x.2.2.1 - k, false, false, f + 1) :: l2) za' ta' ka') :
    ∃ p1 s1, JJ cn (f + 1) (nw + 1) p1 s1 za' ta' ka' ∧ hdB s1 = hdB s0 ∧ ∀ (h : Nat) (v w z : Int32), scell h cn (hdO (p0 ++ s0) none) (hdO s0 none) (f + 1) v w z :: chG (l1 ++ (x.1, x.2.1, k, true, tkM s0 x, x.2.2.2.2.2) :: (q, x.2.1 + k, x.2.2.1 - k, false, false, f + 1) :: l2) none = cW h cn (f + 1) v w z p1 s1 := by
  obtain ⟨p1, s1, e1, e2, e3, e4, e5⟩ := split_rep (R := [(q, x.2.1 + k, x.2.2.1 - k, false, false, f + 1)]) (x' := (x.1, x.2.1, k, true, tkM s0 x, x.2.2.2.2.2)) hL rfl rfl hJ.2.2.1 (fun m hm _ y hy => by
    rcases List.mem_cons.mp hy with rfl | hy
    · exact tkM_before hJ.1 hm
    · cases List.mem_singleton.mp hy; rfl)
  have e1' : p1 ++ s1 = l1 ++ (x.1, x.2.1, k, true, tkM s0 x, x.2.2.2.2.2) :: (q, x.2.1 + k, x.2.2.1 - k, false, false, f + 1) :: l2 := e1
  refine ⟨p1, s1, ⟨by rw [e1']; exact hI, ?_, e5, by have := hJ.2.2.2; omega⟩, e4, fun h v w z => cW_of _ e1' e2 e3⟩
  rw [e1']
  have hT := hJ.2.1
  rw [hL] at hT
  exact hT.rep (M := [(x.1, x.2.1, k, true, tkM s0 x, x.2.2.2.2.2), (q, x.2.1 + k, x.2.2.1 - k, false, false, f + 1)]) (Nat.le_succ f) (fun y hy => by
    rcases List.mem_cons.mp hy with rfl | hy
    · exact ⟨Nat.le_succ_of_le (hT x (by simp)).1, fun q => by cases q⟩
    · cases List.mem_singleton.mp hy; exact ⟨Nat.le_refl _, fun _ => Nat.le_add_left 1 f⟩)
theorem unmk_hd (L : List AP) (n : Option Nat) : hdO (unmkL L) n = hdO L n := by cases L <;> rfl
theorem J_unmark {cn f nw : Nat} {p0 s0 : List AP} {za ta ka ka' : Nat → Int32} (hJ : JJ cn f nw p0 s0 za ta ka) (hs : s0 = []) (hI : Inv cn f nw (unmkL (p0 ++ s0)) za ta ka') :
    JJ cn f nw (unmkL (p0 ++ s0)) [] za ta ka' ∧ ∀ (h : Nat) (v w z : Int32), scell h cn (hdO (p0 ++ s0) none) (hdO s0 none) f v w z :: chG (unmkL (p0 ++ s0)) none = cW h cn f v w z (unmkL (p0 ++ s0)) [] := by
  refine ⟨⟨by rw [List.append_nil]; exact hI, ?_, fun h => absurd rfl h, hJ.2.2.2⟩, fun h v w z => ?_⟩
  · rw [List.append_nil]
    intro y hy
    obtain ⟨x, hx, rfl⟩ := List.mem_map.mp hy
    exact hJ.2.1 x hx
  · unfold cW
    rw [List.append_nil, unmk_hd, hs]
theorem J_begin {cn f nw : Nat} {p0 s0 : List AP} {za ta ka : Nat → Int32} (hJ : JJ cn f nw p0 s0 za ta ka) (h0 : 1 ≤ cn) : JJ cn f nw [] (p0 ++ s0) za ta ka ∧ hdB (p0 ++ s0) = 1 := by
  refine ⟨⟨hJ.1, hJ.2.1, fun _ x hx => (by cases hx), hJ.2.2.2⟩, ?_⟩
  have h := hJ.1.2.1
  have hc := hJ.1.2.2.1
  cases hL : p0 ++ s0 with
  | nil => rw [hL] at h; have h : 1 = cn + 1 := h; omega
  | cons x L => rw [hL] at h; exact h.1
theorem J_sweep {cn f nw nw' k : Nat} {w z : Int32} {p0 s0 : List AP} {za ta ka za' ta' ka' : Nat → Int32} (hJ : JJ cn f nw p0 s0 za ta ka) (hn : nw' + f = nw + (swR k p0 s0 f w z).2.2.2.1) (hI : Inv cn (swR k p0 s0 f w z).2.2.2.1 nw' ((swR k p0 s0 f w z).2.1 ++ (swR k p0 s0 f w z).2.2.1) za' ta' ka') :
    JJ cn (swR k p0 s0 f w z).2.2.2.1 nw' (swR k p0 s0 f w z).2.1 (swR k p0 s0 f w z).2.2.1 za' ta' ka' := by
  obtain ⟨h1, h2⟩ := swR_keep k p0 s0 f w z hJ.1.2.2.2.2 hJ.2.1 (fun x hx hs => hJ.2.2.1 hs x hx)
  exact ⟨hI, h1, h2, by have := hJ.2.2.2; omega⟩
