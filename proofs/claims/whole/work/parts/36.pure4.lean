theorem wtf_mem {n : Nat} {L : List AP} : ∀ {acc : Option AP} {x : AP}, wtf n L acc = some x → x ∈ L ∨ acc = some x := by
  induction L with
  | nil => intro acc x h; exact Or.inr h
  | cons y L ih =>
    intro acc x h
    rw [wtf] at h
    rcases ih h with h1 | h1
    · exact Or.inl (List.mem_cons_of_mem _ h1)
    · split at h1
      · cases h1; exact Or.inl List.mem_cons_self
      · exact Or.inr h1
def tkM (s0 : List AP) (x : AP) : Bool := match s0 with
  | [] => false
  | y :: _ => decide (y.2.1 ≤ x.2.1)
theorem chG_memG {L : List AP} {y : AP} (nx : Option Nat) (h : y ∈ L) : ∃ n : Option Nat, pcell y n ∈ chG L nx := by
  obtain ⟨pre, suf, rfl⟩ := List.append_of_mem h
  exact ⟨hdO suf nx, by rw [chG_mid]; simp⟩
def unX (x : AP) : AP := (x.1, x.2.1, x.2.2.1, x.2.2.2.1, false, x.2.2.2.2.2)
theorem unX_f {x : AP} (h : x.2.2.2.2.1 = false) : unX x = x := by
  obtain ⟨a, b, n, u, k, t⟩ := x
  have h : k = false := h
  rw [h]
  rfl
theorem unmk_app (L M : List AP) : unmkL (L ++ M) = unmkL L ++ unmkL M := List.map_append
theorem unmk_snoc (pre : List AP) (x : AP) (suf : List AP) : unmkL (pre ++ [x]) ++ suf = unmkL pre ++ unX x :: suf := by
  rw [unmk_app, List.append_assoc]
  rfl
theorem shr8 (x : AP) : shr 8 x = if x.2.2.2.2.1 then 1 else 0 := by simp [shr]
def swR : Nat → List AP → List AP → Nat → Int32 → Int32 → Nat × (List AP × List AP × Nat × Int32 × Int32)
  | 0, pre, suf, f, w, z => (0, pre, suf, f, w, z)
  | _ + 1, pre, [], f, w, z => (0, pre, [], f, w, z)
  | k + 1, pre, x :: s, f, w, z => ((swR k (pre ++ [stX f x s]) (stS x s) (stF f x s) (w + nI (stW x s)) (if stS x s = [] then z + 1 else z)).1 + 1, (swR k (pre ++ [stX f x s]) (stS x s) (stF f x s) (w + nI (stW x s)) (if stS x s = [] then z + 1 else z)).2)
def wsW (h cn : Nat) (v : Int32) (st : List AP × List AP × Nat × Int32 × Int32) : va_W := scell h cn (hdO (st.1 ++ st.2.1) none) (hdO st.2.1 none) st.2.2.1 v st.2.2.2.1 st.2.2.2.2 :: chG (st.1 ++ st.2.1) none
def cntV (cn : Nat) (v w z : Int32) (L : List AP) (k : Nat) : Int32 :=
  if k = 5 then nI (grF L 0) else if k = 6 then v else if k = 7 then nI cn else if k = 9 then w else if k = 10 then z else nI (shrS k L)
