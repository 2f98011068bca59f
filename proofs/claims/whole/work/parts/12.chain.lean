/-! the class's pieces: a chain of cells. A piece: its address; begin, size, used, marked, time -/
abbrev PD : Type := Nat × Nat × Bool × Bool × Nat
abbrev AP : Type := Nat × PD
def bI (b : Bool) : Int32 := if b then 1 else 0
theorem bI_0 {b : Bool} : bI b = 0 ↔ b = false := by cases b <;> decide
theorem bI_n0 {b : Bool} : ¬ bI b = 0 ↔ b = true := by cases b <;> decide
theorem bI_nar (b : Bool) : narrow .boolean (.int (bI b)) = .int (bI b) := by cases b <;> rfl
theorem bI_fit (b : Bool) : fits .boolean (.int (bI b)) = true := by cases b <;> rfl
def hdO (L : List AP) (nx : Option Nat) : Option Nat := match L with
  | [] => nx
  | y :: _ => some y.1
def pcell (x : AP) (nx : Option Nat) : Nat × va_E := (x.1, .inr (1, [.int (nI x.2.1), .int (nI x.2.2.1), .int (bI x.2.2.2.1), .int (bI x.2.2.2.2.1), .long (lN x.2.2.2.2.2), va_rf nx]))
def chG : List AP → Option Nat → va_W
  | [], _ => []
  | x :: L, nx => pcell x (hdO L nx) :: chG L nx
def scell (h c : Nat) (fi ha : Option Nat) (f : Nat) (v w z : Int32) : Nat × va_E := (h, .inr (0, [.int (nI c), va_rf fi, va_rf ha, .long (lN f), .int v, .int w, .int z]))
theorem hdO_app (L M : List AP) (nx : Option Nat) : hdO (L ++ M) nx = hdO L (hdO M nx) := by cases L <;> rfl
theorem chG_app (L M : List AP) (nx : Option Nat) : chG (L ++ M) nx = chG L (hdO M nx) ++ chG M nx := by
  induction L with
  | nil => rfl
  | cons x L ih =>
    show pcell x (hdO (L ++ M) nx) :: chG (L ++ M) nx = _
    rw [ih, hdO_app]
    rfl
theorem chG_len (L : List AP) (nx : Option Nat) : (chG L nx).length = L.length := by
  induction L with
  | nil => rfl
  | cons x L ih =>
    show (chG L nx).length + 1 = _
    rw [ih]
    rfl
theorem chG_fst (L : List AP) (nx : Option Nat) : (chG L nx).map Prod.fst = L.map Prod.fst := by
  induction L with
  | nil => rfl
  | cons x L ih =>
    show x.1 :: (chG L nx).map Prod.fst = _
    rw [ih]
    rfl
theorem chG_mid (pre : List AP) (x : AP) (suf : List AP) (nx : Option Nat) : chG (pre ++ x :: suf) nx = chG pre (some x.1) ++ pcell x (hdO suf nx) :: chG suf nx := by
  rw [chG_app]
  rfl
theorem chG_at (S : Nat × va_E) (pre : List AP) (x : AP) (suf : List AP) (nx : Option Nat) : (S :: chG (pre ++ x :: suf) nx)[pre.length + 1]? = some (pcell x (hdO suf nx)) := by
  rw [chG_mid, List.getElem?_cons_succ]
  have h := sw_get_mid (chG pre (some x.1)) (pcell x (hdO suf nx)) (chG suf nx)
  rw [chG_len] at h
  exact h
theorem chG_mem (S : Nat × va_E) {L : List AP} {y : AP} (nx : Option Nat) (h : y ∈ L) : ∃ (i : Nat) (n : Option Nat), (S :: chG L nx)[i]? = some (pcell y n) := by
  obtain ⟨pre, suf, rfl⟩ := List.append_of_mem h
  exact ⟨_, _, chG_at S pre y suf nx⟩
theorem chG_set (S : Nat × va_E) (pre : List AP) (x x' : AP) (suf : List AP) (nx : Option Nat) (hx : x'.1 = x.1) : (S :: chG (pre ++ x :: suf) nx).set (pre.length + 1) (pcell x' (hdO suf nx)) = S :: chG (pre ++ x' :: suf) nx := by
  rw [chG_mid, chG_mid, hx, List.set_cons_succ]
  have h := sw_set_mid (chG pre (some x.1)) (pcell x (hdO suf nx)) (pcell x' (hdO suf nx)) (chG suf nx)
  rw [chG_len] at h
  rw [h]
/-- of its numbers no one is large -/
def Bd (L : List AP) : Prop := ∀ x ∈ L, x.2.1 < 2 ^ 30 ∧ x.2.2.1 < 2 ^ 30 ∧ x.2.2.2.2.2 < 2 ^ 62
def isFT (x : AP) : Bool := !x.2.2.2.1 && decide (2 < x.2.2.1)
def isCr (x : AP) : Bool := !x.2.2.2.1 && decide (x.2.2.1 ≤ 2)
def isKp (x : AP) : Bool := x.2.2.2.1 && x.2.2.2.2.1
def befo (x y : AP) : Bool := if x.2.2.1 = y.2.2.1 then decide (y.2.2.2.2.2 < x.2.2.2.2.2) else decide (x.2.2.1 < y.2.2.1)
def wtfC (sz : Nat) (x : AP) (acc : Option AP) : Bool := isFT x && decide (sz ≤ x.2.2.1) && (match acc with
  | none => true
  | some y => befo x y)
def wtf (sz : Nat) : List AP → Option AP → Option AP
  | [], acc => acc
  | x :: L, acc => wtf sz L (if wtfC sz x acc then some x else acc)
def pAt (a : Int32) : List AP → Option AP
  | [] => none
  | x :: L => if nI x.2.1 ≤ a then (if nI x.2.1 = a then some x else pAt a L) else none
def shr (what : Nat) (x : AP) : Nat :=
  if what = 0 then (if x.2.2.2.1 then 0 else x.2.2.1) else
  if what = 1 then (if isCr x then x.2.2.1 else 0) else
  if what = 2 then (if x.2.2.2.1 then 1 else 0) else
  if what = 3 then (if isFT x then 1 else 0) else
  if what = 4 then (if isCr x then 1 else 0) else
  if what = 8 then (if x.2.2.2.2.1 then 1 else 0) else 0
def shrS (what : Nat) : List AP → Nat
  | [] => 0
  | x :: L => shr what x + shrS what L
def grF : List AP → Nat → Nat
  | [], g => g
  | x :: L, g => grF L (if !x.2.2.2.1 && decide (g < x.2.2.1) then x.2.2.1 else g)
def unmkL (L : List AP) : List AP := L.map (fun x => (x.1, x.2.1, x.2.2.1, x.2.2.2.1, false, x.2.2.2.2.2))
/-- what a step gathers behind the hand's piece: as long as nothing is kept -/
def gaM : List AP → List AP
  | [] => []
  | x :: L => if isKp x then [] else x :: gaM L
def gaR : List AP → List AP
  | [] => []
  | x :: L => if isKp x then x :: L else gaR L
theorem gaMR (L : List AP) : gaM L ++ gaR L = L := by
  induction L with
  | nil => rfl
  | cons x L ih =>
    by_cases h : isKp x = true
    · simp [gaM, gaR, h]
    · simp [gaM, gaR, h, ih]
def szS : List AP → Nat
  | [] => 0
  | x :: L => x.2.2.1 + szS L
def usS : List AP → Nat
  | [] => 0
  | x :: L => (if x.2.2.2.1 then 1 else 0) + usS L
