/-! worlds in another order -/
theorem sw_P_perm {D : va_G} {cl : List vw_C} {ws ws' : va_W} {H : Heap} (h : va_P D cl ws H) (hp : ws.Perm ws') : va_P D cl ws' H := sw_P_of h (fun q hq => hp.mem_iff.mpr hq)
theorem sw_D_perm2 {A : Nat → Prop} {ws ws' : va_W} (h : va_D A ws) (hp : ws.Perm ws') : va_D A ws' := sw_D_perm h (hp.map Prod.fst)
theorem sw_P_sub {D : va_G} {cl : List vw_C} {ws ws' : va_W} {H : Heap} (h : va_P D cl ws H) (hp : ws'.Sublist ws) : va_P D cl ws' H := sw_P_of h (fun q hq => hp.subset hq)
theorem sw_D_sub2 {A : Nat → Prop} {ws ws' : va_W} (h : va_D A ws) (hp : ws'.Sublist ws) : va_D A ws' := sw_D_sub h (hp.map Prod.fst)
theorem sw_new {α : Type} (S : α) (A : List α) (x : α) (B : List α) (y : α) : ((S :: (A ++ x :: B)) ++ [y]).Perm (S :: (A ++ x :: y :: B)) := by
  rw [List.cons_append, List.append_assoc, List.cons_append]
  exact List.Perm.cons S (List.Perm.append_left A (List.Perm.cons x (List.perm_append_singleton y B)))
theorem sw_new0 {α : Type} (S : α) (R : List α) (y : α) : ([S, y] : List α).Sublist ((S :: R) ++ [y]) := by
  rw [List.cons_append]
  exact List.Sublist.cons_cons S (List.sublist_append_right R [y])
theorem sw_set2 {α : Type} (S : α) (A : List α) (c d d' : α) (B : List α) : (S :: (A ++ c :: d :: B)).set (A.length + 2) d' = S :: (A ++ c :: d' :: B) := by
  have h := sw_set1 S (A ++ [c]) d d' B
  rw [List.length_append, List.append_assoc, List.append_assoc] at h
  exact h
theorem sw_get2 {α : Type} (S : α) (A : List α) (c d : α) (B : List α) : (S :: (A ++ c :: d :: B))[A.length + 2]? = some d := by
  have h := sw_get1 S (A ++ [c]) d B
  rw [List.length_append, List.append_assoc] at h
  exact h
/-! the pure steps of a sweep -/
def gaE (x : AP) (suf : List AP) : Bool := !x.2.2.2.1 && (gaM suf).isEmpty
def gaX (f : Nat) (x : AP) (suf : List AP) : AP := if gaE x suf then x else (x.1, x.2.1, x.2.2.1 + szS (gaM suf), false, false, f + 1)
def gaF (f : Nat) (x : AP) (suf : List AP) : Nat := if gaE x suf then f else f + 1
def gaW (x : AP) (suf : List AP) : Nat := if gaE x suf then 0 else (if x.2.2.2.1 then 1 else 0) + usS (gaM suf)
def stX (f : Nat) (x : AP) (suf : List AP) : AP := if isKp x then (x.1, x.2.1, x.2.2.1, x.2.2.2.1, false, x.2.2.2.2.2) else gaX f x suf
def stS (x : AP) (suf : List AP) : List AP := if isKp x then suf else gaR suf
def stF (f : Nat) (x : AP) (suf : List AP) : Nat := if isKp x then f else gaF f x suf
def stW (x : AP) (suf : List AP) : Nat := if isKp x then 0 else gaW x suf
theorem gaX_a (f : Nat) (x : AP) (suf : List AP) : (gaX f x suf).1 = x.1 := by unfold gaX; split <;> rfl
theorem stX_a (f : Nat) (x : AP) (suf : List AP) : (stX f x suf).1 = x.1 := by
  unfold stX; split
  · rfl
  · exact gaX_a f x suf
theorem hdO_mid (pre : List AP) (x x' : AP) (s s' : List AP) (n n' : Option Nat) (h : x'.1 = x.1) : hdO (pre ++ x' :: s') n' = hdO (pre ++ x :: s) n := by
  rw [hdO_app, hdO_app]
  show hdO pre (some x'.1) = hdO pre (some x.1)
  rw [h]
theorem gaR_nil {suf : List AP} (h : gaM suf = []) : gaR suf = suf := by
  have h2 := gaMR suf
  rw [h] at h2
  exact h2
/-- the piece behind is the next one: nothing was gathered -/
theorem ga_same {suf : List AP} (hnd : (suf.map Prod.fst).Nodup) : hdO (gaR suf) none = hdO suf none ↔ gaM suf = [] := by
  constructor
  · intro h
    rcases hm : gaM suf with _ | ⟨y, M⟩
    · rfl
    · exfalso
      have h2 := gaMR suf
      rw [hm] at h2
      have h3 : hdO suf none = some y.1 := by rw [← h2]; rfl
      rw [h3] at h
      rcases hr : gaR suf with _ | ⟨z, R⟩
      · rw [hr] at h; cases h
      · rw [hr] at h
        have h4 : z.1 = y.1 := Option.some.inj h
        rw [hr] at h2
        rw [← h2, List.cons_append, List.map_cons, List.map_append, List.map_cons] at hnd
        exact (List.nodup_cons.mp hnd).1 (by rw [← h4]; simp)
  · intro h
    rw [gaR_nil h]
