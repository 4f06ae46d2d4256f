/-! tables of nodes -/
def cap (L : List Row) : Option (List Row) := if L.length ≤ 80 then some L else none
def TRep (S : Option (List Row)) (n : Nat) (tl : Int32) (f : Nat → Int32) : Prop := match S with
  | none => ¬ tl = 0
  | some M => tl = 0 ∧ Tab M n f
theorem Rep.tr {M : List Row} {n : Nat} {tl : Int32} {f : Nat → Int32} (h : Rep M n tl f) : TRep (cap M) n tl f := by
  unfold cap
  by_cases hl : M.length ≤ 80
  · rw [if_pos hl]
    exact ⟨by rw [h.2.1, decide_eq_false (by omega)]; rfl, by have := h.1; omega, h.le, h.2.2⟩
  · rw [if_neg hl]
    show ¬ tl = 0
    rw [h.2.1, decide_eq_true (by omega)]
    decide
theorem cap_id {M : List Row} (h : M.length ≤ 80) : cap M = some M := if_pos h
def grX (v g : Nat) (x : Row) : Bool := x v == oE || x v == nI g
def grL (v g : Nat) (A : List Row) : List Row := (A.filter (grX v g)).map (extR v (nI g))
def opL (S : Option (List Row)) : List Row := S.getD []
/-- the rows over the graphs 1 .. g - 1 -/
def grP (S : Nat → Option (List Row)) (v : Nat) : Nat → List Row
  | 0 => []
  | g + 1 => if g = 0 then [] else grP S v g ++ grL v g (opL (S g))
def eachS (S : Nat → Option (List Row)) (v : Nat) : Option (List Row) := if (S 1).isNone ∨ (S 2).isNone ∨ (S 3).isNone then none else cap (grP S v 4)
theorem grL_s {v g : Nat} {A : List Row} {i : Nat} (h : i < A.length) : grL v g (A.take (i + 1)) = grL v g (A.take i) ++ if grX v g (rowAt A i) = true then [extR v (nI g) (rowAt A i)] else [] := by
  unfold grL
  rw [filt_s h, List.map_append]
  congr 1
  split <;> rfl
theorem grX_tk {f : Nat → Int32} {n v g : Nat} {x r : Row} (hv : v < 6) (hg : g < 4) (hr : eq6 r x) : (tk (wrk f n r 6) (n * 6 + v) (nI g) (n * 6 + v) == nI g) = grX v g x := by
  rw [tk_at, wrk_in hv, hr v hv]
  unfold grX
  by_cases h : x v = oE
  · rw [if_pos h, h]; simp
  · rw [if_neg h]; simp [h]
