/-! which tables are wanted -/
theorem k_lve {p : Program} {l : Launch} {e : Env} {R : Room} {s : State} {m : MethodId} {args : Array Value} {below : List Frame} {meth : Method} {c : Code} {D : va_G} {base nL : Nat} {Q : State → Prop} {V : gv_V} {cells slots pc : Nat} {lv lv' : List (Nat × Value)} {st : List Value} (h : lv = lv') (k : K p l e R s m args below meth c D base nL Q V cells slots lv' pc st) : K p l e R s m args below meth c D base nL Q V cells slots lv pc st := h ▸ k
def orA (w : Nat → Int32) (x b : Int32) : Nat → Int32 := if x = -1 then w else upd w x.toNatClampNeg (w x.toNatClampNeg ||| b)
def wst (qk : Nat → Nat) (nv : Nat → Nat → Int32) (w : Nat → Int32) (i : Nat) : Nat → Int32 := orA (orA w (nv i 1) (gbl (qk i) (nv i 13) (w i))) (nv i 2) (gbl (qk i) (nv i 13) (w i))
/-- from node m - 1 down -/
def wdn (qk : Nat → Nat) (nv : Nat → Nat → Int32) : Nat → (Nat → Int32) → Nat → Int32
  | 0, w => w
  | m + 1, w => wdn qk nv m (wst qk nv w m)
def wz (root : Nat) (w : Nat → Int32) : Nat → Int32 := fun j => if j < root then nI 0 else w j
def wnt (qk : Nat → Nat) (nv : Nat → Nat → Int32) (root : Nat) (w : Nat → Int32) : Nat → Int32 := wdn qk nv (root + 1) (upd (wz root w) root (nI 1))
theorem wz_s {k : Nat} {w : Nat → Int32} : upd (wz k w) k (nI 0) = wz (k + 1) w := by
  funext j
  simp only [upd, wz]
  by_cases h : j = k
  · rw [if_pos h, if_pos (by omega)]
  · rw [if_neg h]
    by_cases h2 : j < k
    · rw [if_pos h2, if_pos (by omega)]
    · rw [if_neg h2, if_neg (by omega)]
theorem wz_0 {w : Nat → Int32} : wz 0 w = w := by funext j; simp [wz]
theorem nI_m1 {k : Nat} : nI k + Int32.ofInt (-1) = nI k - 1 := by rw [Int32.sub_eq_add_neg]; rfl
theorem nI_mlt {m : Nat} (hm : m < 2 ^ 31) (h : ¬ nI m - 1 < 0) : ¬ m = 0 := fun e => by subst e; exact h (by decide)
