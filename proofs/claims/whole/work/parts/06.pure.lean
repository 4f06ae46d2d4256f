/-! the pure words -/
abbrev oE : Int32 := -2147483648
/-- two addresses differ (omega doesn't look in here) -/
def nq (a b : Nat) : Prop := a ≠ b
theorem gv_uc {V : gv_V} {a b : Nat} {y z : va_E} (h : a ≠ b) : gv_up (gv_up V b z) a y = gv_up (gv_up V a y) b z := by
  funext q
  by_cases h1 : q = a
  · subst h1; rw [gv_up_s, gv_up_n h, gv_up_s]
  · rw [gv_up_n h1]
    by_cases h2 : q = b
    · subst h2; rw [gv_up_s, gv_up_s]
    · rw [gv_up_n h2, gv_up_n h2, gv_up_n h1]
theorem gv_id {V : gv_V} {a : Nat} {x : va_E} (h : V a = some x) : gv_up V a x = V := by
  funext q
  by_cases h1 : q = a
  · subst h1; rw [gv_up_s, h]
  · rw [gv_up_n h1]
theorem pi_of {x r : Int32} {V V1 : gv_V} (h : x = r) (hV : V1 = V) : pi r V (some (.int x)) V1 := ⟨by rw [h], hV⟩
theorem pl_of {x r : Int64} {V V1 : gv_V} (h : x = r) (hV : V1 = V) : pl r V (some (.long x)) V1 := ⟨by rw [h], hV⟩
theorem pr_of {x r : Nat} {V V1 : gv_V} (h : x = r) (hV : V1 = V) : pr r V (some (.ref x)) V1 := ⟨by rw [h], hV⟩
theorem pv_of {V V1 : gv_V} (hV : V1 = V) : pv V none V1 := ⟨rfl, hV⟩
def bI (b : Bool) : Int32 := if b then 1 else 0
theorem bI_0 {b : Bool} : bI b = 0 ↔ b = false := by cases b <;> simp [bI]
theorem bI_n {b : Bool} : ¬ bI b = 0 ↔ b = true := by cases b <;> simp [bI]
theorem bI_t {b : Bool} (h : b = true) : nI 1 = bI b := by rw [h]; rfl
theorem bI_f {b : Bool} (h : b = false) : nI 0 = bI b := by rw [h]; rfl
theorem bI_nar {b : Bool} : narrow .boolean (.int (bI b)) = .int (bI b) := by cases b <;> rfl
theorem bI_fit {b : Bool} : fits .boolean (.int (bI b)) = true := by cases b <;> rfl
/-- 0 ≤ x < y -/
def blw (x y : Int32) : Bool := decide (0 ≤ x) && decide (x < y)
def wtn (x : Int64) (y : Int32) : Bool := decide ((-y).toInt64 ≤ x) && decide (x ≤ y.toInt64)
theorem lg_lt {x y : Int64} : lg_cmp x y < 0 ↔ x < y := by
  unfold lg_cmp
  simp only [gt_iff_lt, Int64.lt_iff_toInt_lt, ← Int64.toInt_inj]
  repeat' split
  all_goals (constructor <;> intro hh <;> first | omega | decide | exact absurd hh (by decide))
theorem lg_gt {x y : Int64} : 0 < lg_cmp x y ↔ y < x := by
  unfold lg_cmp
  simp only [gt_iff_lt, Int64.lt_iff_toInt_lt, ← Int64.toInt_inj]
  repeat' split
  all_goals (constructor <;> intro hh <;> first | omega | decide | exact absurd hh (by decide))
def vOE (x : Int64) : Int32 := if wtn x 1000000000 = true then x.toInt32 else oE
def plc (x : Int32) : Bool := decide (-6 ≤ x) && decide (x < 1000)
def sln (x : Int32) : Bool := decide (0 ≤ x) && decide (x ≤ 1000)
def inS (set : Int32) (v : Int32) : Bool := !((set >>> (v &&& 31)) &&& 1 == 0)
def isT (x : Int32) : Bool := !(x == 0) && !(x == oE)
/-- all below n -/
def al (P : Nat → Bool) : Nat → Bool
  | 0 => true
  | k + 1 => al P k && P k
theorem al_iff {P : Nat → Bool} : ∀ {n : Nat}, al P n = true ↔ ∀ j, j < n → P j = true
  | 0 => ⟨fun _ _ h => absurd h (Nat.not_lt_zero _), fun _ => rfl⟩
  | n + 1 => by
    show (al P n && P n) = true ↔ _
    rw [Bool.and_eq_true, al_iff]
    exact ⟨fun h => lt_s h.1 h.2, fun h => ⟨fun j hj => h j (Nat.lt_succ_of_lt hj), h n (Nat.lt_succ_self n)⟩⟩
theorem al_no {P : Nat → Bool} {n j : Nat} (hj : j < n) (h : P j = false) : al P n = false := by
  cases h2 : al P n with
  | false => rfl
  | true => rw [al_iff.mp h2 j hj] at h; cases h
theorem al_nx {P : Nat → Bool} {k : Nat} (h : ∀ j, j < k → P j = true) (hk : P k = true) : ∀ j, j < k + 1 → P j = true := lt_s h hk
/-- a row: what the six variables have; oE is open -/
abbrev Row : Type := Nat → Int32
def rwf (f : Nat → Int32) (i : Nat) : Row := fun v => f (i * 6 + v)
def agP (x y : Row) (v : Nat) : Bool := x v == oE || y v == oE || x v == y v
def agr (x y : Row) : Bool := al (agP x y) 6
def shP (x y : Row) (v : Nat) : Bool := x v == oE || y v == oE
def shr (x y : Row) : Bool := !al (shP x y) 6
def lkP (set : Int32) (x y : Row) (v : Nat) : Bool := !inS set (nI v) || x v == y v
def lik (set : Int32) (x y : Row) : Bool := al (lkP set x y) 6
def tog (x y : Row) : Row := fun v => if x v = oE then y v else x v
def prj (set : Int32) (x : Row) : Row := fun v => if inS set (nI v) = true then x v else oE
def opn : Row := fun _ => oE
/-- the first k variables of a row are written as row n -/
def wrk (f : Nat → Int32) (n : Nat) (r : Row) (k : Nat) : Nat → Int32 := fun j => if n * 6 ≤ j ∧ j < n * 6 + k then r (j - n * 6) else f j
theorem wrk_0 {f : Nat → Int32} {n : Nat} {r : Row} : wrk f n r 0 = f := by
  funext j
  simp only [wrk]
  rw [if_neg (by omega)]
theorem wrk_s {f : Nat → Int32} {n k : Nat} {r : Row} {x : Int32} (hx : x = r k) : upd (wrk f n r k) (n * 6 + k) x = wrk f n r (k + 1) := by
  subst hx
  funext j
  simp only [wrk, upd]
  by_cases h : j = n * 6 + k
  · rw [if_pos h, if_pos (by omega), h]
    congr 1
    omega
  · rw [if_neg h]
    by_cases h2 : n * 6 ≤ j ∧ j < n * 6 + k
    · rw [if_pos h2, if_pos (by omega)]
    · rw [if_neg h2, if_neg (by omega)]
theorem wrk_lo {f : Nat → Int32} {n k j : Nat} {r : Row} (h : j < n * 6) : wrk f n r k j = f j := by
  simp only [wrk]
  rw [if_neg (by omega)]
theorem wrk_in {f : Nat → Int32} {n k v : Nat} {r : Row} (h : v < k) : wrk f n r k (n * 6 + v) = r v := by
  simp only [wrk]
  rw [if_pos (by omega)]
  congr 1
  omega
theorem rwf_wrk_lo {f : Nat → Int32} {n i : Nat} {r : Row} {v : Nat} (h : i < n) (hv : v < 6) : rwf (wrk f n r 6) i v = rwf f i v := wrk_lo (by omega)
theorem rwf_wrk_in {f : Nat → Int32} {n : Nat} {r : Row} {v : Nat} (hv : v < 6) : rwf (wrk f n r 6) n v = r v := wrk_in hv
def hasL (set : Int32) (f : Nat → Int32) (n : Nat) (x : Row) : Bool := !al (fun z => !lik set (rwf f z) x) n
def cnt (P : Nat → Bool) : Nat → Nat
  | 0 => 0
  | k + 1 => cnt P k + if P k = true then 1 else 0
def cntL (f : Nat → Int32) (n : Nat) (x : Row) : Nat := cnt (fun z => lik (nI 63) (rwf f z) x) n
theorem cnt_le {P : Nat → Bool} : ∀ n, cnt P n ≤ n
  | 0 => Nat.le_refl _
  | n + 1 => by
    have := cnt_le (P := P) n
    simp only [cnt]
    split <;> omega
theorem cntL_le (f : Nat → Int32) (n : Nat) (x : Row) : cntL f n x ≤ n := cnt_le n
def sbP (f : Nat → Int32) (n : Nat) (g : Nat → Int32) (m : Nat) (z : Nat) : Bool := cntL f n (rwf f z) == cntL g m (rwf f z)
def sbag (f : Nat → Int32) (n : Nat) (g : Nat → Int32) (m : Nat) : Bool := decide (n = m) && al (sbP f n g m) n
def tk (f : Nat → Int32) (j : Nat) (x : Int32) : Nat → Int32 := if f j = oE then upd f j x else f
theorem tk_at {f : Nat → Int32} {j : Nat} {x : Int32} : tk f j x j = if f j = oE then x else f j := by
  simp only [tk]
  split
  · simp [upd]
  · rfl
/-! lists of rows, and what stands for them -/
def eq6 (x y : Row) : Prop := ∀ v, v < 6 → x v = y v
theorem eq6.rf {x : Row} : eq6 x x := fun _ _ => rfl
theorem eq6.sm {x y : Row} (h : eq6 x y) : eq6 y x := fun v hv => (h v hv).symm
theorem eq6.tr {x y z : Row} (h : eq6 x y) (h2 : eq6 y z) : eq6 x z := fun v hv => (h v hv).trans (h2 v hv)
def rowAt (M : List Row) (i : Nat) : Row := M.getD i opn
theorem take_s {M : List Row} {i : Nat} (h : i < M.length) : M.take (i + 1) = M.take i ++ [rowAt M i] := by
  rw [List.take_succ_eq_append_getElem h, rowAt, List.getD_eq_getElem?_getD, List.getElem?_eq_getElem h]
  rfl
theorem rowAt_app {M : List Row} {r : Row} {i : Nat} (h : i < M.length) : rowAt (M ++ [r]) i = rowAt M i := by
  simp only [rowAt, List.getD_eq_getElem?_getD, List.getElem?_append_left h]
theorem rowAt_last {M : List Row} {r : Row} : rowAt (M ++ [r]) M.length = r := by
  simp [rowAt]
/-- n rows, flagged when there are more than 80, stand for the list -/
def Rep (M : List Row) (n : Nat) (tl : Int32) (f : Nat → Int32) : Prop := n = min M.length 80 ∧ tl = bI (decide (80 < M.length)) ∧ ∀ i, i < n → eq6 (rwf f i) (rowAt M i)
def Tab (M : List Row) (n : Nat) (f : Nat → Int32) : Prop := n = M.length ∧ n ≤ 80 ∧ ∀ i, i < n → eq6 (rwf f i) (rowAt M i)
theorem Rep.le {M : List Row} {n : Nat} {tl : Int32} {f : Nat → Int32} (h : Rep M n tl f) : n ≤ 80 := by rw [h.1]; omega
theorem Rep.add {M : List Row} {n : Nat} {tl : Int32} {f : Nat → Int32} {r r2 : Row} (h : Rep M n tl f) (hr : eq6 r2 r) : Rep (M ++ [r]) (if n = 80 then 80 else n + 1) (if n = 80 then 1 else tl) (wrk f n r2 6) := by
  obtain ⟨h1, h2, h3⟩ := h
  have hl : (M ++ [r]).length = M.length + 1 := by simp
  by_cases hn : n = 80
  · rw [if_pos hn, if_pos hn]
    refine ⟨by omega, ?_, fun i hi v hv => ?_⟩
    · rw [hl, decide_eq_true (by omega)]; rfl
    · rw [rwf_wrk_lo (by omega) hv, rowAt_app (by omega)]
      exact h3 i (by omega) v hv
  · rw [if_neg hn, if_neg hn]
    have hM : n = M.length := by omega
    refine ⟨by omega, ?_, fun i hi v hv => ?_⟩
    · rw [h2, hl, decide_eq_false (by omega), decide_eq_false (by omega)]
    · rcases Nat.lt_or_ge i n with h | h
      · rw [rwf_wrk_lo h hv, rowAt_app (by omega)]
        exact h3 i h v hv
      · rw [show i = n by omega, rwf_wrk_in hv, hM, rowAt_last]
        exact hr v hv
theorem inS_63 {v : Nat} (h : v < 6) : inS (nI 63) (nI v) = true := by
  rcases (show v = 0 ∨ v = 1 ∨ v = 2 ∨ v = 3 ∨ v = 4 ∨ v = 5 by omega) with rfl | rfl | rfl | rfl | rfl | rfl <;> decide
theorem eq6_prj {x y : Row} (h : eq6 x y) : eq6 (prj (nI 63) x) y := fun v hv => by
  simp only [prj]
  rw [if_pos (inS_63 hv)]
  exact h v hv
