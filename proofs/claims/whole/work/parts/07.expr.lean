/-! bits (out of kit/laws/BITS.to-paste) -/
def bt (x : Int32) (i : Nat) : Bool := x.toBitVec.getLsbD i
theorem b_ext {x y : Int32} (h : ∀ i, i < 32 → bt x i = bt y i) : x = y := Int32.toBitVec_inj.mp (BitVec.eq_of_getLsbD_eq (fun i hi => h i hi))
theorem b_or (x y : Int32) (i : Nat) : bt (x ||| y) i = (bt x i || bt y i) := by unfold bt; rw [Int32.toBitVec_or, BitVec.getLsbD_or]
theorem b_and (x y : Int32) (i : Nat) : bt (x &&& y) i = (bt x i && bt y i) := by unfold bt; rw [Int32.toBitVec_and, BitVec.getLsbD_and]
theorem b_xor (x y : Int32) (i : Nat) : bt (x ^^^ y) i = (bt x i ^^ bt y i) := by unfold bt; rw [Int32.toBitVec_xor, BitVec.getLsbD_xor]
theorem b_big {x : Int32} {i : Nat} (h : 32 ≤ i) : bt x i = false := BitVec.getLsbD_of_ge _ _ h
theorem b_m1 : ∀ i, i < 32 → bt (-1) i = true := by decide +kernel
theorem b_0 (i : Nat) : bt 0 i = false := BitVec.getLsbD_zero
theorem s_l : ∀ n, n < 32 → ((nI n &&& 31).toBitVec.smod 32).toNat = n := by decide +kernel
theorem b_shl (n : Nat) (hn : n < 32) (x : Int32) {i : Nat} (hi : i < 32) : bt (x <<< (nI n &&& 31)) i = (decide (n ≤ i) && bt x (i - n)) := by
  unfold bt
  rw [Int32.toBitVec_shiftLeft]
  show (x.toBitVec <<< ((nI n &&& 31).toBitVec.smod 32).toNat).getLsbD i = _
  rw [s_l n hn, BitVec.getLsbD_shiftLeft]
  rcases Nat.lt_or_ge i n with h | h
  · simp [h, Nat.not_le.mpr h]
  · simp [hi, h, Nat.not_lt.mpr h]
theorem b_sshr (n : Nat) (hn : n < 32) (x : Int32) {i : Nat} (hi : i < 32) : bt (x >>> (nI n &&& 31)) i = if n + i < 32 then bt x (n + i) else bt x 31 := by
  unfold bt
  rw [Int32.toBitVec_shiftRight]
  show (x.toBitVec.sshiftRight ((nI n &&& 31).toBitVec.smod 32).toNat).getLsbD i = _
  rw [s_l n hn, BitVec.getLsbD_sshiftRight, BitVec.msb_eq_getLsbD_last]
  simp [hi]
theorem b_1 : ∀ i, i < 32 → bt 1 i = decide (i = 0) := by decide +kernel
theorem b_low (y : Int32) : (y &&& 1 == 0) = !bt y 0 := by
  cases h : bt y 0 with
  | false =>
    have e : y &&& 1 = 0 := b_ext (fun i hi => by
      rw [b_and, b_0, b_1 i hi]
      by_cases hz : i = 0
      · subst hz; rw [h]; rfl
      · rw [decide_eq_false hz, Bool.and_false])
    rw [e]; rfl
  | true =>
    have e : ¬ y &&& 1 = 0 := fun e => by
      have h2 := b_and y 1 0
      rw [e, b_0, h, b_1 0 (by decide)] at h2
      cases h2
    simpa using e
theorem inS_bt (x : Int32) {i : Nat} (hi : i < 32) : inS x (nI i) = bt x i := by
  unfold inS
  rw [b_low, Bool.not_not, b_sshr i hi x (i := 0) (by decide), if_pos (by omega)]
  rfl
theorem b_pow {n i : Nat} (hn : n < 32) (hi : i < 32) : bt (nI 1 <<< (nI n &&& 31)) i = decide (i = n) := by
  rw [b_shl n hn _ hi]
  rcases Nat.lt_or_ge i n with h | h
  · rw [decide_eq_false (by omega), decide_eq_false (by omega)]; rfl
  · rw [decide_eq_true h, show bt (nI 1) (i - n) = decide (i - n = 0) from b_1 _ (by omega)]
    by_cases hz : i = n
    · rw [decide_eq_true hz, decide_eq_true (by omega)]; rfl
    · rw [decide_eq_false hz, decide_eq_false (by omega)]; rfl
/-! expressions: kind (0 .. 8 an operation, 9 a constant, 10 a variable, 11 bound), first, second -/
abbrev Ex : Type := Nat × Int32 × Int32
def lgv (op : Nat) (x y : Int32) : Int32 :=
  if op = 6 ∧ (x = 0 ∨ y = 0) then 0 else if op = 7 ∧ (isT x = true ∨ isT y = true) then 1 else if x = oE ∨ y = oE then oE
  else if op = 8 then (if x = 0 then 1 else 0) else if op = 6 then 1 else 0
def nmb (op : Nat) (x y : Int32) : Int64 :=
  if x = oE ∨ y = oE then -2147483648 else if op = 0 then x.toInt64 + y.toInt64 else if op = 1 then x.toInt64 - y.toInt64 else if op = 2 then x.toInt64 * y.toInt64
  else if op = 3 then (if y = 0 then -2147483648 else (x / y).toInt64) else if op = 4 then (if x < y then 1 else 0) else (if x = y then 1 else 0)
def opv (op : Nat) (x y : Int32) : Int32 := if 6 ≤ op then lgv op x y else vOE (nmb op x y)
def lfv (q : Nat) (a : Int32) (r : Row) : Int32 := if q = 9 then a else if q = 10 then r a.toNatClampNeg else if r a.toNatClampNeg = oE then 0 else 1
def e1 (E : Nat → Ex) (r : Row) (vs : Nat → Int32) (k : Nat) : Int32 := if 9 ≤ (E k).1 then lfv (E k).1 (E k).2.1 r else opv (E k).1 (vs (E k).2.1.toNatClampNeg) (vs (if (E k).1 = 8 then (E k).2.1 else (E k).2.2).toNatClampNeg)
def evs (E : Nat → Ex) (r : Row) : Nat → Nat → Int32
  | 0 => fun _ => 0
  | k + 1 => upd (evs E r k) k (e1 E r (evs E r k) k)
def ev (E : Nat → Ex) (r : Row) (k : Nat) : Int32 := e1 E r (evs E r k) k
theorem evs_at {E : Nat → Ex} {r : Row} {j : Nat} : ∀ {m : Nat}, j < m → evs E r m j = ev E r j
  | 0, h => absurd h (Nat.not_lt_zero _)
  | m + 1, h => by
    simp only [evs, upd]
    by_cases hj : j = m
    · rw [if_pos hj, hj]; rfl
    · rw [if_neg hj]; exact evs_at (by omega)
/-- what the class keeps of the expressions -/
def ExR (E : Nat → Ex) (ne : Nat) (kd fs sc pt : Nat → Int32) : Prop := ne ≤ 30 ∧ ∀ k, k < ne → kd k = nI (E k).1 ∧ (E k).1 ≤ 11 ∧ bt (pt k) k = true ∧ (∀ i, bt (pt k) i = true → i ≤ k ∧ ∀ j, bt (pt i) j = true → bt (pt k) j = true) ∧
  ((E k).1 ≤ 8 → ∃ i1 i2, i1 < k ∧ i2 < k ∧ (E k).2.1 = nI i1 ∧ (if (E k).1 = 8 then (E k).2.1 else (E k).2.2) = nI i2 ∧ fs k = nI i1 ∧ sc k = nI i2 ∧ bt (pt k) i1 = true ∧ bt (pt k) i2 = true) ∧
  (9 ≤ (E k).1 → fs k = (E k).2.1 ∧ ((E k).1 = 9 ∨ ∃ v, v < 6 ∧ (E k).2.1 = nI v))
theorem inS_e {x v : Int32} : (x >>> (v &&& 31)) &&& nI 1 = 0 ↔ inS x v = false := by simp [inS, show nI 1 = 1 from rfl]
section EXR
variable {E : Nat → Ex} {ne : Nat} {kd fs sc pt : Nat → Int32}
theorem ExR.ki (h : ExR E ne kd fs sc pt) {k : Nat} (hk : k < ne) : kd k = nI (E k).1 := (h.2 k hk).1
theorem ExR.le (h : ExR E ne kd fs sc pt) {k : Nat} (hk : k < ne) : (E k).1 ≤ 11 := (h.2 k hk).2.1
theorem ExR.se (h : ExR E ne kd fs sc pt) {k : Nat} (hk : k < ne) : bt (pt k) k = true := (h.2 k hk).2.2.1
theorem ExR.tr (h : ExR E ne kd fs sc pt) {k i j : Nat} (hk : k < ne) (h1 : bt (pt k) i = true) (h2 : bt (pt i) j = true) : bt (pt k) j = true := ((h.2 k hk).2.2.2.1 i h1).2 j h2
theorem ExR.op (h : ExR E ne kd fs sc pt) {k : Nat} (hk : k < ne) (hq : (E k).1 ≤ 8) : ∃ i1 i2, i1 < k ∧ i2 < k ∧ (E k).2.1 = nI i1 ∧ (if (E k).1 = 8 then (E k).2.1 else (E k).2.2) = nI i2 ∧ fs k = nI i1 ∧ sc k = nI i2 ∧ bt (pt k) i1 = true ∧ bt (pt k) i2 = true := (h.2 k hk).2.2.2.2.1 hq
theorem ExR.lf (h : ExR E ne kd fs sc pt) {k : Nat} (hk : k < ne) (hq : 9 ≤ (E k).1) : fs k = (E k).2.1 := ((h.2 k hk).2.2.2.2.2 hq).1
theorem ExR.va (h : ExR E ne kd fs sc pt) {k : Nat} (hk : k < ne) (hq : 9 ≤ (E k).1) (h9 : ¬ (E k).1 = 9) : ∃ v, v < 6 ∧ (E k).2.1 = nI v := ((h.2 k hk).2.2.2.2.2 hq).2.resolve_left h9
end EXR
theorem ev_op {E : Nat → Ex} {r : Row} {k i1 i2 : Nat} (hk : k < 2 ^ 31) (hq : (E k).1 ≤ 8) (h1 : i1 < k) (h2 : i2 < k) (e1' : (E k).2.1 = nI i1) (e2 : (if (E k).1 = 8 then (E k).2.1 else (E k).2.2) = nI i2) : ev E r k = opv (E k).1 (ev E r i1) (ev E r i2) := by
  unfold ev e1
  rw [if_neg (by omega), e2, e1', nI_clamp (by omega), nI_clamp (by omega), evs_at h1, evs_at h2]
  rfl
theorem ev_lf {E : Nat → Ex} {r : Row} {k : Nat} (hq : 9 ≤ (E k).1) : ev E r k = lfv (E k).1 (E k).2.1 r := by
  unfold ev e1
  rw [if_pos hq]
theorem lfv_9 {a : Int32} {r : Row} : lfv 9 a r = a := rfl
theorem lfv_v {q v : Nat} {r : Row} (hv : v < 6) (hq : ¬ q = 9) : lfv q (nI v) r = if q = 10 then r v else if r v = oE then 0 else 1 := by
  unfold lfv
  rw [if_neg hq, nI_clamp (by omega)]
theorem ndp {l : List Nat} (h : l.Nodup) (i j : Nat) {x y : Nat} (hi : l[i]? = some x) (hj : l[j]? = some y) (hij : i ≠ j) : x ≠ y := fun e => by
  subst e
  have h1 := (List.getElem?_eq_some_iff.mp hi).1
  exact hij ((List.getElem?_inj h1 h).mp (hi.trans hj.symm))
theorem vl_nx {E : Nat → Ex} {r : Row} {vl : Nat → Int32} {P : Nat → Prop} {k : Nat} {x : Int32} (h : ∀ z, z < k → P z → vl z = ev E r z) (hx : x = ev E r k) : ∀ z, z < k + 1 → P z → upd vl k x z = ev E r z := fun z hz hp => by
  by_cases hk : z = k
  · subst hk; simp only [upd, if_pos]; exact hx
  · simp only [upd, if_neg hk]; exact h z (by omega) hp
