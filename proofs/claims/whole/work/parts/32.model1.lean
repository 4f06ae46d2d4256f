/-! the reference -/
def wi (x lo hi : Int32) : Bool := decide (lo ≤ x) && decide (x ≤ hi)
theorem wi_b {x : Int32} {n : Nat} (hn : n + 1 < 2 ^ 31) : wi x (nI 0) (nI n) = blw x (nI (n + 1)) := by
  unfold wi blw
  rw [show nI 0 = 0 from rfl]
  cases h : decide (0 ≤ x) with
  | false => simp only [Bool.false_and]
  | true =>
    simp only [Bool.true_and]
    obtain ⟨j, hj, rfl⟩ := nI_of (Int32.not_lt.mpr (of_decide_eq_true h))
    have h1 := nI_leI (a := j) (b := n) hj (by omega)
    have h2 := nI_ltI (a := j) (b := n + 1) hj (by omega)
    by_cases hz : j ≤ n
    · rw [decide_eq_true (h1.mpr hz), decide_eq_true (h2.mpr (by omega))]
    · rw [decide_eq_false (fun z => hz (h1.mp z)), decide_eq_false (fun z => hz (by have := h2.mp z; omega))]
theorem wi_s {x : Int32} : wi x (nI 0) (nI 1000) = sln x := rfl
theorem wi_p {x : Int32} : wi x (-6) (nI 999) = plc x := by
  unfold wi plc
  congr 1
  have e : x ≤ nI 999 ↔ x < 1000 := by
    rw [Int32.le_iff_toInt_le, Int32.lt_iff_toInt_lt]
    have h1 : (nI 999).toInt = 999 := by decide
    have h2 : (1000 : Int32).toInt = 1000 := by decide
    omega
  simp [e]
theorem wi_w {y : Int32} : wi y (-1000000) 1000000 = wtn y.toInt64 (1000000 : Int32) := by
  unfold wi wtn
  have h1 : (-1000000 : Int32) ≤ y ↔ (-(1000000 : Int32)).toInt64 ≤ y.toInt64 := by
    rw [Int32.le_iff_toInt_le, Int64.le_iff_toInt_le, Int32.toInt_toInt64, Int32.toInt_toInt64]
  have h2 : y ≤ (1000000 : Int32) ↔ y.toInt64 ≤ (1000000 : Int32).toInt64 := by
    rw [Int32.le_iff_toInt_le, Int64.le_iff_toInt_le, Int32.toInt_toInt64, Int32.toInt_toInt64]
  simp [h1, h2]
theorem vOE_b {x : Int64} : vOE x = if x < -1000000000 ∨ 1000000000 < x then oE else x.toInt32 := by
  unfold vOE wtn
  have e1 : (-(1000000000 : Int32)).toInt64 = -1000000000 := by decide
  have e2 : (1000000000 : Int32).toInt64 = 1000000000 := by decide
  rw [e1, e2]
  by_cases h1 : x < -1000000000
  · rw [decide_eq_false (Int64.not_le.mpr h1), if_pos (Or.inl h1)]; rfl
  · rw [decide_eq_true (Int64.not_lt.mp h1)]
    by_cases h2 : 1000000000 < x
    · rw [decide_eq_false (Int64.not_le.mpr h2), if_pos (Or.inr h2)]; rfl
    · rw [decide_eq_true (Int64.not_lt.mp h2)]; simp [h1, h2]
theorem div_l {x y : Int32} (hx : ¬ x = oE) : x.toInt64 / y.toInt64 = (x / y).toInt64 := by
  apply Int64.toInt_inj.mp
  rw [Int64.toInt_div, Int32.toInt_toInt64, Int32.toInt_toInt64, Int32.toInt_toInt64, Int32.toInt_div]
  have h1 := Int32.le_toInt x
  have h2 := Int32.toInt_lt x
  have h3 : ¬ x.toInt = -2147483648 := fun h => hx (Int32.toInt_inj.mp (by rw [h]; decide))
  have h4 : (x.toInt.tdiv y.toInt).natAbs ≤ x.toInt.natAbs := by rw [Int.natAbs_tdiv]; exact Nat.div_le_self _ _
  rw [Int.bmod_eq_of_le (by omega) (by omega), Int.bmod_eq_of_le (by omega) (by omega)]
theorem vOE_E : vOE (-2147483648) = -2147483648 := by decide
theorem vOE_0 : vOE 0 = 0 := by decide
theorem vOE_1 : vOE 1 = 1 := by decide
/-- what the reference keeps of the expressions -/
def MA (E : Nat → Ex) (ne : Nat) (fa : Nat → Int32) : Prop := ne ≤ 30 ∧ ∀ k, k < ne → (E k).1 ≤ 11 ∧ fa (3 * k) = nI (if 9 ≤ (E k).1 then (E k).1 - 9 else 10 + (E k).1) ∧ fa (3 * k + 1) = (E k).2.1 ∧ fa (3 * k + 2) = (E k).2.2 ∧ ((E k).1 ≤ 8 → (∃ i1, i1 < k ∧ (E k).2.1 = nI i1) ∧ (¬ (E k).1 = 8 → ∃ i2, i2 < k ∧ (E k).2.2 = nI i2)) ∧ (10 ≤ (E k).1 → ∃ v, v < 6 ∧ (E k).2.1 = nI v)
/-- what the reference keeps of the triples -/
def MT (T : List Tr) (nt : Nat) (ft : Nat → Int32) : Prop := nt = T.length ∧ nt ≤ 60 ∧ ∀ i, i < nt → ft (4 * i) = (trAt T i).1 ∧ ft (4 * i + 1) = (trAt T i).2.1 ∧ ft (4 * i + 2) = (trAt T i).2.2.1 ∧ ft (4 * i + 3) = (trAt T i).2.2.2
theorem MT.add {T : List Tr} {nt : Nat} {ft : Nat → Int32} {g s p o : Int32} (h : MT T nt ft) (hn : nt < 60) : MT (T ++ [(g, s, p, o)]) (nt + 1) (upd (upd (upd (upd ft (4 * nt) g) (4 * nt + 1) s) (4 * nt + 2) p) (4 * nt + 3) o) := by
  obtain ⟨h1, h2, h3⟩ := h
  refine ⟨by simp [h1], by omega, fun i hi => ?_⟩
  by_cases hk : i = nt
  · subst hk
    have : trAt (T ++ [(g, s, p, o)]) i = (g, s, p, o) := by simp [trAt, h1]
    rw [this]
    simp [upd]
  · have : trAt (T ++ [(g, s, p, o)]) i = trAt T i := by simp only [trAt, List.getD_eq_getElem?_getD, List.getElem?_append_left (show i < T.length by omega)]
    rw [this]
    have h4 := h3 i (by omega)
    simp only [upd]
    rw [if_neg (by omega), if_neg (by omega), if_neg (by omega), if_neg (by omega), if_neg (by omega), if_neg (by omega), if_neg (by omega), if_neg (by omega), if_neg (by omega), if_neg (by omega), if_neg (by omega), if_neg (by omega), if_neg (by omega), if_neg (by omega), if_neg (by omega), if_neg (by omega)]
    exact h4
theorem MA.add {E : Nat → Ex} {ne : Nat} {fa : Nat → Int32} (h : MA E ne fa) (hn : ne < 30) {q : Nat} {k a b : Int32} (hq : q ≤ 11) (hk : k = nI (if 9 ≤ q then q - 9 else 10 + q)) (hop : q ≤ 8 → (∃ i1, i1 < ne ∧ a = nI i1) ∧ (¬ q = 8 → ∃ i2, i2 < ne ∧ b = nI i2)) (hlf : 10 ≤ q → ∃ v, v < 6 ∧ a = nI v) : MA (va_up E ne (q, a, b)) (ne + 1) (upd (upd (upd fa (3 * ne) k) (3 * ne + 1) a) (3 * ne + 2) b) := by
  refine ⟨by omega, fun i hi => ?_⟩
  by_cases hin : i = ne
  · subst hin
    have e : va_up E i (q, a, b) i = (q, a, b) := by simp [va_up]
    rw [e]
    refine ⟨hq, ?_, ?_, ?_, hop, hlf⟩
    · simp [upd, hk]
    · simp [upd]
    · simp [upd]
  · have e : va_up E ne (q, a, b) i = E i := by simp [va_up, hin]
    rw [e]
    have hi2 : i < ne := by omega
    have a1 : ¬ 3 * i = 3 * ne + 2 := by omega
    have a2 : ¬ 3 * i = 3 * ne + 1 := by omega
    have a3 : ¬ 3 * i = 3 * ne := by omega
    have a4 : ¬ 3 * i + 1 = 3 * ne + 2 := by omega
    have a5 : ¬ 3 * i + 1 = 3 * ne + 1 := by omega
    have a6 : ¬ 3 * i + 1 = 3 * ne := by omega
    have a7 : ¬ 3 * i + 2 = 3 * ne + 2 := by omega
    have a8 : ¬ 3 * i + 2 = 3 * ne + 1 := by omega
    have a9 : ¬ 3 * i + 2 = 3 * ne := by omega
    have h2 := h.2 i hi2
    simp only [upd]
    exact ⟨h2.1, by rw [if_neg a1, if_neg a2, if_neg a3]; exact h2.2.1, by rw [if_neg a4, if_neg a5, if_neg a6]; exact h2.2.2.1, by rw [if_neg a7, if_neg a8, if_neg a9]; exact h2.2.2.2.1, h2.2.2.2.2⟩
section MAX
variable {E : Nat → Ex} {ne : Nat} {fa : Nat → Int32}
theorem MA.le (h : MA E ne fa) {k : Nat} (hk : k < ne) : (E k).1 ≤ 11 := (h.2 k hk).1
theorem MA.op1 (h : MA E ne fa) {k : Nat} (hk : k < ne) (hq : (E k).1 ≤ 8) : ∃ i1, i1 < k ∧ (E k).2.1 = nI i1 := ((h.2 k hk).2.2.2.2.1 hq).1
theorem MA.op2 (h : MA E ne fa) {k : Nat} (hk : k < ne) (hq : (E k).1 ≤ 8) (h8 : ¬ (E k).1 = 8) : ∃ i2, i2 < k ∧ (E k).2.2 = nI i2 := ((h.2 k hk).2.2.2.2.1 hq).2 h8
theorem MA.va (h : MA E ne fa) {k : Nat} (hk : k < ne) (hq : 10 ≤ (E k).1) : ∃ v, v < 6 ∧ (E k).2.1 = nI v := (h.2 k hk).2.2.2.2.2 hq
end MAX
set_option maxHeartbeats 4000000 in
set_option maxRecDepth 100000 in
theorem c_X7_within {zl : Launch} {D : va_G} {cI cN cR : ClassId} {base : Nat} {V : gv_V} {x y z : Int32}    : ct zl D [(cI, .int), (cN, .object "AlgebraTree$Node"), (cR, .object "AlgebraTree$Rows")] base yX7_within cX7_within 3 (some .boolean) 0 0 0 [.int x, .int y, .int z] V (pi (bI (wi x y z)) V) := by
  refine ct_of "AlgebraTreeModel" rfl (by decide) (Nat.le_of_ble_eq_true rfl) ?_
  intro zp ze zs zm zargs zbelow zmeth zc C zr zlk znm
  refine k_pc (pc' := 0) (st' := []) rfl rfl ?_
  show K zp zl ze (gv_rm 0 0 0) zs zm zargs zbelow zmeth zc D base 3 (gv_E D [(cI, .int), (cN, .object "AlgebraTree$Node"), (cR, .object "AlgebraTree$Rows")] base zbelow zargs zs 0 0 (pi (bI (wi x y z)) V)) V 0 0 [(0, .int x), (1, .int y), (2, .int z)] 0 []
  refine k_iload_n C dX7_within_0 rfl 0 rfl ?_
  refine k_iload_n C dX7_within_1 rfl 1 rfl ?_
  refine k_icmp_lt (tgt := 14) C dX7_within_2 (by decide) (fun c2 => ?_) (fun c2 => ?_)
  · skip
    refine k_iconst (v := nI 0) C dX7_within_14 rfl ?_
    exact k_zret C zr zlk rfl (pi_of (by first | exact bI_t (by grind [wi]) | exact bI_f (by grind [wi])) rfl) (Nat.le_refl _) (Nat.le_refl _) dX7_within_15
  · skip
    refine k_iload_n C dX7_within_5 rfl 0 rfl ?_
    refine k_iload_n C dX7_within_6 rfl 2 rfl ?_
    refine k_icmp_gt (tgt := 14) C dX7_within_7 (by decide) (fun c7 => ?_) (fun c7 => ?_)
    · skip
      refine k_iconst (v := nI 0) C dX7_within_14 rfl ?_
      exact k_zret C zr zlk rfl (pi_of (by first | exact bI_t (by grind [wi]) | exact bI_f (by grind [wi])) rfl) (Nat.le_refl _) (Nat.le_refl _) dX7_within_15
    · skip
      refine k_iconst (v := nI 1) C dX7_within_10 rfl ?_
      refine k_goto (tgt := 15) C dX7_within_11 (by decide) ?_
      exact k_zret C zr zlk rfl (pi_of (by first | exact bI_t (by grind [wi]) | exact bI_f (by grind [wi])) rfl) (Nat.le_refl _) (Nat.le_refl _) dX7_within_15
set_option maxHeartbeats 4000000 in
set_option maxRecDepth 100000 in
theorem c_X7_isVariable {zl : Launch} {D : va_G} {cI cN cR : ClassId} {base : Nat} {V : gv_V} {x : Int32}    : ct zl D [(cI, .int), (cN, .object "AlgebraTree$Node"), (cR, .object "AlgebraTree$Rows")] base yX7_isVariable cX7_isVariable 1 (some .boolean) 0 0 0 [.int x] V (pi (bI (blw x (nI 6))) V) := by
  refine ct_of "AlgebraTreeModel" rfl (by decide) (Nat.le_of_ble_eq_true rfl) ?_
  intro zp ze zs zm zargs zbelow zmeth zc C zr zlk znm
  refine k_pc (pc' := 0) (st' := []) rfl rfl ?_
  show K zp zl ze (gv_rm 0 0 0) zs zm zargs zbelow zmeth zc D base 1 (gv_E D [(cI, .int), (cN, .object "AlgebraTree$Node"), (cR, .object "AlgebraTree$Rows")] base zbelow zargs zs 0 0 (pi (bI (blw x (nI 6))) V)) V 0 0 [(0, .int x)] 0 []
  refine k_iload_n C dX7_isVariable_0 rfl 0 rfl ?_
  refine k_if_lt (tgt := 14) C dX7_isVariable_1 (by decide) (fun c1 => ?_) (fun c1 => ?_)
  · skip
    refine k_iconst (v := nI 0) C dX7_isVariable_14 rfl ?_
    exact k_zret C zr zlk rfl (pi_of (by first | exact bI_t (by grind [blw]) | exact bI_f (by grind [blw])) rfl) (Nat.le_refl _) (Nat.le_refl _) dX7_isVariable_15
  · skip
    refine k_iload_n C dX7_isVariable_4 rfl 0 rfl ?_
    refine k_bipush (v := nI 6) C dX7_isVariable_5 rfl ?_
    refine k_icmp_ge (tgt := 14) C dX7_isVariable_7 (by decide) (fun c7 => ?_) (fun c7 => ?_)
    · skip
      refine k_iconst (v := nI 0) C dX7_isVariable_14 rfl ?_
      exact k_zret C zr zlk rfl (pi_of (by first | exact bI_t (by grind [blw]) | exact bI_f (by grind [blw])) rfl) (Nat.le_refl _) (Nat.le_refl _) dX7_isVariable_15
    · skip
      refine k_iconst (v := nI 1) C dX7_isVariable_10 rfl ?_
      refine k_goto (tgt := 15) C dX7_isVariable_11 (by decide) ?_
      exact k_zret C zr zlk rfl (pi_of (by first | exact bI_t (by grind [blw]) | exact bI_f (by grind [blw])) rfl) (Nat.le_refl _) (Nat.le_refl _) dX7_isVariable_15
set_option maxHeartbeats 4000000 in
set_option maxRecDepth 100000 in
theorem c_X7_isExpression {zl : Launch} {D : va_G} {cI cN cR : ClassId} {base : Nat} {V : gv_V} {m wt wa wv wm wr wc wn ws wk wp nt ne nn sh : Nat} {kn : Int32} {x : Int32}  (h_m : V m = some (.inr (7, [.int (nI nt), .ref wt, .int (nI ne), .ref wa, .ref wv, .int (nI nn), .ref wm, .int kn, .ref wr, .ref wc, .ref wn, .int (nI sh), .ref ws, .ref wk, .ref wp])))  : ct zl D [(cI, .int), (cN, .object "AlgebraTree$Node"), (cR, .object "AlgebraTree$Rows")] base yX7_isExpression cX7_isExpression 2 (some .boolean) 0 0 0 [.ref m, .int x] V (pi (bI (blw x (nI ne))) V) := by
  refine ct_of "AlgebraTreeModel" rfl (by decide) (Nat.le_of_ble_eq_true rfl) ?_
  intro zp ze zs zm zargs zbelow zmeth zc C zr zlk znm
  refine k_pc (pc' := 0) (st' := []) rfl rfl ?_
  show K zp zl ze (gv_rm 0 0 0) zs zm zargs zbelow zmeth zc D base 2 (gv_E D [(cI, .int), (cN, .object "AlgebraTree$Node"), (cR, .object "AlgebraTree$Rows")] base zbelow zargs zs 0 0 (pi (bI (blw x (nI ne))) V)) V 0 0 [(0, .ref m), (1, .int x)] 0 []
  refine k_iload_n C dX7_isExpression_0 rfl 1 rfl ?_
  refine k_if_lt (tgt := 16) C dX7_isExpression_1 (by decide) (fun c1 => ?_) (fun c1 => ?_)
  · skip
    refine k_iconst (v := nI 0) C dX7_isExpression_16 rfl ?_
    exact k_zret C zr zlk rfl (pi_of (by first | exact bI_t (by grind [blw]) | exact bI_f (by grind [blw])) rfl) (Nat.le_refl _) (Nat.le_refl _) dX7_isExpression_17
  · skip
    refine k_iload_n C dX7_isExpression_4 rfl 1 rfl ?_
    refine k_aload_n C dX7_isExpression_5 rfl 0 rfl ?_
    refine k_get (ci := 7) (k := 2) C fl_7_53 h_m rfl dX7_isExpression_6 ?_
    refine k_icmp_ge (tgt := 16) C dX7_isExpression_9 (by decide) (fun c9 => ?_) (fun c9 => ?_)
    · skip
      refine k_iconst (v := nI 0) C dX7_isExpression_16 rfl ?_
      exact k_zret C zr zlk rfl (pi_of (by first | exact bI_t (by grind [blw]) | exact bI_f (by grind [blw])) rfl) (Nat.le_refl _) (Nat.le_refl _) dX7_isExpression_17
    · skip
      refine k_iconst (v := nI 1) C dX7_isExpression_12 rfl ?_
      refine k_goto (tgt := 17) C dX7_isExpression_13 (by decide) ?_
      exact k_zret C zr zlk rfl (pi_of (by first | exact bI_t (by grind [blw]) | exact bI_f (by grind [blw])) rfl) (Nat.le_refl _) (Nat.le_refl _) dX7_isExpression_17
set_option maxHeartbeats 4000000 in
set_option maxRecDepth 100000 in
theorem c_X7_isNode {zl : Launch} {D : va_G} {cI cN cR : ClassId} {base : Nat} {V : gv_V} {m wt wa wv wm wr wc wn ws wk wp nt ne nn sh : Nat} {kn : Int32} {x : Int32}  (h_m : V m = some (.inr (7, [.int (nI nt), .ref wt, .int (nI ne), .ref wa, .ref wv, .int (nI nn), .ref wm, .int kn, .ref wr, .ref wc, .ref wn, .int (nI sh), .ref ws, .ref wk, .ref wp])))  : ct zl D [(cI, .int), (cN, .object "AlgebraTree$Node"), (cR, .object "AlgebraTree$Rows")] base yX7_isNode cX7_isNode 2 (some .boolean) 0 0 0 [.ref m, .int x] V (pi (bI (blw x (nI nn))) V) := by
  refine ct_of "AlgebraTreeModel" rfl (by decide) (Nat.le_of_ble_eq_true rfl) ?_
  intro zp ze zs zm zargs zbelow zmeth zc C zr zlk znm
  refine k_pc (pc' := 0) (st' := []) rfl rfl ?_
  show K zp zl ze (gv_rm 0 0 0) zs zm zargs zbelow zmeth zc D base 2 (gv_E D [(cI, .int), (cN, .object "AlgebraTree$Node"), (cR, .object "AlgebraTree$Rows")] base zbelow zargs zs 0 0 (pi (bI (blw x (nI nn))) V)) V 0 0 [(0, .ref m), (1, .int x)] 0 []
  refine k_iload_n C dX7_isNode_0 rfl 1 rfl ?_
  refine k_if_lt (tgt := 16) C dX7_isNode_1 (by decide) (fun c1 => ?_) (fun c1 => ?_)
  · skip
    refine k_iconst (v := nI 0) C dX7_isNode_16 rfl ?_
    exact k_zret C zr zlk rfl (pi_of (by first | exact bI_t (by grind [blw]) | exact bI_f (by grind [blw])) rfl) (Nat.le_refl _) (Nat.le_refl _) dX7_isNode_17
  · skip
    refine k_iload_n C dX7_isNode_4 rfl 1 rfl ?_
    refine k_aload_n C dX7_isNode_5 rfl 0 rfl ?_
    refine k_get (ci := 7) (k := 5) C fl_7_85 h_m rfl dX7_isNode_6 ?_
    refine k_icmp_ge (tgt := 16) C dX7_isNode_9 (by decide) (fun c9 => ?_) (fun c9 => ?_)
    · skip
      refine k_iconst (v := nI 0) C dX7_isNode_16 rfl ?_
      exact k_zret C zr zlk rfl (pi_of (by first | exact bI_t (by grind [blw]) | exact bI_f (by grind [blw])) rfl) (Nat.le_refl _) (Nat.le_refl _) dX7_isNode_17
    · skip
      refine k_iconst (v := nI 1) C dX7_isNode_12 rfl ?_
      refine k_goto (tgt := 17) C dX7_isNode_13 (by decide) ?_
      exact k_zret C zr zlk rfl (pi_of (by first | exact bI_t (by grind [blw]) | exact bI_f (by grind [blw])) rfl) (Nat.le_refl _) (Nat.le_refl _) dX7_isNode_17
set_option maxHeartbeats 4000000 in
set_option maxRecDepth 100000 in
theorem c_X7_isShown {zl : Launch} {D : va_G} {cI cN cR : ClassId} {base : Nat} {V : gv_V} {m wt wa wv wm wr wc wn ws wk wp nt ne nn sh : Nat} {kn : Int32} {x : Int32}  (h_m : V m = some (.inr (7, [.int (nI nt), .ref wt, .int (nI ne), .ref wa, .ref wv, .int (nI nn), .ref wm, .int kn, .ref wr, .ref wc, .ref wn, .int (nI sh), .ref ws, .ref wk, .ref wp])))  : ct zl D [(cI, .int), (cN, .object "AlgebraTree$Node"), (cR, .object "AlgebraTree$Rows")] base yX7_isShown cX7_isShown 2 (some .boolean) 0 0 0 [.ref m, .int x] V (pi (bI (blw x (nI sh))) V) := by
  refine ct_of "AlgebraTreeModel" rfl (by decide) (Nat.le_of_ble_eq_true rfl) ?_
  intro zp ze zs zm zargs zbelow zmeth zc C zr zlk znm
  refine k_pc (pc' := 0) (st' := []) rfl rfl ?_
  show K zp zl ze (gv_rm 0 0 0) zs zm zargs zbelow zmeth zc D base 2 (gv_E D [(cI, .int), (cN, .object "AlgebraTree$Node"), (cR, .object "AlgebraTree$Rows")] base zbelow zargs zs 0 0 (pi (bI (blw x (nI sh))) V)) V 0 0 [(0, .ref m), (1, .int x)] 0 []
  refine k_iload_n C dX7_isShown_0 rfl 1 rfl ?_
  refine k_if_lt (tgt := 16) C dX7_isShown_1 (by decide) (fun c1 => ?_) (fun c1 => ?_)
  · skip
    refine k_iconst (v := nI 0) C dX7_isShown_16 rfl ?_
    exact k_zret C zr zlk rfl (pi_of (by first | exact bI_t (by grind [blw]) | exact bI_f (by grind [blw])) rfl) (Nat.le_refl _) (Nat.le_refl _) dX7_isShown_17
  · skip
    refine k_iload_n C dX7_isShown_4 rfl 1 rfl ?_
    refine k_aload_n C dX7_isShown_5 rfl 0 rfl ?_
    refine k_get (ci := 7) (k := 11) C fl_7_178 h_m rfl dX7_isShown_6 ?_
    refine k_icmp_ge (tgt := 16) C dX7_isShown_9 (by decide) (fun c9 => ?_) (fun c9 => ?_)
    · skip
      refine k_iconst (v := nI 0) C dX7_isShown_16 rfl ?_
      exact k_zret C zr zlk rfl (pi_of (by first | exact bI_t (by grind [blw]) | exact bI_f (by grind [blw])) rfl) (Nat.le_refl _) (Nat.le_refl _) dX7_isShown_17
    · skip
      refine k_iconst (v := nI 1) C dX7_isShown_12 rfl ?_
      refine k_goto (tgt := 17) C dX7_isShown_13 (by decide) ?_
      exact k_zret C zr zlk rfl (pi_of (by first | exact bI_t (by grind [blw]) | exact bI_f (by grind [blw])) rfl) (Nat.le_refl _) (Nat.le_refl _) dX7_isShown_17
set_option maxHeartbeats 4000000 in
set_option maxRecDepth 100000 in
theorem c_X7_isPart {zl : Launch} {D : va_G} {cI cN cR : ClassId} {base : Nat} {V : gv_V} {x : Int32}    : ct zl D [(cI, .int), (cN, .object "AlgebraTree$Node"), (cR, .object "AlgebraTree$Rows")] base yX7_isPart cX7_isPart 1 (some .boolean) 1 0 0 [.int x] V (pi (bI (plc x)) V) := by
  refine ct_of "AlgebraTreeModel" rfl (by decide) (Nat.le_of_ble_eq_true rfl) ?_
  intro zp ze zs zm zargs zbelow zmeth zc C zr zlk znm
  refine k_pc (pc' := 0) (st' := []) rfl rfl ?_
  show K zp zl ze (gv_rm 1 0 0) zs zm zargs zbelow zmeth zc D base 1 (gv_E D [(cI, .int), (cN, .object "AlgebraTree$Node"), (cR, .object "AlgebraTree$Rows")] base zbelow zargs zs 0 0 (pi (bI (plc x)) V)) V 0 0 [(0, .int x)] 0 []
  refine k_iload_n C dX7_isPart_0 rfl 0 rfl ?_
  refine k_bipush (v := (-6 : Int32)) C dX7_isPart_1 (by decide) ?_
  refine k_sipush (v := nI 999) C dX7_isPart_3 rfl ?_
  refine k_callS_pi C ms_7_45 (c_X7_within   ) rfl rfl (by simp [Value.category]) ⟨Nat.le_of_ble_eq_true rfl, Nat.le_of_ble_eq_true rfl⟩ ⟨(by decide), (by decide)⟩ dX7_isPart_6 ?_
  exact k_zret C zr zlk bI_nar (pi_of (by rw [← wi_p]) rfl) (Nat.le_refl _) (Nat.le_refl _) dX7_isPart_9
set_option maxHeartbeats 4000000 in
set_option maxRecDepth 100000 in
theorem c_X7_bounded {zl : Launch} {D : va_G} {cI cN cR : ClassId} {base : Nat} {V : gv_V} {x : Int64}    : ct zl D [(cI, .int), (cN, .object "AlgebraTree$Node"), (cR, .object "AlgebraTree$Rows")] base yX7_bounded cX7_bounded 2 (some .int) 0 0 0 [.long x] V (pi (vOE x) V) := by
  refine ct_of "AlgebraTreeModel" rfl (by decide) (Nat.le_of_ble_eq_true rfl) ?_
  intro zp ze zs zm zargs zbelow zmeth zc C zr zlk znm
  refine k_pc (pc' := 0) (st' := []) rfl rfl ?_
  show K zp zl ze (gv_rm 0 0 0) zs zm zargs zbelow zmeth zc D base 2 (gv_E D [(cI, .int), (cN, .object "AlgebraTree$Node"), (cR, .object "AlgebraTree$Rows")] base zbelow zargs zs 0 0 (pi (vOE x) V)) V 0 0 [(0, .long x)] 0 []
  refine k_lload_n C dX7_bounded_0 rfl 0 rfl ?_
  refine k_ldc2 (v := (-1000000000)) C wd_831 dX7_bounded_1 ?_
  refine k_lcmp C dX7_bounded_4 ?_
  refine k_if_lt (tgt := 16) C dX7_bounded_5 (by decide) (fun c5 => ?_) (fun c5 => ?_)
  · skip
    refine k_ldc (v := (-2147483648)) C wd_784 dX7_bounded_16 ?_
    refine k_goto (tgt := 23) C dX7_bounded_18 (by decide) ?_
    exact k_iret C zr zlk (pi_of (by rw [vOE_b]; first | rw [if_pos (Or.inl (lg_lt.mp c5))] | rw [if_pos (Or.inr (lg_gt.mp (Int32.not_le.mp c13)))] | rw [if_neg (fun h => h.elim (fun h => c5 (lg_lt.mpr h)) (fun h => absurd (lg_gt.mpr h) (Int32.not_lt.mpr c13)))]) rfl) (Nat.le_refl _) (Nat.le_refl _) dX7_bounded_23
  · skip
    refine k_lload_n C dX7_bounded_8 rfl 0 rfl ?_
    refine k_ldc2 (v := (1000000000)) C wd_832 dX7_bounded_9 ?_
    refine k_lcmp C dX7_bounded_12 ?_
    refine k_if_le (tgt := 21) C dX7_bounded_13 (by decide) (fun c13 => ?_) (fun c13 => ?_)
    · skip
      refine k_lload_n C dX7_bounded_21 rfl 0 rfl ?_
      refine k_l2i C dX7_bounded_22 rfl ?_
      exact k_iret C zr zlk (pi_of (by rw [vOE_b]; first | rw [if_pos (Or.inl (lg_lt.mp c5))] | rw [if_pos (Or.inr (lg_gt.mp (Int32.not_le.mp c13)))] | rw [if_neg (fun h => h.elim (fun h => c5 (lg_lt.mpr h)) (fun h => absurd (lg_gt.mpr h) (Int32.not_lt.mpr c13)))]) rfl) (Nat.le_refl _) (Nat.le_refl _) dX7_bounded_23
    · skip
      refine k_ldc (v := (-2147483648)) C wd_784 dX7_bounded_16 ?_
      refine k_goto (tgt := 23) C dX7_bounded_18 (by decide) ?_
      exact k_iret C zr zlk (pi_of (by rw [vOE_b]; first | rw [if_pos (Or.inl (lg_lt.mp c5))] | rw [if_pos (Or.inr (lg_gt.mp (Int32.not_le.mp c13)))] | rw [if_neg (fun h => h.elim (fun h => c5 (lg_lt.mpr h)) (fun h => absurd (lg_gt.mpr h) (Int32.not_lt.mpr c13)))]) rfl) (Nat.le_refl _) (Nat.le_refl _) dX7_bounded_23
set_option maxHeartbeats 4000000 in
set_option maxRecDepth 100000 in
theorem c_X7_ofTwo {zl : Launch} {D : va_G} {cI cN cR : ClassId} {base : Nat} {V : gv_V} {q : Nat} {x y : Int32}   (hq : q ≤ 7) : ct zl D [(cI, .int), (cN, .object "AlgebraTree$Node"), (cR, .object "AlgebraTree$Rows")] base yX7_ofTwo cX7_ofTwo 6 (some .int) 1 0 0 [.int (nI q), .int x, .int y] V (pi (opv q x y) V) := by
  refine ct_of "AlgebraTreeModel" rfl (by decide) (Nat.le_of_ble_eq_true rfl) ?_
  intro zp ze zs zm zargs zbelow zmeth zc C zr zlk znm
  refine k_pc (pc' := 0) (st' := []) rfl rfl ?_
  show K zp zl ze (gv_rm 1 0 0) zs zm zargs zbelow zmeth zc D base 6 (gv_E D [(cI, .int), (cN, .object "AlgebraTree$Node"), (cR, .object "AlgebraTree$Rows")] base zbelow zargs zs 0 0 (pi (opv q x y) V)) V 0 0 [(0, .int (nI q)), (1, .int x), (2, .int y)] 0 []
  refine k_iload_n C dX7_ofTwo_0 rfl 1 rfl ?_
  refine k_ldc (v := (-2147483648)) C wd_784 dX7_ofTwo_1 ?_
  refine k_icmp_eq (tgt := 12) C dX7_ofTwo_3 (by decide) (fun c3 => ?_) (fun c3 => ?_)
  · skip
    refine k_iconst (v := nI 1) C dX7_ofTwo_12 rfl ?_
    refine k_goto (tgt := 17) C dX7_ofTwo_13 (by decide) ?_
    refine k_istore_n (lv' := [(3, .int (nI 1)), (0, .int (nI q)), (1, .int x), (2, .int y)]) C dX7_ofTwo_17 rfl (by decide) rfl ?_
    refine k_iload_n C dX7_ofTwo_18 rfl 1 rfl ?_
    rcases (show q = 0 ∨ q = 1 ∨ q = 2 ∨ q = 3 ∨ q = 4 ∨ q = 5 ∨ q = 6 ∨ q = 7 from by omega) with sw19 | sw19 | sw19 | sw19 | sw19 | sw19 | sw19 | sw19
    · skip
      refine k_val (y := nI 0) (by rw [sw19]) ?_
      refine k_tableOut (tgt := 123) C dX7_ofTwo_19 (by decide) (by decide) ?_
      refine k_iload_n C dX7_ofTwo_123 rfl 0 rfl ?_
      refine k_if_ne (tgt := 136) C dX7_ofTwo_124 (by decide) (fun c124 => ?_) (fun c124 => ?_)
      · skip
        have b124 : ¬ 1 = 0 := fun z => c124 ((nI_eq (a := 1) (b := 0) (by omega) (by omega)).mpr z)
        refine k_ldc (v := (-2147483648)) C wd_784 dX7_ofTwo_136 ?_
        exact k_iret C zr zlk (pi_of (by simp only [opv, lgv, nmb, isT, nI_0, show nI 1 = 1 from rfl]; first | (simp_all [vOE_E, vOE_0, vOE_1]; done) | (simp_all; decide) | (have h9 : ¬ x < y := Int32.not_lt.mpr c218; simp only [if_neg h9]; simp_all [vOE_0])) rfl) (Nat.le_refl _) (Nat.le_refl _) dX7_ofTwo_138
      · exact absurd c124 (by decide)
    · skip
      refine k_val (y := nI 1) (by rw [sw19]) ?_
      refine k_tableOut (tgt := 123) C dX7_ofTwo_19 (by decide) (by decide) ?_
      refine k_iload_n C dX7_ofTwo_123 rfl 0 rfl ?_
      refine k_if_ne (tgt := 136) C dX7_ofTwo_124 (by decide) (fun c124 => ?_) (fun c124 => ?_)
      · skip
        have b124 : ¬ 1 = 0 := fun z => c124 ((nI_eq (a := 1) (b := 0) (by omega) (by omega)).mpr z)
        refine k_ldc (v := (-2147483648)) C wd_784 dX7_ofTwo_136 ?_
        exact k_iret C zr zlk (pi_of (by simp only [opv, lgv, nmb, isT, nI_0, show nI 1 = 1 from rfl]; first | (simp_all [vOE_E, vOE_0, vOE_1]; done) | (simp_all; decide) | (have h9 : ¬ x < y := Int32.not_lt.mpr c218; simp only [if_neg h9]; simp_all [vOE_0])) rfl) (Nat.le_refl _) (Nat.le_refl _) dX7_ofTwo_138
      · exact absurd c124 (by decide)
    · skip
      refine k_val (y := nI 2) (by rw [sw19]) ?_
      refine k_tableOut (tgt := 123) C dX7_ofTwo_19 (by decide) (by decide) ?_
      refine k_iload_n C dX7_ofTwo_123 rfl 0 rfl ?_
      refine k_if_ne (tgt := 136) C dX7_ofTwo_124 (by decide) (fun c124 => ?_) (fun c124 => ?_)
      · skip
        have b124 : ¬ 1 = 0 := fun z => c124 ((nI_eq (a := 1) (b := 0) (by omega) (by omega)).mpr z)
        refine k_ldc (v := (-2147483648)) C wd_784 dX7_ofTwo_136 ?_
        exact k_iret C zr zlk (pi_of (by simp only [opv, lgv, nmb, isT, nI_0, show nI 1 = 1 from rfl]; first | (simp_all [vOE_E, vOE_0, vOE_1]; done) | (simp_all; decide) | (have h9 : ¬ x < y := Int32.not_lt.mpr c218; simp only [if_neg h9]; simp_all [vOE_0])) rfl) (Nat.le_refl _) (Nat.le_refl _) dX7_ofTwo_138
      · exact absurd c124 (by decide)
    · skip
      refine k_val (y := nI 3) (by rw [sw19]) ?_
      refine k_tableOut (tgt := 123) C dX7_ofTwo_19 (by decide) (by decide) ?_
      refine k_iload_n C dX7_ofTwo_123 rfl 0 rfl ?_
      refine k_if_ne (tgt := 136) C dX7_ofTwo_124 (by decide) (fun c124 => ?_) (fun c124 => ?_)
      · skip
        have b124 : ¬ 1 = 0 := fun z => c124 ((nI_eq (a := 1) (b := 0) (by omega) (by omega)).mpr z)
        refine k_ldc (v := (-2147483648)) C wd_784 dX7_ofTwo_136 ?_
        exact k_iret C zr zlk (pi_of (by simp only [opv, lgv, nmb, isT, nI_0, show nI 1 = 1 from rfl]; first | (simp_all [vOE_E, vOE_0, vOE_1]; done) | (simp_all; decide) | (have h9 : ¬ x < y := Int32.not_lt.mpr c218; simp only [if_neg h9]; simp_all [vOE_0])) rfl) (Nat.le_refl _) (Nat.le_refl _) dX7_ofTwo_138
      · exact absurd c124 (by decide)
    · skip
      refine k_val (y := nI 4) (by rw [sw19]) ?_
      refine k_tableOut (tgt := 123) C dX7_ofTwo_19 (by decide) (by decide) ?_
      refine k_iload_n C dX7_ofTwo_123 rfl 0 rfl ?_
      refine k_if_ne (tgt := 136) C dX7_ofTwo_124 (by decide) (fun c124 => ?_) (fun c124 => ?_)
      · skip
        have b124 : ¬ 1 = 0 := fun z => c124 ((nI_eq (a := 1) (b := 0) (by omega) (by omega)).mpr z)
        refine k_ldc (v := (-2147483648)) C wd_784 dX7_ofTwo_136 ?_
        exact k_iret C zr zlk (pi_of (by simp only [opv, lgv, nmb, isT, nI_0, show nI 1 = 1 from rfl]; first | (simp_all [vOE_E, vOE_0, vOE_1]; done) | (simp_all; decide) | (have h9 : ¬ x < y := Int32.not_lt.mpr c218; simp only [if_neg h9]; simp_all [vOE_0])) rfl) (Nat.le_refl _) (Nat.le_refl _) dX7_ofTwo_138
      · exact absurd c124 (by decide)
    · skip
      refine k_val (y := nI 5) (by rw [sw19]) ?_
      refine k_tableOut (tgt := 123) C dX7_ofTwo_19 (by decide) (by decide) ?_
      refine k_iload_n C dX7_ofTwo_123 rfl 0 rfl ?_
      refine k_if_ne (tgt := 136) C dX7_ofTwo_124 (by decide) (fun c124 => ?_) (fun c124 => ?_)
      · skip
        have b124 : ¬ 1 = 0 := fun z => c124 ((nI_eq (a := 1) (b := 0) (by omega) (by omega)).mpr z)
        refine k_ldc (v := (-2147483648)) C wd_784 dX7_ofTwo_136 ?_
        exact k_iret C zr zlk (pi_of (by simp only [opv, lgv, nmb, isT, nI_0, show nI 1 = 1 from rfl]; first | (simp_all [vOE_E, vOE_0, vOE_1]; done) | (simp_all; decide) | (have h9 : ¬ x < y := Int32.not_lt.mpr c218; simp only [if_neg h9]; simp_all [vOE_0])) rfl) (Nat.le_refl _) (Nat.le_refl _) dX7_ofTwo_138
      · exact absurd c124 (by decide)
    · skip
      refine k_val (y := nI 6) (by rw [sw19]) ?_
      refine k_tableIn (tgt := 44) C dX7_ofTwo_19 (by decide) (by decide) rfl (by decide) ?_
      refine k_iload_n C dX7_ofTwo_44 rfl 2 rfl ?_
      refine k_if_eq (tgt := 52) C dX7_ofTwo_45 (by decide) (fun c45 => ?_) (fun c45 => ?_)
      · skip
        refine k_iconst (v := nI 0) C dX7_ofTwo_52 rfl ?_
        refine k_goto (tgt := 66) C dX7_ofTwo_53 (by decide) ?_
        exact k_iret C zr zlk (pi_of (by simp only [opv, lgv, nmb, isT, nI_0, show nI 1 = 1 from rfl]; first | (simp_all [vOE_E, vOE_0, vOE_1]; done) | (simp_all; decide) | (have h9 : ¬ x < y := Int32.not_lt.mpr c218; simp only [if_neg h9]; simp_all [vOE_0])) rfl) (Nat.le_refl _) (Nat.le_refl _) dX7_ofTwo_66
      · skip
        refine k_iload_n C dX7_ofTwo_48 rfl 3 rfl ?_
        refine k_if_ne (tgt := 56) C dX7_ofTwo_49 (by decide) (fun c49 => ?_) (fun c49 => ?_)
        · skip
          refine k_iload_n C dX7_ofTwo_56 rfl 0 rfl ?_
          refine k_if_eq (tgt := 65) C dX7_ofTwo_57 (by decide) (fun c57 => ?_) (fun c57 => ?_)
          · exact absurd c57 (by decide)
          · skip
            have b57 : ¬ 1 = 0 := fun z => c57 ((nI_eq (a := 1) (b := 0) (by omega) (by omega)).mpr z)
            refine k_ldc (v := (-2147483648)) C wd_784 dX7_ofTwo_60 ?_
            refine k_goto (tgt := 66) C dX7_ofTwo_62 (by decide) ?_
            exact k_iret C zr zlk (pi_of (by simp only [opv, lgv, nmb, isT, nI_0, show nI 1 = 1 from rfl]; first | (simp_all [vOE_E, vOE_0, vOE_1]; done) | (simp_all; decide) | (have h9 : ¬ x < y := Int32.not_lt.mpr c218; simp only [if_neg h9]; simp_all [vOE_0])) rfl) (Nat.le_refl _) (Nat.le_refl _) dX7_ofTwo_66
        · skip
          refine k_iconst (v := nI 0) C dX7_ofTwo_52 rfl ?_
          refine k_goto (tgt := 66) C dX7_ofTwo_53 (by decide) ?_
          exact k_iret C zr zlk (pi_of (by simp only [opv, lgv, nmb, isT, nI_0, show nI 1 = 1 from rfl]; first | (simp_all [vOE_E, vOE_0, vOE_1]; done) | (simp_all; decide) | (have h9 : ¬ x < y := Int32.not_lt.mpr c218; simp only [if_neg h9]; simp_all [vOE_0])) rfl) (Nat.le_refl _) (Nat.le_refl _) dX7_ofTwo_66
    · skip
      refine k_val (y := nI 7) (by rw [sw19]) ?_
      refine k_tableIn (tgt := 67) C dX7_ofTwo_19 (by decide) (by decide) rfl (by decide) ?_
      refine k_iload_n C dX7_ofTwo_67 rfl 2 rfl ?_
      refine k_if_eq (tgt := 77) C dX7_ofTwo_68 (by decide) (fun c68 => ?_) (fun c68 => ?_)
      · skip
        refine k_iload_n C dX7_ofTwo_77 rfl 3 rfl ?_
        refine k_if_eq (tgt := 91) C dX7_ofTwo_78 (by decide) (fun c78 => ?_) (fun c78 => ?_)
        · skip
          refine k_iload_n C dX7_ofTwo_91 rfl 0 rfl ?_
          refine k_if_eq (tgt := 100) C dX7_ofTwo_92 (by decide) (fun c92 => ?_) (fun c92 => ?_)
          · exact absurd c92 (by decide)
          · skip
            have b92 : ¬ 1 = 0 := fun z => c92 ((nI_eq (a := 1) (b := 0) (by omega) (by omega)).mpr z)
            refine k_ldc (v := (-2147483648)) C wd_784 dX7_ofTwo_95 ?_
            refine k_goto (tgt := 101) C dX7_ofTwo_97 (by decide) ?_
            exact k_iret C zr zlk (pi_of (by simp only [opv, lgv, nmb, isT, nI_0, show nI 1 = 1 from rfl]; first | (simp_all [vOE_E, vOE_0, vOE_1]; done) | (simp_all; decide) | (have h9 : ¬ x < y := Int32.not_lt.mpr c218; simp only [if_neg h9]; simp_all [vOE_0])) rfl) (Nat.le_refl _) (Nat.le_refl _) dX7_ofTwo_101
        · skip
          refine k_iload_n C dX7_ofTwo_81 rfl 3 rfl ?_
          refine k_ldc (v := (-2147483648)) C wd_784 dX7_ofTwo_82 ?_
          refine k_icmp_eq (tgt := 91) C dX7_ofTwo_84 (by decide) (fun c84 => ?_) (fun c84 => ?_)
          · skip
            refine k_iload_n C dX7_ofTwo_91 rfl 0 rfl ?_
            refine k_if_eq (tgt := 100) C dX7_ofTwo_92 (by decide) (fun c92 => ?_) (fun c92 => ?_)
            · exact absurd c92 (by decide)
            · skip
              have b92 : ¬ 1 = 0 := fun z => c92 ((nI_eq (a := 1) (b := 0) (by omega) (by omega)).mpr z)
              refine k_ldc (v := (-2147483648)) C wd_784 dX7_ofTwo_95 ?_
              refine k_goto (tgt := 101) C dX7_ofTwo_97 (by decide) ?_
              exact k_iret C zr zlk (pi_of (by simp only [opv, lgv, nmb, isT, nI_0, show nI 1 = 1 from rfl]; first | (simp_all [vOE_E, vOE_0, vOE_1]; done) | (simp_all; decide) | (have h9 : ¬ x < y := Int32.not_lt.mpr c218; simp only [if_neg h9]; simp_all [vOE_0])) rfl) (Nat.le_refl _) (Nat.le_refl _) dX7_ofTwo_101
          · skip
            refine k_iconst (v := nI 1) C dX7_ofTwo_87 rfl ?_
            refine k_goto (tgt := 101) C dX7_ofTwo_88 (by decide) ?_
            exact k_iret C zr zlk (pi_of (by simp only [opv, lgv, nmb, isT, nI_0, show nI 1 = 1 from rfl]; first | (simp_all [vOE_E, vOE_0, vOE_1]; done) | (simp_all; decide) | (have h9 : ¬ x < y := Int32.not_lt.mpr c218; simp only [if_neg h9]; simp_all [vOE_0])) rfl) (Nat.le_refl _) (Nat.le_refl _) dX7_ofTwo_101
      · skip
        refine k_iload_n C dX7_ofTwo_71 rfl 2 rfl ?_
        refine k_ldc (v := (-2147483648)) C wd_784 dX7_ofTwo_72 ?_
        refine k_icmp_ne (tgt := 87) C dX7_ofTwo_74 (by decide) (fun c74 => ?_) (fun c74 => ?_)
        · skip
          refine k_iconst (v := nI 1) C dX7_ofTwo_87 rfl ?_
          refine k_goto (tgt := 101) C dX7_ofTwo_88 (by decide) ?_
          exact k_iret C zr zlk (pi_of (by simp only [opv, lgv, nmb, isT, nI_0, show nI 1 = 1 from rfl]; first | (simp_all [vOE_E, vOE_0, vOE_1]; done) | (simp_all; decide) | (have h9 : ¬ x < y := Int32.not_lt.mpr c218; simp only [if_neg h9]; simp_all [vOE_0])) rfl) (Nat.le_refl _) (Nat.le_refl _) dX7_ofTwo_101
        · skip
          refine k_iload_n C dX7_ofTwo_77 rfl 3 rfl ?_
          refine k_if_eq (tgt := 91) C dX7_ofTwo_78 (by decide) (fun c78 => ?_) (fun c78 => ?_)
          · skip
            refine k_iload_n C dX7_ofTwo_91 rfl 0 rfl ?_
            refine k_if_eq (tgt := 100) C dX7_ofTwo_92 (by decide) (fun c92 => ?_) (fun c92 => ?_)
            · exact absurd c92 (by decide)
            · skip
              have b92 : ¬ 1 = 0 := fun z => c92 ((nI_eq (a := 1) (b := 0) (by omega) (by omega)).mpr z)
              refine k_ldc (v := (-2147483648)) C wd_784 dX7_ofTwo_95 ?_
              refine k_goto (tgt := 101) C dX7_ofTwo_97 (by decide) ?_
              exact k_iret C zr zlk (pi_of (by simp only [opv, lgv, nmb, isT, nI_0, show nI 1 = 1 from rfl]; first | (simp_all [vOE_E, vOE_0, vOE_1]; done) | (simp_all; decide) | (have h9 : ¬ x < y := Int32.not_lt.mpr c218; simp only [if_neg h9]; simp_all [vOE_0])) rfl) (Nat.le_refl _) (Nat.le_refl _) dX7_ofTwo_101
          · skip
            refine k_iload_n C dX7_ofTwo_81 rfl 3 rfl ?_
            refine k_ldc (v := (-2147483648)) C wd_784 dX7_ofTwo_82 ?_
            refine k_icmp_eq (tgt := 91) C dX7_ofTwo_84 (by decide) (fun c84 => ?_) (fun c84 => ?_)
            · skip
              refine k_iload_n C dX7_ofTwo_91 rfl 0 rfl ?_
              refine k_if_eq (tgt := 100) C dX7_ofTwo_92 (by decide) (fun c92 => ?_) (fun c92 => ?_)
              · exact absurd c92 (by decide)
              · skip
                have b92 : ¬ 1 = 0 := fun z => c92 ((nI_eq (a := 1) (b := 0) (by omega) (by omega)).mpr z)
                refine k_ldc (v := (-2147483648)) C wd_784 dX7_ofTwo_95 ?_
                refine k_goto (tgt := 101) C dX7_ofTwo_97 (by decide) ?_
                exact k_iret C zr zlk (pi_of (by simp only [opv, lgv, nmb, isT, nI_0, show nI 1 = 1 from rfl]; first | (simp_all [vOE_E, vOE_0, vOE_1]; done) | (simp_all; decide) | (have h9 : ¬ x < y := Int32.not_lt.mpr c218; simp only [if_neg h9]; simp_all [vOE_0])) rfl) (Nat.le_refl _) (Nat.le_refl _) dX7_ofTwo_101
            · skip
              refine k_iconst (v := nI 1) C dX7_ofTwo_87 rfl ?_
              refine k_goto (tgt := 101) C dX7_ofTwo_88 (by decide) ?_
              exact k_iret C zr zlk (pi_of (by simp only [opv, lgv, nmb, isT, nI_0, show nI 1 = 1 from rfl]; first | (simp_all [vOE_E, vOE_0, vOE_1]; done) | (simp_all; decide) | (have h9 : ¬ x < y := Int32.not_lt.mpr c218; simp only [if_neg h9]; simp_all [vOE_0])) rfl) (Nat.le_refl _) (Nat.le_refl _) dX7_ofTwo_101
  · skip
    refine k_iload_n C dX7_ofTwo_6 rfl 2 rfl ?_
    refine k_ldc (v := (-2147483648)) C wd_784 dX7_ofTwo_7 ?_
    refine k_icmp_ne (tgt := 16) C dX7_ofTwo_9 (by decide) (fun c9 => ?_) (fun c9 => ?_)
    · skip
      refine k_iconst (v := nI 0) C dX7_ofTwo_16 rfl ?_
      refine k_istore_n (lv' := [(3, .int (nI 0)), (0, .int (nI q)), (1, .int x), (2, .int y)]) C dX7_ofTwo_17 rfl (by decide) rfl ?_
      refine k_iload_n C dX7_ofTwo_18 rfl 1 rfl ?_
      rcases (show q = 0 ∨ q = 1 ∨ q = 2 ∨ q = 3 ∨ q = 4 ∨ q = 5 ∨ q = 6 ∨ q = 7 from by omega) with sw19 | sw19 | sw19 | sw19 | sw19 | sw19 | sw19 | sw19
      · skip
        refine k_val (y := nI 0) (by rw [sw19]) ?_
        refine k_tableOut (tgt := 123) C dX7_ofTwo_19 (by decide) (by decide) ?_
        refine k_iload_n C dX7_ofTwo_123 rfl 0 rfl ?_
        refine k_if_ne (tgt := 136) C dX7_ofTwo_124 (by decide) (fun c124 => ?_) (fun c124 => ?_)
        · exact absurd c124 (by decide)
        · skip
          have b124 : 0 = 0 := (nI_eq (a := 0) (b := 0) (by omega) (by omega)).mp c124
          refine k_iload_n C dX7_ofTwo_127 rfl 1 rfl ?_
          refine k_iconst (v := nI 3) C dX7_ofTwo_128 rfl ?_
          refine k_icmp_ne (tgt := 139) C dX7_ofTwo_129 (by decide) (fun c129 => ?_) (fun c129 => ?_)
          · skip
            have b129 : ¬ q = 3 := fun z => c129 ((nI_eq (a := q) (b := 3) (by omega) (by omega)).mpr z)
            refine k_iload_n C dX7_ofTwo_139 rfl 2 rfl ?_
            refine k_i2l C dX7_ofTwo_140 rfl ?_
            refine k_lstore (lv' := [(4, .long x.toInt64), (3, .int (nI 0)), (0, .int (nI q)), (1, .int x), (2, .int y)]) C dX7_ofTwo_141 (by decide) rfl ?_
            refine k_iload_n C dX7_ofTwo_143 rfl 2 rfl ?_
            have sw144 : q = 0 := by omega
            refine k_val (y := nI 0) (by rw [sw144]) ?_
            refine k_tableIn (tgt := 180) C dX7_ofTwo_144 (by decide) (by decide) rfl (by decide) ?_
            refine k_lload C dX7_ofTwo_180 0 rfl ?_
            refine k_iload_n C dX7_ofTwo_182 rfl 4 rfl ?_
            refine k_i2l C dX7_ofTwo_183 rfl ?_
            refine k_ladd C dX7_ofTwo_184 ?_
            refine k_callS_pi C ms_7_74 (c_X7_bounded   ) rfl rfl (by simp [Value.category]) ⟨Nat.le_of_ble_eq_true rfl, Nat.le_of_ble_eq_true rfl⟩ ⟨(by decide), (by decide)⟩ dX7_ofTwo_185 ?_
            exact k_iret C zr zlk (pi_of (by simp only [opv, lgv, nmb, isT, nI_0, show nI 1 = 1 from rfl]; first | (simp_all [vOE_E, vOE_0, vOE_1]; done) | (simp_all; decide) | (have h9 : ¬ x < y := Int32.not_lt.mpr c218; simp only [if_neg h9]; simp_all [vOE_0])) rfl) (Nat.le_refl _) (Nat.le_refl _) dX7_ofTwo_188
          · skip
            exact absurd ((nI_eq (by omega) (by omega)).mp c129) (by omega)
      · skip
        refine k_val (y := nI 1) (by rw [sw19]) ?_
        refine k_tableOut (tgt := 123) C dX7_ofTwo_19 (by decide) (by decide) ?_
        refine k_iload_n C dX7_ofTwo_123 rfl 0 rfl ?_
        refine k_if_ne (tgt := 136) C dX7_ofTwo_124 (by decide) (fun c124 => ?_) (fun c124 => ?_)
        · exact absurd c124 (by decide)
        · skip
          have b124 : 0 = 0 := (nI_eq (a := 0) (b := 0) (by omega) (by omega)).mp c124
          refine k_iload_n C dX7_ofTwo_127 rfl 1 rfl ?_
          refine k_iconst (v := nI 3) C dX7_ofTwo_128 rfl ?_
          refine k_icmp_ne (tgt := 139) C dX7_ofTwo_129 (by decide) (fun c129 => ?_) (fun c129 => ?_)
          · skip
            have b129 : ¬ q = 3 := fun z => c129 ((nI_eq (a := q) (b := 3) (by omega) (by omega)).mpr z)
            refine k_iload_n C dX7_ofTwo_139 rfl 2 rfl ?_
            refine k_i2l C dX7_ofTwo_140 rfl ?_
            refine k_lstore (lv' := [(4, .long x.toInt64), (3, .int (nI 0)), (0, .int (nI q)), (1, .int x), (2, .int y)]) C dX7_ofTwo_141 (by decide) rfl ?_
            refine k_iload_n C dX7_ofTwo_143 rfl 2 rfl ?_
            have sw144 : q = 1 := by omega
            refine k_val (y := nI 1) (by rw [sw144]) ?_
            refine k_tableIn (tgt := 189) C dX7_ofTwo_144 (by decide) (by decide) rfl (by decide) ?_
            refine k_lload C dX7_ofTwo_189 0 rfl ?_
            refine k_iload_n C dX7_ofTwo_191 rfl 4 rfl ?_
            refine k_i2l C dX7_ofTwo_192 rfl ?_
            refine k_lsub C dX7_ofTwo_193 ?_
            refine k_callS_pi C ms_7_74 (c_X7_bounded   ) rfl rfl (by simp [Value.category]) ⟨Nat.le_of_ble_eq_true rfl, Nat.le_of_ble_eq_true rfl⟩ ⟨(by decide), (by decide)⟩ dX7_ofTwo_194 ?_
            exact k_iret C zr zlk (pi_of (by simp only [opv, lgv, nmb, isT, nI_0, show nI 1 = 1 from rfl]; first | (simp_all [vOE_E, vOE_0, vOE_1]; done) | (simp_all; decide) | (have h9 : ¬ x < y := Int32.not_lt.mpr c218; simp only [if_neg h9]; simp_all [vOE_0])) rfl) (Nat.le_refl _) (Nat.le_refl _) dX7_ofTwo_197
          · skip
            exact absurd ((nI_eq (by omega) (by omega)).mp c129) (by omega)
      · skip
        refine k_val (y := nI 2) (by rw [sw19]) ?_
        refine k_tableOut (tgt := 123) C dX7_ofTwo_19 (by decide) (by decide) ?_
        refine k_iload_n C dX7_ofTwo_123 rfl 0 rfl ?_
        refine k_if_ne (tgt := 136) C dX7_ofTwo_124 (by decide) (fun c124 => ?_) (fun c124 => ?_)
        · exact absurd c124 (by decide)
        · skip
          have b124 : 0 = 0 := (nI_eq (a := 0) (b := 0) (by omega) (by omega)).mp c124
          refine k_iload_n C dX7_ofTwo_127 rfl 1 rfl ?_
          refine k_iconst (v := nI 3) C dX7_ofTwo_128 rfl ?_
          refine k_icmp_ne (tgt := 139) C dX7_ofTwo_129 (by decide) (fun c129 => ?_) (fun c129 => ?_)
          · skip
            have b129 : ¬ q = 3 := fun z => c129 ((nI_eq (a := q) (b := 3) (by omega) (by omega)).mpr z)
            refine k_iload_n C dX7_ofTwo_139 rfl 2 rfl ?_
            refine k_i2l C dX7_ofTwo_140 rfl ?_
            refine k_lstore (lv' := [(4, .long x.toInt64), (3, .int (nI 0)), (0, .int (nI q)), (1, .int x), (2, .int y)]) C dX7_ofTwo_141 (by decide) rfl ?_
            refine k_iload_n C dX7_ofTwo_143 rfl 2 rfl ?_
            have sw144 : q = 2 := by omega
            refine k_val (y := nI 2) (by rw [sw144]) ?_
            refine k_tableIn (tgt := 198) C dX7_ofTwo_144 (by decide) (by decide) rfl (by decide) ?_
            refine k_lload C dX7_ofTwo_198 0 rfl ?_
            refine k_iload_n C dX7_ofTwo_200 rfl 4 rfl ?_
            refine k_i2l C dX7_ofTwo_201 rfl ?_
            refine k_lmul C dX7_ofTwo_202 ?_
            refine k_callS_pi C ms_7_74 (c_X7_bounded   ) rfl rfl (by simp [Value.category]) ⟨Nat.le_of_ble_eq_true rfl, Nat.le_of_ble_eq_true rfl⟩ ⟨(by decide), (by decide)⟩ dX7_ofTwo_203 ?_
            exact k_iret C zr zlk (pi_of (by simp only [opv, lgv, nmb, isT, nI_0, show nI 1 = 1 from rfl]; first | (simp_all [vOE_E, vOE_0, vOE_1]; done) | (simp_all; decide) | (have h9 : ¬ x < y := Int32.not_lt.mpr c218; simp only [if_neg h9]; simp_all [vOE_0])) rfl) (Nat.le_refl _) (Nat.le_refl _) dX7_ofTwo_206
          · skip
            exact absurd ((nI_eq (by omega) (by omega)).mp c129) (by omega)
      · skip
        refine k_val (y := nI 3) (by rw [sw19]) ?_
        refine k_tableOut (tgt := 123) C dX7_ofTwo_19 (by decide) (by decide) ?_
        refine k_iload_n C dX7_ofTwo_123 rfl 0 rfl ?_
        refine k_if_ne (tgt := 136) C dX7_ofTwo_124 (by decide) (fun c124 => ?_) (fun c124 => ?_)
        · exact absurd c124 (by decide)
        · skip
          have b124 : 0 = 0 := (nI_eq (a := 0) (b := 0) (by omega) (by omega)).mp c124
          refine k_iload_n C dX7_ofTwo_127 rfl 1 rfl ?_
          refine k_iconst (v := nI 3) C dX7_ofTwo_128 rfl ?_
          refine k_icmp_ne (tgt := 139) C dX7_ofTwo_129 (by decide) (fun c129 => ?_) (fun c129 => ?_)
          · skip
            exact absurd ((nI_eq (by omega) (by omega)).mpr sw19) c129
          · skip
            have b129 : q = 3 := (nI_eq (a := q) (b := 3) (by omega) (by omega)).mp c129
            refine k_iload_n C dX7_ofTwo_132 rfl 3 rfl ?_
            refine k_if_ne (tgt := 139) C dX7_ofTwo_133 (by decide) (fun c133 => ?_) (fun c133 => ?_)
            · skip
              refine k_iload_n C dX7_ofTwo_139 rfl 2 rfl ?_
              refine k_i2l C dX7_ofTwo_140 rfl ?_
              refine k_lstore (lv' := [(4, .long x.toInt64), (3, .int (nI 0)), (0, .int (nI q)), (1, .int x), (2, .int y)]) C dX7_ofTwo_141 (by decide) rfl ?_
              refine k_iload_n C dX7_ofTwo_143 rfl 2 rfl ?_
              have sw144 : q = 3 := by omega
              refine k_val (y := nI 3) (by rw [sw144]) ?_
              refine k_tableIn (tgt := 207) C dX7_ofTwo_144 (by decide) (by decide) rfl (by decide) ?_
              refine k_lload C dX7_ofTwo_207 0 rfl ?_
              refine k_iload_n C dX7_ofTwo_209 rfl 4 rfl ?_
              refine k_i2l C dX7_ofTwo_210 rfl ?_
              refine k_ldiv C dX7_ofTwo_211 (fun h => c133 (Int32.toInt_inj.mp (by have h2 := congrArg Int64.toInt h; rw [Int32.toInt_toInt64] at h2; exact h2))) ?_
              refine k_callS_pi C ms_7_74 (c_X7_bounded   ) rfl rfl (by simp [Value.category]) ⟨Nat.le_of_ble_eq_true rfl, Nat.le_of_ble_eq_true rfl⟩ ⟨(by decide), (by decide)⟩ dX7_ofTwo_212 ?_
              exact k_iret C zr zlk (pi_of (by rw [sw19, div_l c3]; simp only [opv, nmb]; simp_all) rfl) (Nat.le_refl _) (Nat.le_refl _) dX7_ofTwo_215
            · skip
              refine k_ldc (v := (-2147483648)) C wd_784 dX7_ofTwo_136 ?_
              exact k_iret C zr zlk (pi_of (by simp only [opv, lgv, nmb, isT, nI_0, show nI 1 = 1 from rfl]; first | (simp_all [vOE_E, vOE_0, vOE_1]; done) | (simp_all; decide) | (have h9 : ¬ x < y := Int32.not_lt.mpr c218; simp only [if_neg h9]; simp_all [vOE_0])) rfl) (Nat.le_refl _) (Nat.le_refl _) dX7_ofTwo_138
      · skip
        refine k_val (y := nI 4) (by rw [sw19]) ?_
        refine k_tableOut (tgt := 123) C dX7_ofTwo_19 (by decide) (by decide) ?_
        refine k_iload_n C dX7_ofTwo_123 rfl 0 rfl ?_
        refine k_if_ne (tgt := 136) C dX7_ofTwo_124 (by decide) (fun c124 => ?_) (fun c124 => ?_)
        · exact absurd c124 (by decide)
        · skip
          have b124 : 0 = 0 := (nI_eq (a := 0) (b := 0) (by omega) (by omega)).mp c124
          refine k_iload_n C dX7_ofTwo_127 rfl 1 rfl ?_
          refine k_iconst (v := nI 3) C dX7_ofTwo_128 rfl ?_
          refine k_icmp_ne (tgt := 139) C dX7_ofTwo_129 (by decide) (fun c129 => ?_) (fun c129 => ?_)
          · skip
            have b129 : ¬ q = 3 := fun z => c129 ((nI_eq (a := q) (b := 3) (by omega) (by omega)).mpr z)
            refine k_iload_n C dX7_ofTwo_139 rfl 2 rfl ?_
            refine k_i2l C dX7_ofTwo_140 rfl ?_
            refine k_lstore (lv' := [(4, .long x.toInt64), (3, .int (nI 0)), (0, .int (nI q)), (1, .int x), (2, .int y)]) C dX7_ofTwo_141 (by decide) rfl ?_
            refine k_iload_n C dX7_ofTwo_143 rfl 2 rfl ?_
            have sw144 : q = 4 := by omega
            refine k_val (y := nI 4) (by rw [sw144]) ?_
            refine k_tableIn (tgt := 216) C dX7_ofTwo_144 (by decide) (by decide) rfl (by decide) ?_
            refine k_iload_n C dX7_ofTwo_216 rfl 3 rfl ?_
            refine k_iload_n C dX7_ofTwo_217 rfl 4 rfl ?_
            refine k_icmp_ge (tgt := 225) C dX7_ofTwo_218 (by decide) (fun c218 => ?_) (fun c218 => ?_)
            · skip
              refine k_iconst (v := nI 0) C dX7_ofTwo_225 rfl ?_
              exact k_iret C zr zlk (pi_of (by simp only [opv, lgv, nmb, isT, nI_0, show nI 1 = 1 from rfl]; first | (simp_all [vOE_E, vOE_0, vOE_1]; done) | (simp_all; decide) | (have h9 : ¬ x < y := Int32.not_lt.mpr c218; simp only [if_neg h9]; simp_all [vOE_0])) rfl) (Nat.le_refl _) (Nat.le_refl _) dX7_ofTwo_226
            · skip
              refine k_iconst (v := nI 1) C dX7_ofTwo_221 rfl ?_
              refine k_goto (tgt := 226) C dX7_ofTwo_222 (by decide) ?_
              exact k_iret C zr zlk (pi_of (by simp only [opv, lgv, nmb, isT, nI_0, show nI 1 = 1 from rfl]; first | (simp_all [vOE_E, vOE_0, vOE_1]; done) | (simp_all; decide) | (have h9 : ¬ x < y := Int32.not_lt.mpr c218; simp only [if_neg h9]; simp_all [vOE_0])) rfl) (Nat.le_refl _) (Nat.le_refl _) dX7_ofTwo_226
          · skip
            exact absurd ((nI_eq (by omega) (by omega)).mp c129) (by omega)
      · skip
        refine k_val (y := nI 5) (by rw [sw19]) ?_
        refine k_tableOut (tgt := 123) C dX7_ofTwo_19 (by decide) (by decide) ?_
        refine k_iload_n C dX7_ofTwo_123 rfl 0 rfl ?_
        refine k_if_ne (tgt := 136) C dX7_ofTwo_124 (by decide) (fun c124 => ?_) (fun c124 => ?_)
        · exact absurd c124 (by decide)
        · skip
          have b124 : 0 = 0 := (nI_eq (a := 0) (b := 0) (by omega) (by omega)).mp c124
          refine k_iload_n C dX7_ofTwo_127 rfl 1 rfl ?_
          refine k_iconst (v := nI 3) C dX7_ofTwo_128 rfl ?_
          refine k_icmp_ne (tgt := 139) C dX7_ofTwo_129 (by decide) (fun c129 => ?_) (fun c129 => ?_)
          · skip
            have b129 : ¬ q = 3 := fun z => c129 ((nI_eq (a := q) (b := 3) (by omega) (by omega)).mpr z)
            refine k_iload_n C dX7_ofTwo_139 rfl 2 rfl ?_
            refine k_i2l C dX7_ofTwo_140 rfl ?_
            refine k_lstore (lv' := [(4, .long x.toInt64), (3, .int (nI 0)), (0, .int (nI q)), (1, .int x), (2, .int y)]) C dX7_ofTwo_141 (by decide) rfl ?_
            refine k_iload_n C dX7_ofTwo_143 rfl 2 rfl ?_
            have sw144 : q = 5 := by omega
            refine k_val (y := nI 5) (by rw [sw144]) ?_
            refine k_tableOut (tgt := 227) C dX7_ofTwo_144 (by decide) (by decide) ?_
            refine k_iload_n C dX7_ofTwo_227 rfl 3 rfl ?_
            refine k_iload_n C dX7_ofTwo_228 rfl 4 rfl ?_
            refine k_icmp_ne (tgt := 236) C dX7_ofTwo_229 (by decide) (fun c229 => ?_) (fun c229 => ?_)
            · skip
              refine k_iconst (v := nI 0) C dX7_ofTwo_236 rfl ?_
              exact k_iret C zr zlk (pi_of (by simp only [opv, lgv, nmb, isT, nI_0, show nI 1 = 1 from rfl]; first | (simp_all [vOE_E, vOE_0, vOE_1]; done) | (simp_all; decide) | (have h9 : ¬ x < y := Int32.not_lt.mpr c218; simp only [if_neg h9]; simp_all [vOE_0])) rfl) (Nat.le_refl _) (Nat.le_refl _) dX7_ofTwo_237
            · skip
              refine k_iconst (v := nI 1) C dX7_ofTwo_232 rfl ?_
              refine k_goto (tgt := 237) C dX7_ofTwo_233 (by decide) ?_
              exact k_iret C zr zlk (pi_of (by simp only [opv, lgv, nmb, isT, nI_0, show nI 1 = 1 from rfl]; first | (simp_all [vOE_E, vOE_0, vOE_1]; done) | (simp_all; decide) | (have h9 : ¬ x < y := Int32.not_lt.mpr c218; simp only [if_neg h9]; simp_all [vOE_0])) rfl) (Nat.le_refl _) (Nat.le_refl _) dX7_ofTwo_237
          · skip
            exact absurd ((nI_eq (by omega) (by omega)).mp c129) (by omega)
      · skip
        refine k_val (y := nI 6) (by rw [sw19]) ?_
        refine k_tableIn (tgt := 44) C dX7_ofTwo_19 (by decide) (by decide) rfl (by decide) ?_
        refine k_iload_n C dX7_ofTwo_44 rfl 2 rfl ?_
        refine k_if_eq (tgt := 52) C dX7_ofTwo_45 (by decide) (fun c45 => ?_) (fun c45 => ?_)
        · skip
          refine k_iconst (v := nI 0) C dX7_ofTwo_52 rfl ?_
          refine k_goto (tgt := 66) C dX7_ofTwo_53 (by decide) ?_
          exact k_iret C zr zlk (pi_of (by simp only [opv, lgv, nmb, isT, nI_0, show nI 1 = 1 from rfl]; first | (simp_all [vOE_E, vOE_0, vOE_1]; done) | (simp_all; decide) | (have h9 : ¬ x < y := Int32.not_lt.mpr c218; simp only [if_neg h9]; simp_all [vOE_0])) rfl) (Nat.le_refl _) (Nat.le_refl _) dX7_ofTwo_66
        · skip
          refine k_iload_n C dX7_ofTwo_48 rfl 3 rfl ?_
          refine k_if_ne (tgt := 56) C dX7_ofTwo_49 (by decide) (fun c49 => ?_) (fun c49 => ?_)
          · skip
            refine k_iload_n C dX7_ofTwo_56 rfl 0 rfl ?_
            refine k_if_eq (tgt := 65) C dX7_ofTwo_57 (by decide) (fun c57 => ?_) (fun c57 => ?_)
            · skip
              have b57 : 0 = 0 := (nI_eq (a := 0) (b := 0) (by omega) (by omega)).mp c57
              refine k_iconst (v := nI 1) C dX7_ofTwo_65 rfl ?_
              exact k_iret C zr zlk (pi_of (by simp only [opv, lgv, nmb, isT, nI_0, show nI 1 = 1 from rfl]; first | (simp_all [vOE_E, vOE_0, vOE_1]; done) | (simp_all; decide) | (have h9 : ¬ x < y := Int32.not_lt.mpr c218; simp only [if_neg h9]; simp_all [vOE_0])) rfl) (Nat.le_refl _) (Nat.le_refl _) dX7_ofTwo_66
            · exact absurd c57 (by decide)
          · skip
            refine k_iconst (v := nI 0) C dX7_ofTwo_52 rfl ?_
            refine k_goto (tgt := 66) C dX7_ofTwo_53 (by decide) ?_
            exact k_iret C zr zlk (pi_of (by simp only [opv, lgv, nmb, isT, nI_0, show nI 1 = 1 from rfl]; first | (simp_all [vOE_E, vOE_0, vOE_1]; done) | (simp_all; decide) | (have h9 : ¬ x < y := Int32.not_lt.mpr c218; simp only [if_neg h9]; simp_all [vOE_0])) rfl) (Nat.le_refl _) (Nat.le_refl _) dX7_ofTwo_66
      · skip
        refine k_val (y := nI 7) (by rw [sw19]) ?_
        refine k_tableIn (tgt := 67) C dX7_ofTwo_19 (by decide) (by decide) rfl (by decide) ?_
        refine k_iload_n C dX7_ofTwo_67 rfl 2 rfl ?_
        refine k_if_eq (tgt := 77) C dX7_ofTwo_68 (by decide) (fun c68 => ?_) (fun c68 => ?_)
        · skip
          refine k_iload_n C dX7_ofTwo_77 rfl 3 rfl ?_
          refine k_if_eq (tgt := 91) C dX7_ofTwo_78 (by decide) (fun c78 => ?_) (fun c78 => ?_)
          · skip
            refine k_iload_n C dX7_ofTwo_91 rfl 0 rfl ?_
            refine k_if_eq (tgt := 100) C dX7_ofTwo_92 (by decide) (fun c92 => ?_) (fun c92 => ?_)
            · skip
              have b92 : 0 = 0 := (nI_eq (a := 0) (b := 0) (by omega) (by omega)).mp c92
              refine k_iconst (v := nI 0) C dX7_ofTwo_100 rfl ?_
              exact k_iret C zr zlk (pi_of (by simp only [opv, lgv, nmb, isT, nI_0, show nI 1 = 1 from rfl]; first | (simp_all [vOE_E, vOE_0, vOE_1]; done) | (simp_all; decide) | (have h9 : ¬ x < y := Int32.not_lt.mpr c218; simp only [if_neg h9]; simp_all [vOE_0])) rfl) (Nat.le_refl _) (Nat.le_refl _) dX7_ofTwo_101
            · exact absurd c92 (by decide)
          · skip
            refine k_iload_n C dX7_ofTwo_81 rfl 3 rfl ?_
            refine k_ldc (v := (-2147483648)) C wd_784 dX7_ofTwo_82 ?_
            refine k_icmp_eq (tgt := 91) C dX7_ofTwo_84 (by decide) (fun c84 => ?_) (fun c84 => ?_)
            · skip
              refine k_iload_n C dX7_ofTwo_91 rfl 0 rfl ?_
              refine k_if_eq (tgt := 100) C dX7_ofTwo_92 (by decide) (fun c92 => ?_) (fun c92 => ?_)
              · skip
                have b92 : 0 = 0 := (nI_eq (a := 0) (b := 0) (by omega) (by omega)).mp c92
                refine k_iconst (v := nI 0) C dX7_ofTwo_100 rfl ?_
                exact k_iret C zr zlk (pi_of (by simp only [opv, lgv, nmb, isT, nI_0, show nI 1 = 1 from rfl]; first | (simp_all [vOE_E, vOE_0, vOE_1]; done) | (simp_all; decide) | (have h9 : ¬ x < y := Int32.not_lt.mpr c218; simp only [if_neg h9]; simp_all [vOE_0])) rfl) (Nat.le_refl _) (Nat.le_refl _) dX7_ofTwo_101
              · exact absurd c92 (by decide)
            · skip
              refine k_iconst (v := nI 1) C dX7_ofTwo_87 rfl ?_
              refine k_goto (tgt := 101) C dX7_ofTwo_88 (by decide) ?_
              exact k_iret C zr zlk (pi_of (by simp only [opv, lgv, nmb, isT, nI_0, show nI 1 = 1 from rfl]; first | (simp_all [vOE_E, vOE_0, vOE_1]; done) | (simp_all; decide) | (have h9 : ¬ x < y := Int32.not_lt.mpr c218; simp only [if_neg h9]; simp_all [vOE_0])) rfl) (Nat.le_refl _) (Nat.le_refl _) dX7_ofTwo_101
        · skip
          refine k_iload_n C dX7_ofTwo_71 rfl 2 rfl ?_
          refine k_ldc (v := (-2147483648)) C wd_784 dX7_ofTwo_72 ?_
          refine k_icmp_ne (tgt := 87) C dX7_ofTwo_74 (by decide) (fun c74 => ?_) (fun c74 => ?_)
          · skip
            refine k_iconst (v := nI 1) C dX7_ofTwo_87 rfl ?_
            refine k_goto (tgt := 101) C dX7_ofTwo_88 (by decide) ?_
            exact k_iret C zr zlk (pi_of (by simp only [opv, lgv, nmb, isT, nI_0, show nI 1 = 1 from rfl]; first | (simp_all [vOE_E, vOE_0, vOE_1]; done) | (simp_all; decide) | (have h9 : ¬ x < y := Int32.not_lt.mpr c218; simp only [if_neg h9]; simp_all [vOE_0])) rfl) (Nat.le_refl _) (Nat.le_refl _) dX7_ofTwo_101
          · skip
            refine k_iload_n C dX7_ofTwo_77 rfl 3 rfl ?_
            refine k_if_eq (tgt := 91) C dX7_ofTwo_78 (by decide) (fun c78 => ?_) (fun c78 => ?_)
            · skip
              refine k_iload_n C dX7_ofTwo_91 rfl 0 rfl ?_
              refine k_if_eq (tgt := 100) C dX7_ofTwo_92 (by decide) (fun c92 => ?_) (fun c92 => ?_)
              · skip
                have b92 : 0 = 0 := (nI_eq (a := 0) (b := 0) (by omega) (by omega)).mp c92
                refine k_iconst (v := nI 0) C dX7_ofTwo_100 rfl ?_
                exact k_iret C zr zlk (pi_of (by simp only [opv, lgv, nmb, isT, nI_0, show nI 1 = 1 from rfl]; first | (simp_all [vOE_E, vOE_0, vOE_1]; done) | (simp_all; decide) | (have h9 : ¬ x < y := Int32.not_lt.mpr c218; simp only [if_neg h9]; simp_all [vOE_0])) rfl) (Nat.le_refl _) (Nat.le_refl _) dX7_ofTwo_101
              · exact absurd c92 (by decide)
            · skip
              refine k_iload_n C dX7_ofTwo_81 rfl 3 rfl ?_
              refine k_ldc (v := (-2147483648)) C wd_784 dX7_ofTwo_82 ?_
              refine k_icmp_eq (tgt := 91) C dX7_ofTwo_84 (by decide) (fun c84 => ?_) (fun c84 => ?_)
              · skip
                refine k_iload_n C dX7_ofTwo_91 rfl 0 rfl ?_
                refine k_if_eq (tgt := 100) C dX7_ofTwo_92 (by decide) (fun c92 => ?_) (fun c92 => ?_)
                · skip
                  have b92 : 0 = 0 := (nI_eq (a := 0) (b := 0) (by omega) (by omega)).mp c92
                  refine k_iconst (v := nI 0) C dX7_ofTwo_100 rfl ?_
                  exact k_iret C zr zlk (pi_of (by simp only [opv, lgv, nmb, isT, nI_0, show nI 1 = 1 from rfl]; first | (simp_all [vOE_E, vOE_0, vOE_1]; done) | (simp_all; decide) | (have h9 : ¬ x < y := Int32.not_lt.mpr c218; simp only [if_neg h9]; simp_all [vOE_0])) rfl) (Nat.le_refl _) (Nat.le_refl _) dX7_ofTwo_101
                · exact absurd c92 (by decide)
              · skip
                refine k_iconst (v := nI 1) C dX7_ofTwo_87 rfl ?_
                refine k_goto (tgt := 101) C dX7_ofTwo_88 (by decide) ?_
                exact k_iret C zr zlk (pi_of (by simp only [opv, lgv, nmb, isT, nI_0, show nI 1 = 1 from rfl]; first | (simp_all [vOE_E, vOE_0, vOE_1]; done) | (simp_all; decide) | (have h9 : ¬ x < y := Int32.not_lt.mpr c218; simp only [if_neg h9]; simp_all [vOE_0])) rfl) (Nat.le_refl _) (Nat.le_refl _) dX7_ofTwo_101
    · skip
      refine k_iconst (v := nI 1) C dX7_ofTwo_12 rfl ?_
      refine k_goto (tgt := 17) C dX7_ofTwo_13 (by decide) ?_
      refine k_istore_n (lv' := [(3, .int (nI 1)), (0, .int (nI q)), (1, .int x), (2, .int y)]) C dX7_ofTwo_17 rfl (by decide) rfl ?_
      refine k_iload_n C dX7_ofTwo_18 rfl 1 rfl ?_
      rcases (show q = 0 ∨ q = 1 ∨ q = 2 ∨ q = 3 ∨ q = 4 ∨ q = 5 ∨ q = 6 ∨ q = 7 from by omega) with sw19 | sw19 | sw19 | sw19 | sw19 | sw19 | sw19 | sw19
      · skip
        refine k_val (y := nI 0) (by rw [sw19]) ?_
        refine k_tableOut (tgt := 123) C dX7_ofTwo_19 (by decide) (by decide) ?_
        refine k_iload_n C dX7_ofTwo_123 rfl 0 rfl ?_
        refine k_if_ne (tgt := 136) C dX7_ofTwo_124 (by decide) (fun c124 => ?_) (fun c124 => ?_)
        · skip
          have b124 : ¬ 1 = 0 := fun z => c124 ((nI_eq (a := 1) (b := 0) (by omega) (by omega)).mpr z)
          refine k_ldc (v := (-2147483648)) C wd_784 dX7_ofTwo_136 ?_
          exact k_iret C zr zlk (pi_of (by simp only [opv, lgv, nmb, isT, nI_0, show nI 1 = 1 from rfl]; first | (simp_all [vOE_E, vOE_0, vOE_1]; done) | (simp_all; decide) | (have h9 : ¬ x < y := Int32.not_lt.mpr c218; simp only [if_neg h9]; simp_all [vOE_0])) rfl) (Nat.le_refl _) (Nat.le_refl _) dX7_ofTwo_138
        · exact absurd c124 (by decide)
      · skip
        refine k_val (y := nI 1) (by rw [sw19]) ?_
        refine k_tableOut (tgt := 123) C dX7_ofTwo_19 (by decide) (by decide) ?_
        refine k_iload_n C dX7_ofTwo_123 rfl 0 rfl ?_
        refine k_if_ne (tgt := 136) C dX7_ofTwo_124 (by decide) (fun c124 => ?_) (fun c124 => ?_)
        · skip
          have b124 : ¬ 1 = 0 := fun z => c124 ((nI_eq (a := 1) (b := 0) (by omega) (by omega)).mpr z)
          refine k_ldc (v := (-2147483648)) C wd_784 dX7_ofTwo_136 ?_
          exact k_iret C zr zlk (pi_of (by simp only [opv, lgv, nmb, isT, nI_0, show nI 1 = 1 from rfl]; first | (simp_all [vOE_E, vOE_0, vOE_1]; done) | (simp_all; decide) | (have h9 : ¬ x < y := Int32.not_lt.mpr c218; simp only [if_neg h9]; simp_all [vOE_0])) rfl) (Nat.le_refl _) (Nat.le_refl _) dX7_ofTwo_138
        · exact absurd c124 (by decide)
      · skip
        refine k_val (y := nI 2) (by rw [sw19]) ?_
        refine k_tableOut (tgt := 123) C dX7_ofTwo_19 (by decide) (by decide) ?_
        refine k_iload_n C dX7_ofTwo_123 rfl 0 rfl ?_
        refine k_if_ne (tgt := 136) C dX7_ofTwo_124 (by decide) (fun c124 => ?_) (fun c124 => ?_)
        · skip
          have b124 : ¬ 1 = 0 := fun z => c124 ((nI_eq (a := 1) (b := 0) (by omega) (by omega)).mpr z)
          refine k_ldc (v := (-2147483648)) C wd_784 dX7_ofTwo_136 ?_
          exact k_iret C zr zlk (pi_of (by simp only [opv, lgv, nmb, isT, nI_0, show nI 1 = 1 from rfl]; first | (simp_all [vOE_E, vOE_0, vOE_1]; done) | (simp_all; decide) | (have h9 : ¬ x < y := Int32.not_lt.mpr c218; simp only [if_neg h9]; simp_all [vOE_0])) rfl) (Nat.le_refl _) (Nat.le_refl _) dX7_ofTwo_138
        · exact absurd c124 (by decide)
      · skip
        refine k_val (y := nI 3) (by rw [sw19]) ?_
        refine k_tableOut (tgt := 123) C dX7_ofTwo_19 (by decide) (by decide) ?_
        refine k_iload_n C dX7_ofTwo_123 rfl 0 rfl ?_
        refine k_if_ne (tgt := 136) C dX7_ofTwo_124 (by decide) (fun c124 => ?_) (fun c124 => ?_)
        · skip
          have b124 : ¬ 1 = 0 := fun z => c124 ((nI_eq (a := 1) (b := 0) (by omega) (by omega)).mpr z)
          refine k_ldc (v := (-2147483648)) C wd_784 dX7_ofTwo_136 ?_
          exact k_iret C zr zlk (pi_of (by simp only [opv, lgv, nmb, isT, nI_0, show nI 1 = 1 from rfl]; first | (simp_all [vOE_E, vOE_0, vOE_1]; done) | (simp_all; decide) | (have h9 : ¬ x < y := Int32.not_lt.mpr c218; simp only [if_neg h9]; simp_all [vOE_0])) rfl) (Nat.le_refl _) (Nat.le_refl _) dX7_ofTwo_138
        · exact absurd c124 (by decide)
      · skip
        refine k_val (y := nI 4) (by rw [sw19]) ?_
        refine k_tableOut (tgt := 123) C dX7_ofTwo_19 (by decide) (by decide) ?_
        refine k_iload_n C dX7_ofTwo_123 rfl 0 rfl ?_
        refine k_if_ne (tgt := 136) C dX7_ofTwo_124 (by decide) (fun c124 => ?_) (fun c124 => ?_)
        · skip
          have b124 : ¬ 1 = 0 := fun z => c124 ((nI_eq (a := 1) (b := 0) (by omega) (by omega)).mpr z)
          refine k_ldc (v := (-2147483648)) C wd_784 dX7_ofTwo_136 ?_
          exact k_iret C zr zlk (pi_of (by simp only [opv, lgv, nmb, isT, nI_0, show nI 1 = 1 from rfl]; first | (simp_all [vOE_E, vOE_0, vOE_1]; done) | (simp_all; decide) | (have h9 : ¬ x < y := Int32.not_lt.mpr c218; simp only [if_neg h9]; simp_all [vOE_0])) rfl) (Nat.le_refl _) (Nat.le_refl _) dX7_ofTwo_138
        · exact absurd c124 (by decide)
      · skip
        refine k_val (y := nI 5) (by rw [sw19]) ?_
        refine k_tableOut (tgt := 123) C dX7_ofTwo_19 (by decide) (by decide) ?_
        refine k_iload_n C dX7_ofTwo_123 rfl 0 rfl ?_
        refine k_if_ne (tgt := 136) C dX7_ofTwo_124 (by decide) (fun c124 => ?_) (fun c124 => ?_)
        · skip
          have b124 : ¬ 1 = 0 := fun z => c124 ((nI_eq (a := 1) (b := 0) (by omega) (by omega)).mpr z)
          refine k_ldc (v := (-2147483648)) C wd_784 dX7_ofTwo_136 ?_
          exact k_iret C zr zlk (pi_of (by simp only [opv, lgv, nmb, isT, nI_0, show nI 1 = 1 from rfl]; first | (simp_all [vOE_E, vOE_0, vOE_1]; done) | (simp_all; decide) | (have h9 : ¬ x < y := Int32.not_lt.mpr c218; simp only [if_neg h9]; simp_all [vOE_0])) rfl) (Nat.le_refl _) (Nat.le_refl _) dX7_ofTwo_138
        · exact absurd c124 (by decide)
      · skip
        refine k_val (y := nI 6) (by rw [sw19]) ?_
        refine k_tableIn (tgt := 44) C dX7_ofTwo_19 (by decide) (by decide) rfl (by decide) ?_
        refine k_iload_n C dX7_ofTwo_44 rfl 2 rfl ?_
        refine k_if_eq (tgt := 52) C dX7_ofTwo_45 (by decide) (fun c45 => ?_) (fun c45 => ?_)
        · skip
          refine k_iconst (v := nI 0) C dX7_ofTwo_52 rfl ?_
          refine k_goto (tgt := 66) C dX7_ofTwo_53 (by decide) ?_
          exact k_iret C zr zlk (pi_of (by simp only [opv, lgv, nmb, isT, nI_0, show nI 1 = 1 from rfl]; first | (simp_all [vOE_E, vOE_0, vOE_1]; done) | (simp_all; decide) | (have h9 : ¬ x < y := Int32.not_lt.mpr c218; simp only [if_neg h9]; simp_all [vOE_0])) rfl) (Nat.le_refl _) (Nat.le_refl _) dX7_ofTwo_66
        · skip
          refine k_iload_n C dX7_ofTwo_48 rfl 3 rfl ?_
          refine k_if_ne (tgt := 56) C dX7_ofTwo_49 (by decide) (fun c49 => ?_) (fun c49 => ?_)
          · skip
            refine k_iload_n C dX7_ofTwo_56 rfl 0 rfl ?_
            refine k_if_eq (tgt := 65) C dX7_ofTwo_57 (by decide) (fun c57 => ?_) (fun c57 => ?_)
            · exact absurd c57 (by decide)
            · skip
              have b57 : ¬ 1 = 0 := fun z => c57 ((nI_eq (a := 1) (b := 0) (by omega) (by omega)).mpr z)
              refine k_ldc (v := (-2147483648)) C wd_784 dX7_ofTwo_60 ?_
              refine k_goto (tgt := 66) C dX7_ofTwo_62 (by decide) ?_
              exact k_iret C zr zlk (pi_of (by simp only [opv, lgv, nmb, isT, nI_0, show nI 1 = 1 from rfl]; first | (simp_all [vOE_E, vOE_0, vOE_1]; done) | (simp_all; decide) | (have h9 : ¬ x < y := Int32.not_lt.mpr c218; simp only [if_neg h9]; simp_all [vOE_0])) rfl) (Nat.le_refl _) (Nat.le_refl _) dX7_ofTwo_66
          · skip
            refine k_iconst (v := nI 0) C dX7_ofTwo_52 rfl ?_
            refine k_goto (tgt := 66) C dX7_ofTwo_53 (by decide) ?_
            exact k_iret C zr zlk (pi_of (by simp only [opv, lgv, nmb, isT, nI_0, show nI 1 = 1 from rfl]; first | (simp_all [vOE_E, vOE_0, vOE_1]; done) | (simp_all; decide) | (have h9 : ¬ x < y := Int32.not_lt.mpr c218; simp only [if_neg h9]; simp_all [vOE_0])) rfl) (Nat.le_refl _) (Nat.le_refl _) dX7_ofTwo_66
      · skip
        refine k_val (y := nI 7) (by rw [sw19]) ?_
        refine k_tableIn (tgt := 67) C dX7_ofTwo_19 (by decide) (by decide) rfl (by decide) ?_
        refine k_iload_n C dX7_ofTwo_67 rfl 2 rfl ?_
        refine k_if_eq (tgt := 77) C dX7_ofTwo_68 (by decide) (fun c68 => ?_) (fun c68 => ?_)
        · skip
          refine k_iload_n C dX7_ofTwo_77 rfl 3 rfl ?_
          refine k_if_eq (tgt := 91) C dX7_ofTwo_78 (by decide) (fun c78 => ?_) (fun c78 => ?_)
          · skip
            refine k_iload_n C dX7_ofTwo_91 rfl 0 rfl ?_
            refine k_if_eq (tgt := 100) C dX7_ofTwo_92 (by decide) (fun c92 => ?_) (fun c92 => ?_)
            · exact absurd c92 (by decide)
            · skip
              have b92 : ¬ 1 = 0 := fun z => c92 ((nI_eq (a := 1) (b := 0) (by omega) (by omega)).mpr z)
              refine k_ldc (v := (-2147483648)) C wd_784 dX7_ofTwo_95 ?_
              refine k_goto (tgt := 101) C dX7_ofTwo_97 (by decide) ?_
              exact k_iret C zr zlk (pi_of (by simp only [opv, lgv, nmb, isT, nI_0, show nI 1 = 1 from rfl]; first | (simp_all [vOE_E, vOE_0, vOE_1]; done) | (simp_all; decide) | (have h9 : ¬ x < y := Int32.not_lt.mpr c218; simp only [if_neg h9]; simp_all [vOE_0])) rfl) (Nat.le_refl _) (Nat.le_refl _) dX7_ofTwo_101
          · skip
            refine k_iload_n C dX7_ofTwo_81 rfl 3 rfl ?_
            refine k_ldc (v := (-2147483648)) C wd_784 dX7_ofTwo_82 ?_
            refine k_icmp_eq (tgt := 91) C dX7_ofTwo_84 (by decide) (fun c84 => ?_) (fun c84 => ?_)
            · skip
              refine k_iload_n C dX7_ofTwo_91 rfl 0 rfl ?_
              refine k_if_eq (tgt := 100) C dX7_ofTwo_92 (by decide) (fun c92 => ?_) (fun c92 => ?_)
              · exact absurd c92 (by decide)
              · skip
                have b92 : ¬ 1 = 0 := fun z => c92 ((nI_eq (a := 1) (b := 0) (by omega) (by omega)).mpr z)
                refine k_ldc (v := (-2147483648)) C wd_784 dX7_ofTwo_95 ?_
                refine k_goto (tgt := 101) C dX7_ofTwo_97 (by decide) ?_
                exact k_iret C zr zlk (pi_of (by simp only [opv, lgv, nmb, isT, nI_0, show nI 1 = 1 from rfl]; first | (simp_all [vOE_E, vOE_0, vOE_1]; done) | (simp_all; decide) | (have h9 : ¬ x < y := Int32.not_lt.mpr c218; simp only [if_neg h9]; simp_all [vOE_0])) rfl) (Nat.le_refl _) (Nat.le_refl _) dX7_ofTwo_101
            · skip
              refine k_iconst (v := nI 1) C dX7_ofTwo_87 rfl ?_
              refine k_goto (tgt := 101) C dX7_ofTwo_88 (by decide) ?_
              exact k_iret C zr zlk (pi_of (by simp only [opv, lgv, nmb, isT, nI_0, show nI 1 = 1 from rfl]; first | (simp_all [vOE_E, vOE_0, vOE_1]; done) | (simp_all; decide) | (have h9 : ¬ x < y := Int32.not_lt.mpr c218; simp only [if_neg h9]; simp_all [vOE_0])) rfl) (Nat.le_refl _) (Nat.le_refl _) dX7_ofTwo_101
        · skip
          refine k_iload_n C dX7_ofTwo_71 rfl 2 rfl ?_
          refine k_ldc (v := (-2147483648)) C wd_784 dX7_ofTwo_72 ?_
          refine k_icmp_ne (tgt := 87) C dX7_ofTwo_74 (by decide) (fun c74 => ?_) (fun c74 => ?_)
          · skip
            refine k_iconst (v := nI 1) C dX7_ofTwo_87 rfl ?_
            refine k_goto (tgt := 101) C dX7_ofTwo_88 (by decide) ?_
            exact k_iret C zr zlk (pi_of (by simp only [opv, lgv, nmb, isT, nI_0, show nI 1 = 1 from rfl]; first | (simp_all [vOE_E, vOE_0, vOE_1]; done) | (simp_all; decide) | (have h9 : ¬ x < y := Int32.not_lt.mpr c218; simp only [if_neg h9]; simp_all [vOE_0])) rfl) (Nat.le_refl _) (Nat.le_refl _) dX7_ofTwo_101
          · skip
            refine k_iload_n C dX7_ofTwo_77 rfl 3 rfl ?_
            refine k_if_eq (tgt := 91) C dX7_ofTwo_78 (by decide) (fun c78 => ?_) (fun c78 => ?_)
            · skip
              refine k_iload_n C dX7_ofTwo_91 rfl 0 rfl ?_
              refine k_if_eq (tgt := 100) C dX7_ofTwo_92 (by decide) (fun c92 => ?_) (fun c92 => ?_)
              · exact absurd c92 (by decide)
              · skip
                have b92 : ¬ 1 = 0 := fun z => c92 ((nI_eq (a := 1) (b := 0) (by omega) (by omega)).mpr z)
                refine k_ldc (v := (-2147483648)) C wd_784 dX7_ofTwo_95 ?_
                refine k_goto (tgt := 101) C dX7_ofTwo_97 (by decide) ?_
                exact k_iret C zr zlk (pi_of (by simp only [opv, lgv, nmb, isT, nI_0, show nI 1 = 1 from rfl]; first | (simp_all [vOE_E, vOE_0, vOE_1]; done) | (simp_all; decide) | (have h9 : ¬ x < y := Int32.not_lt.mpr c218; simp only [if_neg h9]; simp_all [vOE_0])) rfl) (Nat.le_refl _) (Nat.le_refl _) dX7_ofTwo_101
            · skip
              refine k_iload_n C dX7_ofTwo_81 rfl 3 rfl ?_
              refine k_ldc (v := (-2147483648)) C wd_784 dX7_ofTwo_82 ?_
              refine k_icmp_eq (tgt := 91) C dX7_ofTwo_84 (by decide) (fun c84 => ?_) (fun c84 => ?_)
              · skip
                refine k_iload_n C dX7_ofTwo_91 rfl 0 rfl ?_
                refine k_if_eq (tgt := 100) C dX7_ofTwo_92 (by decide) (fun c92 => ?_) (fun c92 => ?_)
                · exact absurd c92 (by decide)
                · skip
                  have b92 : ¬ 1 = 0 := fun z => c92 ((nI_eq (a := 1) (b := 0) (by omega) (by omega)).mpr z)
                  refine k_ldc (v := (-2147483648)) C wd_784 dX7_ofTwo_95 ?_
                  refine k_goto (tgt := 101) C dX7_ofTwo_97 (by decide) ?_
                  exact k_iret C zr zlk (pi_of (by simp only [opv, lgv, nmb, isT, nI_0, show nI 1 = 1 from rfl]; first | (simp_all [vOE_E, vOE_0, vOE_1]; done) | (simp_all; decide) | (have h9 : ¬ x < y := Int32.not_lt.mpr c218; simp only [if_neg h9]; simp_all [vOE_0])) rfl) (Nat.le_refl _) (Nat.le_refl _) dX7_ofTwo_101
              · skip
                refine k_iconst (v := nI 1) C dX7_ofTwo_87 rfl ?_
                refine k_goto (tgt := 101) C dX7_ofTwo_88 (by decide) ?_
                exact k_iret C zr zlk (pi_of (by simp only [opv, lgv, nmb, isT, nI_0, show nI 1 = 1 from rfl]; first | (simp_all [vOE_E, vOE_0, vOE_1]; done) | (simp_all; decide) | (have h9 : ¬ x < y := Int32.not_lt.mpr c218; simp only [if_neg h9]; simp_all [vOE_0])) rfl) (Nat.le_refl _) (Nat.le_refl _) dX7_ofTwo_101
set_option maxHeartbeats 4000000 in
set_option maxRecDepth 100000 in
theorem c_of8 {zl : Launch} {D : va_G} {cI cN cR : ClassId} {base : Nat} {V : gv_V} {x y : Int32}    : ct zl D [(cI, .int), (cN, .object "AlgebraTree$Node"), (cR, .object "AlgebraTree$Rows")] base yX7_ofTwo cX7_ofTwo 6 (some .int) 1 0 0 [.int (nI 8), .int x, .int y] V (pi (opv 8 x x) V) := by
  refine ct_of "AlgebraTreeModel" rfl (by decide) (Nat.le_of_ble_eq_true rfl) ?_
  intro zp ze zs zm zargs zbelow zmeth zc C zr zlk znm
  refine k_pc (pc' := 0) (st' := []) rfl rfl ?_
  show K zp zl ze (gv_rm 1 0 0) zs zm zargs zbelow zmeth zc D base 6 (gv_E D [(cI, .int), (cN, .object "AlgebraTree$Node"), (cR, .object "AlgebraTree$Rows")] base zbelow zargs zs 0 0 (pi (opv 8 x x) V)) V 0 0 [(0, .int (nI 8)), (1, .int x), (2, .int y)] 0 []
  refine k_iload_n C dX7_ofTwo_0 rfl 1 rfl ?_
  refine k_ldc (v := (-2147483648)) C wd_784 dX7_ofTwo_1 ?_
  refine k_icmp_eq (tgt := 12) C dX7_ofTwo_3 (by decide) (fun c3 => ?_) (fun c3 => ?_)
  · skip
    refine k_iconst (v := nI 1) C dX7_ofTwo_12 rfl ?_
    refine k_goto (tgt := 17) C dX7_ofTwo_13 (by decide) ?_
    refine k_istore_n (lv' := [(3, .int (nI 1)), (0, .int (nI 8)), (1, .int x), (2, .int y)]) C dX7_ofTwo_17 rfl (by decide) rfl ?_
    refine k_iload_n C dX7_ofTwo_18 rfl 1 rfl ?_
    have sw19 : 8 = 8 := rfl
    refine k_val (y := nI 8) (by rw [sw19]) ?_
    refine k_tableIn (tgt := 102) C dX7_ofTwo_19 (by decide) (by decide) rfl (by decide) ?_
    refine k_iload_n C dX7_ofTwo_102 rfl 2 rfl ?_
    refine k_ldc (v := (-2147483648)) C wd_784 dX7_ofTwo_103 ?_
    refine k_icmp_ne (tgt := 113) C dX7_ofTwo_105 (by decide) (fun c105 => ?_) (fun c105 => ?_)
    · skip
      refine k_iload_n C dX7_ofTwo_113 rfl 2 rfl ?_
      refine k_if_ne (tgt := 121) C dX7_ofTwo_114 (by decide) (fun c114 => ?_) (fun c114 => ?_)
      · skip
        refine k_iconst (v := nI 0) C dX7_ofTwo_121 rfl ?_
        exact k_iret C zr zlk (pi_of (by simp only [opv, lgv, isT, nI_0, show nI 1 = 1 from rfl]; first | (simp_all [vOE_E, vOE_0, vOE_1]; done) | (simp_all; decide) | (have h9 : ¬ x < y := Int32.not_lt.mpr c218; simp only [if_neg h9]; simp_all [vOE_0])) rfl) (Nat.le_refl _) (Nat.le_refl _) dX7_ofTwo_122
      · skip
        refine k_iconst (v := nI 1) C dX7_ofTwo_117 rfl ?_
        refine k_goto (tgt := 122) C dX7_ofTwo_118 (by decide) ?_
        exact k_iret C zr zlk (pi_of (by simp only [opv, lgv, isT, nI_0, show nI 1 = 1 from rfl]; first | (simp_all [vOE_E, vOE_0, vOE_1]; done) | (simp_all; decide) | (have h9 : ¬ x < y := Int32.not_lt.mpr c218; simp only [if_neg h9]; simp_all [vOE_0])) rfl) (Nat.le_refl _) (Nat.le_refl _) dX7_ofTwo_122
    · skip
      refine k_ldc (v := (-2147483648)) C wd_784 dX7_ofTwo_108 ?_
      refine k_goto (tgt := 122) C dX7_ofTwo_110 (by decide) ?_
      exact k_iret C zr zlk (pi_of (by simp only [opv, lgv, isT, nI_0, show nI 1 = 1 from rfl]; first | (simp_all [vOE_E, vOE_0, vOE_1]; done) | (simp_all; decide) | (have h9 : ¬ x < y := Int32.not_lt.mpr c218; simp only [if_neg h9]; simp_all [vOE_0])) rfl) (Nat.le_refl _) (Nat.le_refl _) dX7_ofTwo_122
  · skip
    refine k_iload_n C dX7_ofTwo_6 rfl 2 rfl ?_
    refine k_ldc (v := (-2147483648)) C wd_784 dX7_ofTwo_7 ?_
    refine k_icmp_ne (tgt := 16) C dX7_ofTwo_9 (by decide) (fun c9 => ?_) (fun c9 => ?_)
    · skip
      refine k_iconst (v := nI 0) C dX7_ofTwo_16 rfl ?_
      refine k_istore_n (lv' := [(3, .int (nI 0)), (0, .int (nI 8)), (1, .int x), (2, .int y)]) C dX7_ofTwo_17 rfl (by decide) rfl ?_
      refine k_iload_n C dX7_ofTwo_18 rfl 1 rfl ?_
      have sw19 : 8 = 8 := rfl
      refine k_val (y := nI 8) (by rw [sw19]) ?_
      refine k_tableIn (tgt := 102) C dX7_ofTwo_19 (by decide) (by decide) rfl (by decide) ?_
      refine k_iload_n C dX7_ofTwo_102 rfl 2 rfl ?_
      refine k_ldc (v := (-2147483648)) C wd_784 dX7_ofTwo_103 ?_
      refine k_icmp_ne (tgt := 113) C dX7_ofTwo_105 (by decide) (fun c105 => ?_) (fun c105 => ?_)
      · skip
        refine k_iload_n C dX7_ofTwo_113 rfl 2 rfl ?_
        refine k_if_ne (tgt := 121) C dX7_ofTwo_114 (by decide) (fun c114 => ?_) (fun c114 => ?_)
        · skip
          refine k_iconst (v := nI 0) C dX7_ofTwo_121 rfl ?_
          exact k_iret C zr zlk (pi_of (by simp only [opv, lgv, isT, nI_0, show nI 1 = 1 from rfl]; first | (simp_all [vOE_E, vOE_0, vOE_1]; done) | (simp_all; decide) | (have h9 : ¬ x < y := Int32.not_lt.mpr c218; simp only [if_neg h9]; simp_all [vOE_0])) rfl) (Nat.le_refl _) (Nat.le_refl _) dX7_ofTwo_122
        · skip
          refine k_iconst (v := nI 1) C dX7_ofTwo_117 rfl ?_
          refine k_goto (tgt := 122) C dX7_ofTwo_118 (by decide) ?_
          exact k_iret C zr zlk (pi_of (by simp only [opv, lgv, isT, nI_0, show nI 1 = 1 from rfl]; first | (simp_all [vOE_E, vOE_0, vOE_1]; done) | (simp_all; decide) | (have h9 : ¬ x < y := Int32.not_lt.mpr c218; simp only [if_neg h9]; simp_all [vOE_0])) rfl) (Nat.le_refl _) (Nat.le_refl _) dX7_ofTwo_122
      · skip
        refine k_ldc (v := (-2147483648)) C wd_784 dX7_ofTwo_108 ?_
        refine k_goto (tgt := 122) C dX7_ofTwo_110 (by decide) ?_
        exact k_iret C zr zlk (pi_of (by simp only [opv, lgv, isT, nI_0, show nI 1 = 1 from rfl]; first | (simp_all [vOE_E, vOE_0, vOE_1]; done) | (simp_all; decide) | (have h9 : ¬ x < y := Int32.not_lt.mpr c218; simp only [if_neg h9]; simp_all [vOE_0])) rfl) (Nat.le_refl _) (Nat.le_refl _) dX7_ofTwo_122
    · skip
      refine k_iconst (v := nI 1) C dX7_ofTwo_12 rfl ?_
      refine k_goto (tgt := 17) C dX7_ofTwo_13 (by decide) ?_
      refine k_istore_n (lv' := [(3, .int (nI 1)), (0, .int (nI 8)), (1, .int x), (2, .int y)]) C dX7_ofTwo_17 rfl (by decide) rfl ?_
      refine k_iload_n C dX7_ofTwo_18 rfl 1 rfl ?_
      have sw19 : 8 = 8 := rfl
      refine k_val (y := nI 8) (by rw [sw19]) ?_
      refine k_tableIn (tgt := 102) C dX7_ofTwo_19 (by decide) (by decide) rfl (by decide) ?_
      refine k_iload_n C dX7_ofTwo_102 rfl 2 rfl ?_
      refine k_ldc (v := (-2147483648)) C wd_784 dX7_ofTwo_103 ?_
      refine k_icmp_ne (tgt := 113) C dX7_ofTwo_105 (by decide) (fun c105 => ?_) (fun c105 => ?_)
      · skip
        refine k_iload_n C dX7_ofTwo_113 rfl 2 rfl ?_
        refine k_if_ne (tgt := 121) C dX7_ofTwo_114 (by decide) (fun c114 => ?_) (fun c114 => ?_)
        · skip
          refine k_iconst (v := nI 0) C dX7_ofTwo_121 rfl ?_
          exact k_iret C zr zlk (pi_of (by simp only [opv, lgv, isT, nI_0, show nI 1 = 1 from rfl]; first | (simp_all [vOE_E, vOE_0, vOE_1]; done) | (simp_all; decide) | (have h9 : ¬ x < y := Int32.not_lt.mpr c218; simp only [if_neg h9]; simp_all [vOE_0])) rfl) (Nat.le_refl _) (Nat.le_refl _) dX7_ofTwo_122
        · skip
          refine k_iconst (v := nI 1) C dX7_ofTwo_117 rfl ?_
          refine k_goto (tgt := 122) C dX7_ofTwo_118 (by decide) ?_
          exact k_iret C zr zlk (pi_of (by simp only [opv, lgv, isT, nI_0, show nI 1 = 1 from rfl]; first | (simp_all [vOE_E, vOE_0, vOE_1]; done) | (simp_all; decide) | (have h9 : ¬ x < y := Int32.not_lt.mpr c218; simp only [if_neg h9]; simp_all [vOE_0])) rfl) (Nat.le_refl _) (Nat.le_refl _) dX7_ofTwo_122
      · skip
        refine k_ldc (v := (-2147483648)) C wd_784 dX7_ofTwo_108 ?_
        refine k_goto (tgt := 122) C dX7_ofTwo_110 (by decide) ?_
        exact k_iret C zr zlk (pi_of (by simp only [opv, lgv, isT, nI_0, show nI 1 = 1 from rfl]; first | (simp_all [vOE_E, vOE_0, vOE_1]; done) | (simp_all; decide) | (have h9 : ¬ x < y := Int32.not_lt.mpr c218; simp only [if_neg h9]; simp_all [vOE_0])) rfl) (Nat.le_refl _) (Nat.le_refl _) dX7_ofTwo_122
