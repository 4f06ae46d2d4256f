/-! the reference's tables -/
def tbl (fr : Nat → Int32) (t : Nat) : Nat → Int32 := fun j => fr (480 * t + j)
def MTb (S : Option (List Row)) (c : Int32) (f : Nat → Int32) : Prop := match S with
  | none => c = -2
  | some M => c = nI M.length ∧ Tab M M.length f
def MRep (M : List Row) (c : Int32) (f : Nat → Int32) : Prop := (M.length ≤ 80 ∧ c = nI M.length ∧ Tab M M.length f) ∨ (80 < M.length ∧ c = -2)
theorem MRep.tb {M : List Row} {c : Int32} {f : Nat → Int32} (h : MRep M c f) : MTb (cap M) c f := by
  unfold cap
  rcases h with ⟨h1, h2, h3⟩ | ⟨h1, h2⟩
  · rw [if_pos h1]; exact ⟨h2, h3⟩
  · rw [if_neg (by omega)]; exact h2
theorem MRep.nil {c : Int32} {f : Nat → Int32} (h : c = 0) : MRep [] c f := Or.inl ⟨Nat.zero_le _, h, rfl, Nat.zero_le _, fun i hi => absurd hi (Nat.not_lt_zero _)⟩
/-- all but one table stay -/
def Kp (to : Nat) (fc fr fc1 fr1 : Nat → Int32) : Prop := ∀ t, ¬ t = to → fc1 t = fc t ∧ ∀ j, j < 480 → tbl fr1 t j = tbl fr t j
theorem Kp.rf {to : Nat} {fc fr : Nat → Int32} : Kp to fc fr fc fr := fun _ _ => ⟨rfl, fun _ _ => rfl⟩
theorem Kp.tr {to : Nat} {fc fr fc1 fr1 fc2 fr2 : Nat → Int32} (h : Kp to fc fr fc1 fr1) (h2 : Kp to fc1 fr1 fc2 fr2) : Kp to fc fr fc2 fr2 := fun t ht => ⟨(h2 t ht).1.trans (h t ht).1, fun j hj => ((h2 t ht).2 j hj).trans ((h t ht).2 j hj)⟩
theorem Tab.kp {M : List Row} {n to t : Nat} {fc fr fc1 fr1 : Nat → Int32} (h : Tab M n (tbl fr t)) (hk : Kp to fc fr fc1 fr1) (ht : ¬ t = to) : Tab M n (tbl fr1 t) := by
  refine ⟨h.1, h.2.1, fun i hi v hv => ?_⟩
  have h80 := h.2.1
  rw [← h.2.2 i hi v hv]
  exact (hk t ht).2 _ (by omega)
theorem tbl_lo {fr : Nat → Int32} {to n j t : Nat} {r : Row} (hn : n < 80) (hj : j < 480) (h : ¬ t = to ∨ j < n * 6) : tbl (wrk fr (80 * to + n) r 6) t j = tbl fr t j := by
  unfold tbl wrk
  rw [if_neg (by omega)]
theorem tbl_in {fr : Nat → Int32} {to n v : Nat} {r : Row} (hv : v < 6) : tbl (wrk fr (80 * to + n) r 6) to (n * 6 + v) = r v := by
  unfold tbl wrk
  rw [if_pos (by omega)]
  congr 1
  omega
theorem Tab.app {M : List Row} {to : Nat} {fr : Nat → Int32} {r r2 : Row} (h : Tab M M.length (tbl fr to)) (hn : M.length < 80) (hr : eq6 r2 r) : Tab (M ++ [r]) (M ++ [r]).length (tbl (wrk fr (80 * to + M.length) r2 6) to) := by
  have hl : (M ++ [r]).length = M.length + 1 := by simp
  refine ⟨rfl, by omega, fun i hi v hv => ?_⟩
  rw [hl] at hi
  rcases Nat.lt_or_ge i M.length with hi2 | hi2
  · rw [rowAt_app hi2, ← h.2.2 i hi2 v hv]
    exact tbl_lo hn (by omega) (Or.inr (by omega))
  · rw [show i = M.length by omega, rowAt_last, ← hr v hv]
    exact tbl_in hv
theorem and1 (y : Int32) : y &&& 1 = 1 ↔ bt y 0 = true := by
  constructor
  · intro h
    have h2 := b_and y 1 0
    rw [h, b_1 0 (by decide)] at h2
    simpa using h2.symm
  · intro h
    exact b_ext (fun i hi => by
      rw [b_and, b_1 i hi]
      by_cases hz : i = 0
      · subst hz; rw [h]; rfl
      · rw [decide_eq_false hz, Bool.and_false])
theorem inS_1 {x v : Int32} : (x >>> (v &&& 31)) &&& nI 1 = nI 1 ↔ inS x v = true := by
  rw [show nI 1 = 1 from rfl, and1]
  unfold inS
  rw [b_low, Bool.not_not]
theorem evm_c {E : Nat → Ex} {ne : Nat} {fa : Nat → Int32} (hM : MA E ne fa) {r r' : Row} (hr : eq6 r r') : ∀ (m k : Nat), k < m → k < ne → ev E r k = ev E r' k
  | 0, _, h, _ => absurd h (Nat.not_lt_zero _)
  | m + 1, k, h, hk => by
    have hne := hM.1
    have ih : ∀ i, i < k → ev E r i = ev E r' i := fun i hi => evm_c hM hr m i (by omega) (by omega)
    have h11 := hM.le hk
    by_cases h8 : (E k).1 ≤ 8
    · obtain ⟨i1, hi1, hx1⟩ := hM.op1 hk h8
      by_cases h88 : (E k).1 = 8
      · rw [ev_m8 h88 (by omega) hi1 hx1, ev_m8 h88 (by omega) hi1 hx1, ih i1 hi1]
      · obtain ⟨i2, hi2, hx2⟩ := hM.op2 hk h8 h88
        rw [ev_m2 (by omega) (by omega) hi1 hi2 hx1 hx2, ev_m2 (by omega) (by omega) hi1 hi2 hx1 hx2, ih i1 hi1, ih i2 hi2]
    · by_cases h9 : (E k).1 = 9
      · rw [ev_m9 h9, ev_m9 h9]
      · obtain ⟨v, hv, hx⟩ := hM.va hk (by omega)
        by_cases h10 : (E k).1 = 10
        · rw [ev_mv h10 hv hx, ev_mv h10 hv hx, hr v hv]
        · rw [ev_mb (by omega) hv hx, ev_mb (by omega) hv hx, hr v hv]
theorem MA.c {E : Nat → Ex} {ne : Nat} {fa : Nat → Int32} (hM : MA E ne fa) {r r' : Row} {k : Nat} (hk : k < ne) (hr : eq6 r r') : ev E r k = ev E r' k := evm_c hM hr _ _ (Nat.lt_succ_self _) hk
theorem nI_n2 {e : Nat} (h : e < 2 ^ 31) : ¬ nI e = -2 := fun q => by
  have := nI_pos h
  rw [q] at this
  exact this (by decide)
theorem fit_g {x t : Int32} {r : Row} {v : Nat} (hv : v < 6) (h0 : x < 0) (hx : (-1) - x = nI v) : fitB x t r = (r v == -2147483648 || r v == t) := by
  unfold fitB
  rw [if_neg (Int32.not_le.mpr h0), hx, nI_clamp (by omega)]
  unfold fitR
  rw [if_neg (Int32.not_le.mpr h0), hx, nI_clamp (by omega)]
  show ((if v = v ∧ r v = oE then t else r v) == t) = _
  by_cases h : r v = oE
  · rw [if_pos ⟨rfl, h⟩, h]; simp
  · rw [if_neg (fun q => h q.2)]; simp [show ¬ r v = -2147483648 from h]
theorem fit_m {x t : Int32} {r : Row} {v z : Nat} (hv : v < 6) (h0 : x < 0) (hx : (-1) - x = nI v) (hg : fitB x t r = true) (hz : z < 6) : upd r v t z = fitR x t r z := by
  unfold fitB at hg
  rw [if_neg (Int32.not_le.mpr h0), hx, nI_clamp (by omega)] at hg
  unfold fitR at hg ⊢
  rw [if_neg (Int32.not_le.mpr h0), hx, nI_clamp (by omega)] at hg ⊢
  simp only [upd]
  by_cases h : z = v
  · subst h
    simp only [true_and, if_pos, if_true] at hg ⊢
    exact (eq_of_beq hg).symm
  · rw [if_neg h]
    have e2 : (if z = v ∧ r z = oE then t else r z) = r z := if_neg (fun q => h q.1)
    exact e2.symm
set_option maxHeartbeats 4000000 in
set_option maxRecDepth 100000 in
theorem c_X7_table {zl : Launch} {D : va_G} {cI cN cR : ClassId} {base : Nat} {V : gv_V} {i g : Nat}    : ct zl D [(cI, .int), (cN, .object "AlgebraTree$Node"), (cR, .object "AlgebraTree$Rows")] base yX7_table cX7_table 2 (some .int) 0 0 0 [.int (nI i), .int (nI g)] V (pi (nI (4 * i + g)) V) := by
  refine ct_of "AlgebraTreeModel" rfl (by decide) (Nat.le_of_ble_eq_true rfl) ?_
  intro zp ze zs zm zargs zbelow zmeth zc C zr zlk znm
  refine k_pc (pc' := 0) (st' := []) rfl rfl ?_
  show K zp zl ze (gv_rm 0 0 0) zs zm zargs zbelow zmeth zc D base 2 (gv_E D [(cI, .int), (cN, .object "AlgebraTree$Node"), (cR, .object "AlgebraTree$Rows")] base zbelow zargs zs 0 0 (pi (nI (4 * i + g)) V)) V 0 0 [(0, .int (nI i)), (1, .int (nI g))] 0 []
  refine k_iconst (v := nI 4) C dX7_table_0 rfl ?_
  refine k_iload_n C dX7_table_1 rfl 0 rfl ?_
  refine k_imul C dX7_table_2 ?_
  refine k_val (y := nI (4 * i)) (pk_mul 4 i) ?_
  refine k_iload_n C dX7_table_3 rfl 1 rfl ?_
  refine k_iadd C dX7_table_4 ?_
  refine k_val (y := nI ((4 * i) + g)) (nI_add (4 * i) g) ?_
  exact k_iret C zr zlk (pi_of rfl rfl) (Nat.le_refl _) (Nat.le_refl _) dX7_table_5
set_option maxHeartbeats 4000000 in
set_option maxRecDepth 100000 in
theorem c_X7_cell {zl : Launch} {D : va_G} {cI cN cR : ClassId} {base : Nat} {V : gv_V} {m wt wa wv wm wr wc wn ws wk wp nt ne nn sh : Nat} {kn : Int32} {fr : Nat → Int32} {t i v : Nat}  (h_m : V m = some (.inr (7, [.int (nI nt), .ref wt, .int (nI ne), .ref wa, .ref wv, .int (nI nn), .ref wm, .int kn, .ref wr, .ref wc, .ref wn, .int (nI sh), .ref ws, .ref wk, .ref wp]))) (h_wr : V wr = some (.inl (cI, 57600, .inl fr))) (ht : t < 120) (hi : i < 80) (hv : v < 6) : ct zl D [(cI, .int), (cN, .object "AlgebraTree$Node"), (cR, .object "AlgebraTree$Rows")] base yX7_cell cX7_cell 4 (some .int) 0 0 0 [.ref m, .int (nI t), .int (nI i), .int (nI v)] V (pi (rwf (tbl fr t) i v) V) := by
  refine ct_of "AlgebraTreeModel" rfl (by decide) (Nat.le_of_ble_eq_true rfl) ?_
  intro zp ze zs zm zargs zbelow zmeth zc C zr zlk znm
  refine k_pc (pc' := 0) (st' := []) rfl rfl ?_
  show K zp zl ze (gv_rm 0 0 0) zs zm zargs zbelow zmeth zc D base 4 (gv_E D [(cI, .int), (cN, .object "AlgebraTree$Node"), (cR, .object "AlgebraTree$Rows")] base zbelow zargs zs 0 0 (pi (rwf (tbl fr t) i v) V)) V 0 0 [(0, .ref m), (1, .int (nI t)), (2, .int (nI i)), (3, .int (nI v))] 0 []
  refine k_aload_n C dX7_cell_0 rfl 0 rfl ?_
  refine k_get (ci := 7) (k := 8) C fl_7_23 h_m rfl dX7_cell_1 ?_
  refine k_bipush (v := nI 6) C dX7_cell_4 rfl ?_
  refine k_bipush (v := nI 80) C dX7_cell_6 rfl ?_
  refine k_iload_n C dX7_cell_8 rfl 1 rfl ?_
  refine k_imul C dX7_cell_9 ?_
  refine k_val (y := nI (80 * t)) (pk_mul 80 t) ?_
  refine k_iload_n C dX7_cell_10 rfl 2 rfl ?_
  refine k_iadd C dX7_cell_11 ?_
  refine k_val (y := nI ((80 * t) + i)) (nI_add (80 * t) i) ?_
  refine k_imul C dX7_cell_12 ?_
  refine k_val (y := nI (6 * ((80 * t) + i))) (pk_mul 6 ((80 * t) + i)) ?_
  refine k_iload_n C dX7_cell_13 rfl 3 rfl ?_
  refine k_iadd C dX7_cell_14 ?_
  refine k_val (y := nI ((6 * ((80 * t) + i)) + v)) (nI_add (6 * ((80 * t) + i)) v) ?_
  refine k_iald (v := fr ((6 * ((80 * t) + i)) + v)) C 0 h_wr rfl (vp_in_nI (by omega) (by omega)) (by rw [nI_clamp (by omega)]) dX7_cell_15 ?_
  exact k_iret C zr zlk (pi_of (by simp only [rwf, tbl]; congr 1; omega) rfl) (Nat.le_refl _) (Nat.le_refl _) dX7_cell_16
set_option maxHeartbeats 4000000 in
set_option maxRecDepth 100000 in
theorem c_X7_take {zl : Launch} {D : va_G} {cI cN cR : ClassId} {base : Nat} {V : gv_V} {m wt wa wv wm wr wc wn ws wk wp nt ne nn sh : Nat} {kn : Int32} {fr fw : Nat → Int32} {t i : Nat}  (h_m : V m = some (.inr (7, [.int (nI nt), .ref wt, .int (nI ne), .ref wa, .ref wv, .int (nI nn), .ref wm, .int kn, .ref wr, .ref wc, .ref wn, .int (nI sh), .ref ws, .ref wk, .ref wp]))) (h_wr : V wr = some (.inl (cI, 57600, .inl fr))) (h_wn : V wn = some (.inl (cI, 6, .inl fw))) (ht : t < 120) (hi : i < 80) : ct zl D [(cI, .int), (cN, .object "AlgebraTree$Node"), (cR, .object "AlgebraTree$Rows")] base yX7_take cX7_take 4 none 1 0 0 [.ref m, .int (nI t), .int (nI i)] V (fun zv zV => ∃ fw1 : Nat → Int32, zv = none ∧ zV = gv_up V wn (.inl (cI, 6, .inl fw1)) ∧ (eq6 fw1 (rwf (tbl fr t) i))) := by
  refine ct_of "AlgebraTreeModel" rfl (by decide) (Nat.le_of_ble_eq_true rfl) ?_
  intro zp ze zs zm zargs zbelow zmeth zc C zr zlk znm
  refine k_pc (pc' := 0) (st' := []) rfl rfl ?_
  show K zp zl ze (gv_rm 1 0 0) zs zm zargs zbelow zmeth zc D base 4 (gv_E D [(cI, .int), (cN, .object "AlgebraTree$Node"), (cR, .object "AlgebraTree$Rows")] base zbelow zargs zs 0 0 (fun zv zV => ∃ fw1 : Nat → Int32, zv = none ∧ zV = gv_up V wn (.inl (cI, 6, .inl fw1)) ∧ (eq6 fw1 (rwf (tbl fr t) i)))) V 0 0 [(0, .ref m), (1, .int (nI t)), (2, .int (nI i))] 0 []
  refine k_iconst (v := nI 0) C dX7_take_0 rfl ?_
  refine k_istore_n (lv' := [(3, .int (nI 0)), (0, .ref m), (1, .int (nI t)), (2, .int (nI i))]) C dX7_take_1 rfl (by decide) rfl ?_
  have L2 : ∀ (zn1 : Nat) (k : Nat) (fw1 : Nat → Int32), 6 - k < zn1 → (k ≤ 6) → (∀ z, z < k → fw1 z = rwf (tbl fr t) i z) → K zp zl ze (gv_rm 1 0 0) zs zm zargs zbelow zmeth zc D base 4 (gv_E D [(cI, .int), (cN, .object "AlgebraTree$Node"), (cR, .object "AlgebraTree$Rows")] base zbelow zargs zs 0 0 (fun zv zV => ∃ fw1 : Nat → Int32, zv = none ∧ zV = gv_up V wn (.inl (cI, 6, .inl fw1)) ∧ (eq6 fw1 (rwf (tbl fr t) i)))) (gv_up V wn (.inl (cI, 6, .inl fw1))) 0 0 [(3, .int (nI k)), (0, .ref m), (1, .int (nI t)), (2, .int (nI i))] 2 [] := by
    intro zn1
    induction zn1 with
    | zero => intro k fw1 hlt; exact absurd hlt (Nat.not_lt_zero _)
    | succ zn1 ih2 =>
      intro k fw1 hlt2  hk hal
      refine k_iload_n C dX7_take_2 rfl 0 rfl ?_
      refine k_bipush (v := nI 6) C dX7_take_3 rfl ?_
      refine k_icmp_ge (tgt := 27) C dX7_take_5 (by decide) (fun c5 => ?_) (fun c5 => ?_)
      · skip
        have b5 : 6 ≤ k := (nI_leI (a := 6) (b := k) (by omega) (by omega)).mp c5
        exact k_vret C zr zlk ⟨fw1, rfl, rfl, (fun z hz => hal z (by omega))⟩ (Nat.le_refl _) (Nat.le_refl _) dX7_take_27
      · skip
        have b5 : ¬ 6 ≤ k := fun z => c5 ((nI_leI (a := 6) (b := k) (by omega) (by omega)).mpr z)
        refine k_aload_n C dX7_take_8 rfl 1 rfl ?_
        have ne2 : nq m wn := gv_ne h_wn h_m (by simp)
        refine k_get (ci := 7) (k := 10) C fl_7_29 ((gv_up_n ne2).trans h_m) rfl dX7_take_9 ?_
        refine k_iload_n C dX7_take_12 rfl 0 rfl ?_
        refine k_aload_n C dX7_take_13 rfl 1 rfl ?_
        refine k_iload_n C dX7_take_14 rfl 2 rfl ?_
        refine k_iload_n C dX7_take_15 rfl 3 rfl ?_
        refine k_iload_n C dX7_take_16 rfl 0 rfl ?_
        have ne3 : nq wr wn := gv_ne h_wn h_wr (by simp)
        refine k_callV_pi C mv_7_98 (c_X7_cell  ((gv_up_n ne2).trans h_m) ((gv_up_n ne3).trans h_wr) (by first | assumption | omega) (by first | assumption | omega) (by first | assumption | omega)) ((gv_up_n ne2).trans h_m) rfl rfl (by simp [Value.category]) ⟨Nat.le_of_ble_eq_true rfl, Nat.le_of_ble_eq_true rfl⟩ ⟨(by decide), (by decide)⟩ dX7_take_17 ?_
        refine k_iast (f' := upd fw1 k (rwf (tbl fr t) i k)) C 0 gv_up_s rfl (vp_in_nI (by omega) (by omega)) (by rw [nI_clamp (by omega)]) dX7_take_20 ?_
        refine k_view (V1 := gv_up V wn (.inl (cI, 6, .inl (upd fw1 k (rwf (tbl fr t) i k))))) gv_uu ?_
        refine k_iinc (v := nI (k + 1)) (lv' := [(3, .int (nI (k + 1))), (0, .ref m), (1, .int (nI t)), (2, .int (nI i))]) C dX7_take_21 (k := 0) rfl (nI_add k 1) (by decide) rfl ?_
        refine k_goto (tgt := 2) C dX7_take_24 (by decide) ?_
        exact ih2 (k + 1) (upd fw1 k (rwf (tbl fr t) i k)) (by omega)  (by omega) (upd_nx hal rfl)
  refine k_view (V1 := gv_up V wn (.inl (cI, 6, .inl fw))) (gv_id h_wn).symm ?_
  exact L2 _ 0 fw (Nat.lt_succ_self _)  (by omega) (fun _ h => absurd h (Nat.not_lt_zero _))
set_option maxHeartbeats 4000000 in
set_option maxRecDepth 100000 in
theorem c_X7_open {zl : Launch} {D : va_G} {cI cN cR : ClassId} {base : Nat} {V : gv_V} {m wt wa wv wm wr wc wn ws wk wp nt ne nn sh : Nat} {kn : Int32} {fw : Nat → Int32}  (h_m : V m = some (.inr (7, [.int (nI nt), .ref wt, .int (nI ne), .ref wa, .ref wv, .int (nI nn), .ref wm, .int kn, .ref wr, .ref wc, .ref wn, .int (nI sh), .ref ws, .ref wk, .ref wp]))) (h_wn : V wn = some (.inl (cI, 6, .inl fw)))  : ct zl D [(cI, .int), (cN, .object "AlgebraTree$Node"), (cR, .object "AlgebraTree$Rows")] base yX7_open cX7_open 2 none 1 0 0 [.ref m] V (fun zv zV => ∃ fw1 : Nat → Int32, zv = none ∧ zV = gv_up V wn (.inl (cI, 6, .inl fw1)) ∧ (eq6 fw1 opn)) := by
  refine ct_of "AlgebraTreeModel" rfl (by decide) (Nat.le_of_ble_eq_true rfl) ?_
  intro zp ze zs zm zargs zbelow zmeth zc C zr zlk znm
  refine k_pc (pc' := 0) (st' := []) rfl rfl ?_
  show K zp zl ze (gv_rm 1 0 0) zs zm zargs zbelow zmeth zc D base 2 (gv_E D [(cI, .int), (cN, .object "AlgebraTree$Node"), (cR, .object "AlgebraTree$Rows")] base zbelow zargs zs 0 0 (fun zv zV => ∃ fw1 : Nat → Int32, zv = none ∧ zV = gv_up V wn (.inl (cI, 6, .inl fw1)) ∧ (eq6 fw1 opn))) V 0 0 [(0, .ref m)] 0 []
  refine k_iconst (v := nI 0) C dX7_open_0 rfl ?_
  refine k_istore_n (lv' := [(1, .int (nI 0)), (0, .ref m)]) C dX7_open_1 rfl (by decide) rfl ?_
  have L2 : ∀ (zn1 : Nat) (k : Nat) (fw1 : Nat → Int32), 6 - k < zn1 → (k ≤ 6) → (∀ z, z < k → fw1 z = opn z) → K zp zl ze (gv_rm 1 0 0) zs zm zargs zbelow zmeth zc D base 2 (gv_E D [(cI, .int), (cN, .object "AlgebraTree$Node"), (cR, .object "AlgebraTree$Rows")] base zbelow zargs zs 0 0 (fun zv zV => ∃ fw1 : Nat → Int32, zv = none ∧ zV = gv_up V wn (.inl (cI, 6, .inl fw1)) ∧ (eq6 fw1 opn))) (gv_up V wn (.inl (cI, 6, .inl fw1))) 0 0 [(1, .int (nI k)), (0, .ref m)] 2 [] := by
    intro zn1
    induction zn1 with
    | zero => intro k fw1 hlt; exact absurd hlt (Nat.not_lt_zero _)
    | succ zn1 ih2 =>
      intro k fw1 hlt2  hk hal
      refine k_iload_n C dX7_open_2 rfl 0 rfl ?_
      refine k_bipush (v := nI 6) C dX7_open_3 rfl ?_
      refine k_icmp_ge (tgt := 22) C dX7_open_5 (by decide) (fun c5 => ?_) (fun c5 => ?_)
      · skip
        have b5 : 6 ≤ k := (nI_leI (a := 6) (b := k) (by omega) (by omega)).mp c5
        exact k_vret C zr zlk ⟨fw1, rfl, rfl, (fun z hz => hal z (by omega))⟩ (Nat.le_refl _) (Nat.le_refl _) dX7_open_22
      · skip
        have b5 : ¬ 6 ≤ k := fun z => c5 ((nI_leI (a := 6) (b := k) (by omega) (by omega)).mpr z)
        refine k_aload_n C dX7_open_8 rfl 1 rfl ?_
        have ne2 : nq m wn := gv_ne h_wn h_m (by simp)
        refine k_get (ci := 7) (k := 10) C fl_7_29 ((gv_up_n ne2).trans h_m) rfl dX7_open_9 ?_
        refine k_iload_n C dX7_open_12 rfl 0 rfl ?_
        refine k_ldc (v := (-2147483648)) C wd_784 dX7_open_13 ?_
        refine k_iast (f' := upd fw1 k (-2147483648 : Int32)) C 0 gv_up_s rfl (vp_in_nI (by omega) (by omega)) (by rw [nI_clamp (by omega)]) dX7_open_15 ?_
        refine k_view (V1 := gv_up V wn (.inl (cI, 6, .inl (upd fw1 k (-2147483648 : Int32))))) gv_uu ?_
        refine k_iinc (v := nI (k + 1)) (lv' := [(1, .int (nI (k + 1))), (0, .ref m)]) C dX7_open_16 (k := 0) rfl (nI_add k 1) (by decide) rfl ?_
        refine k_goto (tgt := 2) C dX7_open_19 (by decide) ?_
        exact ih2 (k + 1) (upd fw1 k (-2147483648 : Int32)) (by omega)  (by omega) (upd_nx hal rfl)
  refine k_view (V1 := gv_up V wn (.inl (cI, 6, .inl fw))) (gv_id h_wn).symm ?_
  exact L2 _ 0 fw (Nat.lt_succ_self _)  (by omega) (fun _ h => absurd h (Nat.not_lt_zero _))
set_option maxHeartbeats 4000000 in
set_option maxRecDepth 100000 in
theorem c_X7_add {zl : Launch} {D : va_G} {cI cN cR : ClassId} {base : Nat} {V : gv_V} {m wt wa wv wm wr wc wn ws wk wp nt ne nn sh : Nat} {kn : Int32} {fr fc fw : Nat → Int32} {to : Nat} {M : List Row} {r : Row}  (h_m : V m = some (.inr (7, [.int (nI nt), .ref wt, .int (nI ne), .ref wa, .ref wv, .int (nI nn), .ref wm, .int kn, .ref wr, .ref wc, .ref wn, .int (nI sh), .ref ws, .ref wk, .ref wp]))) (h_wr : V wr = some (.inl (cI, 57600, .inl fr))) (h_wc : V wc = some (.inl (cI, 120, .inl fc))) (h_wn : V wn = some (.inl (cI, 6, .inl fw))) (hto : to < 120) (hRm : MRep M (fc to) (tbl fr to)) (hw : eq6 fw r) : ct zl D [(cI, .int), (cN, .object "AlgebraTree$Node"), (cR, .object "AlgebraTree$Rows")] base yX7_add cX7_add 3 none 1 0 0 [.ref m, .int (nI to)] V (fun zv zV => ∃ fc1 : Nat → Int32, ∃ fr1 : Nat → Int32, zv = none ∧ zV = gv_up (gv_up V wr (.inl (cI, 57600, .inl fr1))) wc (.inl (cI, 120, .inl fc1)) ∧ (MRep (M ++ [r]) (fc1 to) (tbl fr1 to)) ∧ (Kp to fc fr fc1 fr1)) := by
  refine ct_of "AlgebraTreeModel" rfl (by decide) (Nat.le_of_ble_eq_true rfl) ?_
  intro zp ze zs zm zargs zbelow zmeth zc C zr zlk znm
  refine k_pc (pc' := 0) (st' := []) rfl rfl ?_
  show K zp zl ze (gv_rm 1 0 0) zs zm zargs zbelow zmeth zc D base 3 (gv_E D [(cI, .int), (cN, .object "AlgebraTree$Node"), (cR, .object "AlgebraTree$Rows")] base zbelow zargs zs 0 0 (fun zv zV => ∃ fc1 : Nat → Int32, ∃ fr1 : Nat → Int32, zv = none ∧ zV = gv_up (gv_up V wr (.inl (cI, 57600, .inl fr1))) wc (.inl (cI, 120, .inl fc1)) ∧ (MRep (M ++ [r]) (fc1 to) (tbl fr1 to)) ∧ (Kp to fc fr fc1 fr1))) V 0 0 [(0, .ref m), (1, .int (nI to))] 0 []
  refine k_aload_n C dX7_add_0 rfl 0 rfl ?_
  refine k_get (ci := 7) (k := 9) C fl_7_26 h_m rfl dX7_add_1 ?_
  refine k_iload_n C dX7_add_4 rfl 1 rfl ?_
  refine k_iald (v := fc to) C 0 h_wc rfl (vp_in_nI (by omega) (by omega)) (by rw [nI_clamp (by omega)]) dX7_add_5 ?_
  refine k_bipush (v := (-2 : Int32)) C dX7_add_6 (by decide) ?_
  refine k_icmp_ne (tgt := 12) C dX7_add_8 (by decide) (fun c8 => ?_) (fun c8 => ?_)
  · skip
    obtain ⟨hl, hc, htab⟩ := hRm.resolve_right (fun h => c8 h.2)
    refine k_aload_n C dX7_add_12 rfl 0 rfl ?_
    refine k_get (ci := 7) (k := 9) C fl_7_26 h_m rfl dX7_add_13 ?_
    refine k_iload_n C dX7_add_16 rfl 1 rfl ?_
    refine k_iald (v := fc to) C 0 h_wc rfl (vp_in_nI (by omega) (by omega)) (by rw [nI_clamp (by omega)]) dX7_add_17 ?_
    refine k_val (y := nI M.length) hc ?_
    refine k_bipush (v := nI 80) C dX7_add_18 rfl ?_
    refine k_icmp_ne (tgt := 32) C dX7_add_20 (by decide) (fun c20 => ?_) (fun c20 => ?_)
    · skip
      have b20 : ¬ M.length = 80 := fun z => c20 ((nI_eq (a := M.length) (b := 80) (by omega) (by omega)).mpr z)
      refine k_iconst (v := nI 0) C dX7_add_32 rfl ?_
      refine k_istore_n (lv' := [(2, .int (nI 0)), (0, .ref m), (1, .int (nI to))]) C dX7_add_33 rfl (by decide) rfl ?_
      have L34 : ∀ (zn1 : Nat) (k : Nat), 6 - k < zn1 → (k ≤ 6) → K zp zl ze (gv_rm 1 0 0) zs zm zargs zbelow zmeth zc D base 3 (gv_E D [(cI, .int), (cN, .object "AlgebraTree$Node"), (cR, .object "AlgebraTree$Rows")] base zbelow zargs zs 0 0 (fun zv zV => ∃ fc1 : Nat → Int32, ∃ fr1 : Nat → Int32, zv = none ∧ zV = gv_up (gv_up V wr (.inl (cI, 57600, .inl fr1))) wc (.inl (cI, 120, .inl fc1)) ∧ (MRep (M ++ [r]) (fc1 to) (tbl fr1 to)) ∧ (Kp to fc fr fc1 fr1))) (gv_up V wr (.inl (cI, 57600, .inl (wrk fr (80 * to + M.length) fw k)))) 0 0 [(2, .int (nI k)), (0, .ref m), (1, .int (nI to))] 34 [] := by
        intro zn1
        induction zn1 with
        | zero => intro k hlt; exact absurd hlt (Nat.not_lt_zero _)
        | succ zn1 ih34 =>
          intro k hlt34  hk
          refine k_iload_n C dX7_add_34 rfl 0 rfl ?_
          refine k_bipush (v := nI 6) C dX7_add_35 rfl ?_
          refine k_icmp_ge (tgt := 73) C dX7_add_37 (by decide) (fun c37 => ?_) (fun c37 => ?_)
          · skip
            have b37 : 6 ≤ k := (nI_leI (a := 6) (b := k) (by omega) (by omega)).mp c37
            refine k_aload_n C dX7_add_73 rfl 1 rfl ?_
            have ne2 : nq m wr := gv_ne h_wr h_m (by simp)
            refine k_get (ci := 7) (k := 9) C fl_7_26 ((gv_up_n ne2).trans h_m) rfl dX7_add_74 ?_
            refine k_iload_n C dX7_add_77 rfl 2 rfl ?_
            refine k_dup2_11 C dX7_add_78 rfl rfl ?_
            have ne3 : nq wc wr := gv_ne h_wr h_wc (by simp)
            refine k_iald (v := fc to) C 0 ((gv_up_n ne3).trans h_wc) rfl (vp_in_nI (by omega) (by omega)) (by rw [nI_clamp (by omega)]) dX7_add_79 ?_
            refine k_val (y := nI M.length) hc ?_
            refine k_iconst (v := nI 1) C dX7_add_80 rfl ?_
            refine k_iadd C dX7_add_81 ?_
            refine k_val (y := nI (M.length + 1)) (nI_add M.length 1) ?_
            refine k_iast (f' := upd fc to (nI (M.length + 1))) C 0 ((gv_up_n ne3).trans h_wc) rfl (vp_in_nI (by omega) (by omega)) (by rw [nI_clamp (by omega)]) dX7_add_82 ?_
            exact k_vret C zr zlk ⟨upd fc to (nI (M.length + 1)), wrk fr (80 * to + M.length) fw k, rfl, rfl, (Or.inl ⟨by simp; omega, by simp [upd], by rw [show k = 6 by omega]; exact htab.app (by omega) hw⟩), (fun t ht => ⟨by simp only [upd]; rw [if_neg ht], fun j hj => by rw [show k = 6 by omega]; exact tbl_lo (by omega) hj (Or.inl ht)⟩)⟩ (Nat.le_refl _) (Nat.le_refl _) dX7_add_83
          · skip
            have b37 : ¬ 6 ≤ k := fun z => c37 ((nI_leI (a := 6) (b := k) (by omega) (by omega)).mpr z)
            refine k_aload_n C dX7_add_40 rfl 1 rfl ?_
            have ne4 : nq m wr := gv_ne h_wr h_m (by simp)
            refine k_get (ci := 7) (k := 8) C fl_7_23 ((gv_up_n ne4).trans h_m) rfl dX7_add_41 ?_
            refine k_bipush (v := nI 6) C dX7_add_44 rfl ?_
            refine k_bipush (v := nI 80) C dX7_add_46 rfl ?_
            refine k_iload_n C dX7_add_48 rfl 2 rfl ?_
            refine k_imul C dX7_add_49 ?_
            refine k_val (y := nI (80 * to)) (pk_mul 80 to) ?_
            refine k_aload_n C dX7_add_50 rfl 1 rfl ?_
            refine k_get (ci := 7) (k := 9) C fl_7_26 ((gv_up_n ne4).trans h_m) rfl dX7_add_51 ?_
            refine k_iload_n C dX7_add_54 rfl 2 rfl ?_
            have ne5 : nq wc wr := gv_ne h_wr h_wc (by simp)
            refine k_iald (v := fc to) C 0 ((gv_up_n ne5).trans h_wc) rfl (vp_in_nI (by omega) (by omega)) (by rw [nI_clamp (by omega)]) dX7_add_55 ?_
            refine k_val (y := nI M.length) hc ?_
            refine k_iadd C dX7_add_56 ?_
            refine k_val (y := nI ((80 * to) + M.length)) (nI_add (80 * to) M.length) ?_
            refine k_imul C dX7_add_57 ?_
            refine k_val (y := nI (6 * ((80 * to) + M.length))) (pk_mul 6 ((80 * to) + M.length)) ?_
            refine k_iload_n C dX7_add_58 rfl 0 rfl ?_
            refine k_iadd C dX7_add_59 ?_
            refine k_val (y := nI ((80 * to + M.length) * 6 + k)) (by rw [nI_add]; congr 1; omega) ?_
            refine k_aload_n C dX7_add_60 rfl 1 rfl ?_
            refine k_get (ci := 7) (k := 10) C fl_7_29 ((gv_up_n ne4).trans h_m) rfl dX7_add_61 ?_
            refine k_iload_n C dX7_add_64 rfl 0 rfl ?_
            have ne6 : nq wn wr := gv_ne h_wr h_wn (by simp)
            refine k_iald (v := fw k) C 0 ((gv_up_n ne6).trans h_wn) rfl (vp_in_nI (by omega) (by omega)) (by rw [nI_clamp (by omega)]) dX7_add_65 ?_
            refine k_iast (f' := upd (wrk fr (80 * to + M.length) fw k) ((80 * to + M.length) * 6 + k) (fw k)) C 0 gv_up_s rfl (vp_in_nI (by omega) (by omega)) (by rw [nI_clamp (by omega)]) dX7_add_66 ?_
            refine k_view (V1 := gv_up V wr (.inl (cI, 57600, .inl (upd (wrk fr (80 * to + M.length) fw k) ((80 * to + M.length) * 6 + k) (fw k))))) gv_uu ?_
            refine k_iinc (v := nI (k + 1)) (lv' := [(2, .int (nI (k + 1))), (0, .ref m), (1, .int (nI to))]) C dX7_add_67 (k := 0) rfl (nI_add k 1) (by decide) rfl ?_
            refine k_goto (tgt := 34) C dX7_add_70 (by decide) ?_
            refine k_view (V1 := gv_up V wr (.inl (cI, 57600, .inl (wrk fr (80 * to + M.length) fw (k + 1))))) (by rw [wrk_s rfl]) ?_
            exact ih34 (k + 1) (by omega)  (by omega)
      refine k_view (V1 := gv_up V wr (.inl (cI, 57600, .inl fr))) (gv_id h_wr).symm ?_
      refine k_view (V1 := gv_up V wr (.inl (cI, 57600, .inl (wrk fr (80 * to + M.length) fw 0)))) (by rw [wrk_0]) ?_
      exact L34 _ 0 (Nat.lt_succ_self _)  (by omega)
    · skip
      have b20 : M.length = 80 := (nI_eq (a := M.length) (b := 80) (by omega) (by omega)).mp c20
      refine k_aload_n C dX7_add_23 rfl 0 rfl ?_
      refine k_get (ci := 7) (k := 9) C fl_7_26 h_m rfl dX7_add_24 ?_
      refine k_iload_n C dX7_add_27 rfl 1 rfl ?_
      refine k_bipush (v := (-2 : Int32)) C dX7_add_28 (by decide) ?_
      refine k_iast (f' := upd fc to (-2 : Int32)) C 0 h_wc rfl (vp_in_nI (by omega) (by omega)) (by rw [nI_clamp (by omega)]) dX7_add_30 ?_
      have ne7 : nq wr wc := gv_ne h_wc h_wr (by simp)
      refine k_view (V1 := gv_up (gv_up V wc (.inl (cI, 120, .inl (upd fc to (-2 : Int32))))) wr (.inl (cI, 57600, .inl fr))) (gv_id ((gv_up_n ne7).trans h_wr)).symm ?_
      refine k_view (V1 := gv_up (gv_up V wr (.inl (cI, 57600, .inl fr))) wc (.inl (cI, 120, .inl (upd fc to (-2 : Int32))))) (gv_uc ne7) ?_
      exact k_vret C zr zlk ⟨upd fc to (-2 : Int32), fr, rfl, rfl, (Or.inr ⟨by simp; omega, by simp [upd]⟩), (fun t ht => ⟨by simp only [upd]; rw [if_neg ht], fun _ _ => rfl⟩)⟩ (Nat.le_refl _) (Nat.le_refl _) dX7_add_31
  · skip
    have hL : 80 < M.length := by
      rcases hRm with ⟨h1, h2, h3⟩ | ⟨h1, h2⟩
      · rw [h2] at c8; exact absurd c8 (nI_n2 (by omega))
      · exact h1
    refine k_view (V1 := gv_up V wr (.inl (cI, 57600, .inl fr))) (gv_id h_wr).symm ?_
    have ne8 : nq wc wr := gv_ne h_wr h_wc (by simp)
    refine k_view (V1 := gv_up (gv_up V wr (.inl (cI, 57600, .inl fr))) wc (.inl (cI, 120, .inl fc))) (gv_id ((gv_up_n ne8).trans h_wc)).symm ?_
    exact k_vret C zr zlk ⟨fc, fr, rfl, rfl, (Or.inr ⟨by simp; omega, c8⟩), Kp.rf⟩ (Nat.le_refl _) (Nat.le_refl _) dX7_add_11
set_option maxHeartbeats 4000000 in
set_option maxRecDepth 100000 in
theorem c_X7_agree {zl : Launch} {D : va_G} {cI cN cR : ClassId} {base : Nat} {V : gv_V} {m wt wa wv wm wr wc wn ws wk wp nt ne nn sh : Nat} {kn : Int32} {fr : Nat → Int32} {t i u j : Nat}  (h_m : V m = some (.inr (7, [.int (nI nt), .ref wt, .int (nI ne), .ref wa, .ref wv, .int (nI nn), .ref wm, .int kn, .ref wr, .ref wc, .ref wn, .int (nI sh), .ref ws, .ref wk, .ref wp]))) (h_wr : V wr = some (.inl (cI, 57600, .inl fr))) (ht : t < 120) (hi : i < 80) (hu : u < 120) (hj : j < 80) : ct zl D [(cI, .int), (cN, .object "AlgebraTree$Node"), (cR, .object "AlgebraTree$Rows")] base yX7_agree cX7_agree 6 (some .boolean) 1 0 0 [.ref m, .int (nI t), .int (nI i), .int (nI u), .int (nI j)] V (pi (bI (agr (rwf (tbl fr t) i) (rwf (tbl fr u) j))) V) := by
  refine ct_of "AlgebraTreeModel" rfl (by decide) (Nat.le_of_ble_eq_true rfl) ?_
  intro zp ze zs zm zargs zbelow zmeth zc C zr zlk znm
  refine k_pc (pc' := 0) (st' := []) rfl rfl ?_
  show K zp zl ze (gv_rm 1 0 0) zs zm zargs zbelow zmeth zc D base 6 (gv_E D [(cI, .int), (cN, .object "AlgebraTree$Node"), (cR, .object "AlgebraTree$Rows")] base zbelow zargs zs 0 0 (pi (bI (agr (rwf (tbl fr t) i) (rwf (tbl fr u) j))) V)) V 0 0 [(0, .ref m), (1, .int (nI t)), (2, .int (nI i)), (3, .int (nI u)), (4, .int (nI j))] 0 []
  refine k_iconst (v := nI 0) C dX7_agree_0 rfl ?_
  refine k_istore (lv' := [(5, .int (nI 0)), (0, .ref m), (1, .int (nI t)), (2, .int (nI i)), (3, .int (nI u)), (4, .int (nI j))]) C dX7_agree_1 (by decide) rfl ?_
  have L3 : ∀ (zn1 : Nat) (k : Nat), 6 - k < zn1 → (k ≤ 6) → (∀ z, z < k → agP (rwf (tbl fr t) i) (rwf (tbl fr u) j) z = true) → K zp zl ze (gv_rm 1 0 0) zs zm zargs zbelow zmeth zc D base 6 (gv_E D [(cI, .int), (cN, .object "AlgebraTree$Node"), (cR, .object "AlgebraTree$Rows")] base zbelow zargs zs 0 0 (pi (bI (agr (rwf (tbl fr t) i) (rwf (tbl fr u) j))) V)) V 0 0 [(5, .int (nI k)), (0, .ref m), (1, .int (nI t)), (2, .int (nI i)), (3, .int (nI u)), (4, .int (nI j))] 3 [] := by
    intro zn1
    induction zn1 with
    | zero => intro k hlt; exact absurd hlt (Nat.not_lt_zero _)
    | succ zn1 ih3 =>
      intro k hlt3  hk hal
      refine k_iload C dX7_agree_3 0 rfl ?_
      refine k_bipush (v := nI 6) C dX7_agree_5 rfl ?_
      refine k_icmp_ge (tgt := 65) C dX7_agree_7 (by decide) (fun c7 => ?_) (fun c7 => ?_)
      · skip
        have b7 : 6 ≤ k := (nI_leI (a := 6) (b := k) (by omega) (by omega)).mp c7
        refine k_iconst (v := nI 1) C dX7_agree_65 rfl ?_
        exact k_zret C zr zlk rfl (pi_of (bI_t (al_iff.mpr (fun z hz => hal z (by omega)))) rfl) (Nat.le_refl _) (Nat.le_refl _) dX7_agree_66
      · skip
        have b7 : ¬ 6 ≤ k := fun z => c7 ((nI_leI (a := 6) (b := k) (by omega) (by omega)).mpr z)
        refine k_aload_n C dX7_agree_10 rfl 1 rfl ?_
        refine k_iload_n C dX7_agree_11 rfl 2 rfl ?_
        refine k_iload_n C dX7_agree_12 rfl 3 rfl ?_
        refine k_iload C dX7_agree_13 0 rfl ?_
        refine k_callV_pi C mv_7_98 (c_X7_cell  h_m h_wr (by first | assumption | omega) (by first | assumption | omega) (by first | assumption | omega)) h_m rfl rfl (by simp [Value.category]) ⟨Nat.le_of_ble_eq_true rfl, Nat.le_of_ble_eq_true rfl⟩ ⟨(by decide), (by decide)⟩ dX7_agree_15 ?_
        refine k_ldc (v := (-2147483648)) C wd_784 dX7_agree_18 ?_
        refine k_icmp_eq (tgt := 59) C dX7_agree_20 (by decide) (fun c20 => ?_) (fun c20 => ?_)
        · skip
          refine k_iinc (v := nI (k + 1)) (lv' := [(5, .int (nI (k + 1))), (0, .ref m), (1, .int (nI t)), (2, .int (nI i)), (3, .int (nI u)), (4, .int (nI j))]) C dX7_agree_59 (k := 0) rfl (nI_add k 1) (by decide) rfl ?_
          refine k_goto (tgt := 3) C dX7_agree_62 (by decide) ?_
          exact ih3 (k + 1) (by omega)  (by omega) (al_nx hal (by simp_all [agP]))
        · skip
          refine k_aload_n C dX7_agree_23 rfl 1 rfl ?_
          refine k_iload_n C dX7_agree_24 rfl 4 rfl ?_
          refine k_iload C dX7_agree_25 5 rfl ?_
          refine k_iload C dX7_agree_27 0 rfl ?_
          refine k_callV_pi C mv_7_98 (c_X7_cell  h_m h_wr (by first | assumption | omega) (by first | assumption | omega) (by first | assumption | omega)) h_m rfl rfl (by simp [Value.category]) ⟨Nat.le_of_ble_eq_true rfl, Nat.le_of_ble_eq_true rfl⟩ ⟨(by decide), (by decide)⟩ dX7_agree_29 ?_
          refine k_ldc (v := (-2147483648)) C wd_784 dX7_agree_32 ?_
          refine k_icmp_eq (tgt := 59) C dX7_agree_34 (by decide) (fun c34 => ?_) (fun c34 => ?_)
          · skip
            refine k_iinc (v := nI (k + 1)) (lv' := [(5, .int (nI (k + 1))), (0, .ref m), (1, .int (nI t)), (2, .int (nI i)), (3, .int (nI u)), (4, .int (nI j))]) C dX7_agree_59 (k := 0) rfl (nI_add k 1) (by decide) rfl ?_
            refine k_goto (tgt := 3) C dX7_agree_62 (by decide) ?_
            exact ih3 (k + 1) (by omega)  (by omega) (al_nx hal (by simp_all [agP]))
          · skip
            refine k_aload_n C dX7_agree_37 rfl 1 rfl ?_
            refine k_iload_n C dX7_agree_38 rfl 2 rfl ?_
            refine k_iload_n C dX7_agree_39 rfl 3 rfl ?_
            refine k_iload C dX7_agree_40 0 rfl ?_
            refine k_callV_pi C mv_7_98 (c_X7_cell  h_m h_wr (by first | assumption | omega) (by first | assumption | omega) (by first | assumption | omega)) h_m rfl rfl (by simp [Value.category]) ⟨Nat.le_of_ble_eq_true rfl, Nat.le_of_ble_eq_true rfl⟩ ⟨(by decide), (by decide)⟩ dX7_agree_42 ?_
            refine k_aload_n C dX7_agree_45 rfl 1 rfl ?_
            refine k_iload_n C dX7_agree_46 rfl 4 rfl ?_
            refine k_iload C dX7_agree_47 5 rfl ?_
            refine k_iload C dX7_agree_49 0 rfl ?_
            refine k_callV_pi C mv_7_98 (c_X7_cell  h_m h_wr (by first | assumption | omega) (by first | assumption | omega) (by first | assumption | omega)) h_m rfl rfl (by simp [Value.category]) ⟨Nat.le_of_ble_eq_true rfl, Nat.le_of_ble_eq_true rfl⟩ ⟨(by decide), (by decide)⟩ dX7_agree_51 ?_
            refine k_icmp_eq (tgt := 59) C dX7_agree_54 (by decide) (fun c54 => ?_) (fun c54 => ?_)
            · skip
              refine k_iinc (v := nI (k + 1)) (lv' := [(5, .int (nI (k + 1))), (0, .ref m), (1, .int (nI t)), (2, .int (nI i)), (3, .int (nI u)), (4, .int (nI j))]) C dX7_agree_59 (k := 0) rfl (nI_add k 1) (by decide) rfl ?_
              refine k_goto (tgt := 3) C dX7_agree_62 (by decide) ?_
              exact ih3 (k + 1) (by omega)  (by omega) (al_nx hal (by simp_all [agP]))
            · skip
              refine k_iconst (v := nI 0) C dX7_agree_57 rfl ?_
              exact k_zret C zr zlk rfl (pi_of (bI_f (al_no (j := k) (by omega) (by simp_all [agP]))) rfl) (Nat.le_refl _) (Nat.le_refl _) dX7_agree_58
  exact L3 _ 0 (Nat.lt_succ_self _)  (by omega) (fun _ h => absurd h (Nat.not_lt_zero _))
set_option maxHeartbeats 4000000 in
set_option maxRecDepth 100000 in
theorem c_X7_share {zl : Launch} {D : va_G} {cI cN cR : ClassId} {base : Nat} {V : gv_V} {m wt wa wv wm wr wc wn ws wk wp nt ne nn sh : Nat} {kn : Int32} {fr : Nat → Int32} {t i u j : Nat}  (h_m : V m = some (.inr (7, [.int (nI nt), .ref wt, .int (nI ne), .ref wa, .ref wv, .int (nI nn), .ref wm, .int kn, .ref wr, .ref wc, .ref wn, .int (nI sh), .ref ws, .ref wk, .ref wp]))) (h_wr : V wr = some (.inl (cI, 57600, .inl fr))) (ht : t < 120) (hi : i < 80) (hu : u < 120) (hj : j < 80) : ct zl D [(cI, .int), (cN, .object "AlgebraTree$Node"), (cR, .object "AlgebraTree$Rows")] base yX7_share cX7_share 6 (some .boolean) 1 0 0 [.ref m, .int (nI t), .int (nI i), .int (nI u), .int (nI j)] V (pi (bI (shr (rwf (tbl fr t) i) (rwf (tbl fr u) j))) V) := by
  refine ct_of "AlgebraTreeModel" rfl (by decide) (Nat.le_of_ble_eq_true rfl) ?_
  intro zp ze zs zm zargs zbelow zmeth zc C zr zlk znm
  refine k_pc (pc' := 0) (st' := []) rfl rfl ?_
  show K zp zl ze (gv_rm 1 0 0) zs zm zargs zbelow zmeth zc D base 6 (gv_E D [(cI, .int), (cN, .object "AlgebraTree$Node"), (cR, .object "AlgebraTree$Rows")] base zbelow zargs zs 0 0 (pi (bI (shr (rwf (tbl fr t) i) (rwf (tbl fr u) j))) V)) V 0 0 [(0, .ref m), (1, .int (nI t)), (2, .int (nI i)), (3, .int (nI u)), (4, .int (nI j))] 0 []
  refine k_iconst (v := nI 0) C dX7_share_0 rfl ?_
  refine k_istore (lv' := [(5, .int (nI 0)), (0, .ref m), (1, .int (nI t)), (2, .int (nI i)), (3, .int (nI u)), (4, .int (nI j))]) C dX7_share_1 (by decide) rfl ?_
  have L3 : ∀ (zn1 : Nat) (k : Nat), 6 - k < zn1 → (k ≤ 6) → (∀ z, z < k → shP (rwf (tbl fr t) i) (rwf (tbl fr u) j) z = true) → K zp zl ze (gv_rm 1 0 0) zs zm zargs zbelow zmeth zc D base 6 (gv_E D [(cI, .int), (cN, .object "AlgebraTree$Node"), (cR, .object "AlgebraTree$Rows")] base zbelow zargs zs 0 0 (pi (bI (shr (rwf (tbl fr t) i) (rwf (tbl fr u) j))) V)) V 0 0 [(5, .int (nI k)), (0, .ref m), (1, .int (nI t)), (2, .int (nI i)), (3, .int (nI u)), (4, .int (nI j))] 3 [] := by
    intro zn1
    induction zn1 with
    | zero => intro k hlt; exact absurd hlt (Nat.not_lt_zero _)
    | succ zn1 ih3 =>
      intro k hlt3  hk hal
      refine k_iload C dX7_share_3 0 rfl ?_
      refine k_bipush (v := nI 6) C dX7_share_5 rfl ?_
      refine k_icmp_ge (tgt := 45) C dX7_share_7 (by decide) (fun c7 => ?_) (fun c7 => ?_)
      · skip
        have b7 : 6 ≤ k := (nI_leI (a := 6) (b := k) (by omega) (by omega)).mp c7
        refine k_iconst (v := nI 0) C dX7_share_45 rfl ?_
        exact k_zret C zr zlk rfl (pi_of (bI_f (by simp only [shr]; rw [al_iff.mpr (fun z hz => hal z (by omega))]; rfl)) rfl) (Nat.le_refl _) (Nat.le_refl _) dX7_share_46
      · skip
        have b7 : ¬ 6 ≤ k := fun z => c7 ((nI_leI (a := 6) (b := k) (by omega) (by omega)).mpr z)
        refine k_aload_n C dX7_share_10 rfl 1 rfl ?_
        refine k_iload_n C dX7_share_11 rfl 2 rfl ?_
        refine k_iload_n C dX7_share_12 rfl 3 rfl ?_
        refine k_iload C dX7_share_13 0 rfl ?_
        refine k_callV_pi C mv_7_98 (c_X7_cell  h_m h_wr (by first | assumption | omega) (by first | assumption | omega) (by first | assumption | omega)) h_m rfl rfl (by simp [Value.category]) ⟨Nat.le_of_ble_eq_true rfl, Nat.le_of_ble_eq_true rfl⟩ ⟨(by decide), (by decide)⟩ dX7_share_15 ?_
        refine k_ldc (v := (-2147483648)) C wd_784 dX7_share_18 ?_
        refine k_icmp_eq (tgt := 39) C dX7_share_20 (by decide) (fun c20 => ?_) (fun c20 => ?_)
        · skip
          refine k_iinc (v := nI (k + 1)) (lv' := [(5, .int (nI (k + 1))), (0, .ref m), (1, .int (nI t)), (2, .int (nI i)), (3, .int (nI u)), (4, .int (nI j))]) C dX7_share_39 (k := 0) rfl (nI_add k 1) (by decide) rfl ?_
          refine k_goto (tgt := 3) C dX7_share_42 (by decide) ?_
          exact ih3 (k + 1) (by omega)  (by omega) (al_nx hal (by simp_all [shP]))
        · skip
          refine k_aload_n C dX7_share_23 rfl 1 rfl ?_
          refine k_iload_n C dX7_share_24 rfl 4 rfl ?_
          refine k_iload C dX7_share_25 5 rfl ?_
          refine k_iload C dX7_share_27 0 rfl ?_
          refine k_callV_pi C mv_7_98 (c_X7_cell  h_m h_wr (by first | assumption | omega) (by first | assumption | omega) (by first | assumption | omega)) h_m rfl rfl (by simp [Value.category]) ⟨Nat.le_of_ble_eq_true rfl, Nat.le_of_ble_eq_true rfl⟩ ⟨(by decide), (by decide)⟩ dX7_share_29 ?_
          refine k_ldc (v := (-2147483648)) C wd_784 dX7_share_32 ?_
          refine k_icmp_eq (tgt := 39) C dX7_share_34 (by decide) (fun c34 => ?_) (fun c34 => ?_)
          · skip
            refine k_iinc (v := nI (k + 1)) (lv' := [(5, .int (nI (k + 1))), (0, .ref m), (1, .int (nI t)), (2, .int (nI i)), (3, .int (nI u)), (4, .int (nI j))]) C dX7_share_39 (k := 0) rfl (nI_add k 1) (by decide) rfl ?_
            refine k_goto (tgt := 3) C dX7_share_42 (by decide) ?_
            exact ih3 (k + 1) (by omega)  (by omega) (al_nx hal (by simp_all [shP]))
          · skip
            refine k_iconst (v := nI 1) C dX7_share_37 rfl ?_
            exact k_zret C zr zlk rfl (pi_of (bI_t (by simp only [shr]; rw [al_no (j := k) (by omega) (by simp_all [shP])]; rfl)) rfl) (Nat.le_refl _) (Nat.le_refl _) dX7_share_38
  exact L3 _ 0 (Nat.lt_succ_self _)  (by omega) (fun _ h => absurd h (Nat.not_lt_zero _))
set_option maxHeartbeats 4000000 in
set_option maxRecDepth 100000 in
theorem c_X7_alike {zl : Launch} {D : va_G} {cI cN cR : ClassId} {base : Nat} {V : gv_V} {m wt wa wv wm wr wc wn ws wk wp nt ne nn sh : Nat} {kn : Int32} {fr : Nat → Int32} {t i u j : Nat} {x : Int32}  (h_m : V m = some (.inr (7, [.int (nI nt), .ref wt, .int (nI ne), .ref wa, .ref wv, .int (nI nn), .ref wm, .int kn, .ref wr, .ref wc, .ref wn, .int (nI sh), .ref ws, .ref wk, .ref wp]))) (h_wr : V wr = some (.inl (cI, 57600, .inl fr))) (ht : t < 120) (hi : i < 80) (hu : u < 120) (hj : j < 80) : ct zl D [(cI, .int), (cN, .object "AlgebraTree$Node"), (cR, .object "AlgebraTree$Rows")] base yX7_alike cX7_alike 7 (some .boolean) 1 0 0 [.ref m, .int (nI t), .int (nI i), .int (nI u), .int (nI j), .int x] V (pi (bI (lik x (rwf (tbl fr t) i) (rwf (tbl fr u) j))) V) := by
  refine ct_of "AlgebraTreeModel" rfl (by decide) (Nat.le_of_ble_eq_true rfl) ?_
  intro zp ze zs zm zargs zbelow zmeth zc C zr zlk znm
  refine k_pc (pc' := 0) (st' := []) rfl rfl ?_
  show K zp zl ze (gv_rm 1 0 0) zs zm zargs zbelow zmeth zc D base 7 (gv_E D [(cI, .int), (cN, .object "AlgebraTree$Node"), (cR, .object "AlgebraTree$Rows")] base zbelow zargs zs 0 0 (pi (bI (lik x (rwf (tbl fr t) i) (rwf (tbl fr u) j))) V)) V 0 0 [(0, .ref m), (1, .int (nI t)), (2, .int (nI i)), (3, .int (nI u)), (4, .int (nI j)), (5, .int x)] 0 []
  refine k_iconst (v := nI 0) C dX7_alike_0 rfl ?_
  refine k_istore (lv' := [(6, .int (nI 0)), (0, .ref m), (1, .int (nI t)), (2, .int (nI i)), (3, .int (nI u)), (4, .int (nI j)), (5, .int x)]) C dX7_alike_1 (by decide) rfl ?_
  have L3 : ∀ (zn1 : Nat) (k : Nat), 6 - k < zn1 → (k ≤ 6) → (∀ z, z < k → lkP x (rwf (tbl fr t) i) (rwf (tbl fr u) j) z = true) → K zp zl ze (gv_rm 1 0 0) zs zm zargs zbelow zmeth zc D base 7 (gv_E D [(cI, .int), (cN, .object "AlgebraTree$Node"), (cR, .object "AlgebraTree$Rows")] base zbelow zargs zs 0 0 (pi (bI (lik x (rwf (tbl fr t) i) (rwf (tbl fr u) j))) V)) V 0 0 [(6, .int (nI k)), (0, .ref m), (1, .int (nI t)), (2, .int (nI i)), (3, .int (nI u)), (4, .int (nI j)), (5, .int x)] 3 [] := by
    intro zn1
    induction zn1 with
    | zero => intro k hlt; exact absurd hlt (Nat.not_lt_zero _)
    | succ zn1 ih3 =>
      intro k hlt3  hk hal
      refine k_iload C dX7_alike_3 0 rfl ?_
      refine k_bipush (v := nI 6) C dX7_alike_5 rfl ?_
      refine k_icmp_ge (tgt := 49) C dX7_alike_7 (by decide) (fun c7 => ?_) (fun c7 => ?_)
      · skip
        have b7 : 6 ≤ k := (nI_leI (a := 6) (b := k) (by omega) (by omega)).mp c7
        refine k_iconst (v := nI 1) C dX7_alike_49 rfl ?_
        exact k_zret C zr zlk rfl (pi_of (bI_t (al_iff.mpr (fun z hz => hal z (by omega)))) rfl) (Nat.le_refl _) (Nat.le_refl _) dX7_alike_50
      · skip
        have b7 : ¬ 6 ≤ k := fun z => c7 ((nI_leI (a := 6) (b := k) (by omega) (by omega)).mpr z)
        refine k_iload C dX7_alike_10 6 rfl ?_
        refine k_iload C dX7_alike_12 0 rfl ?_
        refine k_ishr C dX7_alike_14 ?_
        refine k_iconst (v := nI 1) C dX7_alike_15 rfl ?_
        refine k_iand C dX7_alike_16 ?_
        refine k_iconst (v := nI 1) C dX7_alike_17 rfl ?_
        refine k_icmp_ne (tgt := 43) C dX7_alike_18 (by decide) (fun c18 => ?_) (fun c18 => ?_)
        · skip
          have b18 : inS x (nI k) = false := by cases hz : inS x (nI k) with | false => rfl | true => exact absurd (inS_1.mpr hz) c18
          refine k_iinc (v := nI (k + 1)) (lv' := [(6, .int (nI (k + 1))), (0, .ref m), (1, .int (nI t)), (2, .int (nI i)), (3, .int (nI u)), (4, .int (nI j)), (5, .int x)]) C dX7_alike_43 (k := 0) rfl (nI_add k 1) (by decide) rfl ?_
          refine k_goto (tgt := 3) C dX7_alike_46 (by decide) ?_
          exact ih3 (k + 1) (by omega)  (by omega) (al_nx hal (by simp_all [lkP]))
        · skip
          have b18 := inS_1.mp c18
          refine k_aload_n C dX7_alike_21 rfl 1 rfl ?_
          refine k_iload_n C dX7_alike_22 rfl 2 rfl ?_
          refine k_iload_n C dX7_alike_23 rfl 3 rfl ?_
          refine k_iload C dX7_alike_24 0 rfl ?_
          refine k_callV_pi C mv_7_98 (c_X7_cell  h_m h_wr (by first | assumption | omega) (by first | assumption | omega) (by first | assumption | omega)) h_m rfl rfl (by simp [Value.category]) ⟨Nat.le_of_ble_eq_true rfl, Nat.le_of_ble_eq_true rfl⟩ ⟨(by decide), (by decide)⟩ dX7_alike_26 ?_
          refine k_aload_n C dX7_alike_29 rfl 1 rfl ?_
          refine k_iload_n C dX7_alike_30 rfl 4 rfl ?_
          refine k_iload C dX7_alike_31 5 rfl ?_
          refine k_iload C dX7_alike_33 0 rfl ?_
          refine k_callV_pi C mv_7_98 (c_X7_cell  h_m h_wr (by first | assumption | omega) (by first | assumption | omega) (by first | assumption | omega)) h_m rfl rfl (by simp [Value.category]) ⟨Nat.le_of_ble_eq_true rfl, Nat.le_of_ble_eq_true rfl⟩ ⟨(by decide), (by decide)⟩ dX7_alike_35 ?_
          refine k_icmp_eq (tgt := 43) C dX7_alike_38 (by decide) (fun c38 => ?_) (fun c38 => ?_)
          · skip
            refine k_iinc (v := nI (k + 1)) (lv' := [(6, .int (nI (k + 1))), (0, .ref m), (1, .int (nI t)), (2, .int (nI i)), (3, .int (nI u)), (4, .int (nI j)), (5, .int x)]) C dX7_alike_43 (k := 0) rfl (nI_add k 1) (by decide) rfl ?_
            refine k_goto (tgt := 3) C dX7_alike_46 (by decide) ?_
            exact ih3 (k + 1) (by omega)  (by omega) (al_nx hal (by simp_all [lkP]))
          · skip
            refine k_iconst (v := nI 0) C dX7_alike_41 rfl ?_
            exact k_zret C zr zlk rfl (pi_of (bI_f (al_no (j := k) (by omega) (by simp_all [lkP]))) rfl) (Nat.le_refl _) (Nat.le_refl _) dX7_alike_42
  exact L3 _ 0 (Nat.lt_succ_self _)  (by omega) (fun _ h => absurd h (Nat.not_lt_zero _))
set_option maxHeartbeats 4000000 in
set_option maxRecDepth 100000 in
theorem c_X7_together {zl : Launch} {D : va_G} {cI cN cR : ClassId} {base : Nat} {V : gv_V} {m wt wa wv wm wr wc wn ws wk wp nt ne nn sh : Nat} {kn : Int32} {fr fw : Nat → Int32} {t i u j : Nat}  (h_m : V m = some (.inr (7, [.int (nI nt), .ref wt, .int (nI ne), .ref wa, .ref wv, .int (nI nn), .ref wm, .int kn, .ref wr, .ref wc, .ref wn, .int (nI sh), .ref ws, .ref wk, .ref wp]))) (h_wr : V wr = some (.inl (cI, 57600, .inl fr))) (h_wn : V wn = some (.inl (cI, 6, .inl fw))) (ht : t < 120) (hi : i < 80) (hu : u < 120) (hj : j < 80) : ct zl D [(cI, .int), (cN, .object "AlgebraTree$Node"), (cR, .object "AlgebraTree$Rows")] base yX7_together cX7_together 6 none 2 0 0 [.ref m, .int (nI t), .int (nI i), .int (nI u), .int (nI j)] V (fun zv zV => ∃ fw1 : Nat → Int32, zv = none ∧ zV = gv_up V wn (.inl (cI, 6, .inl fw1)) ∧ (eq6 fw1 (tog (rwf (tbl fr t) i) (rwf (tbl fr u) j)))) := by
  refine ct_of "AlgebraTreeModel" rfl (by decide) (Nat.le_of_ble_eq_true rfl) ?_
  intro zp ze zs zm zargs zbelow zmeth zc C zr zlk znm
  refine k_pc (pc' := 0) (st' := []) rfl rfl ?_
  show K zp zl ze (gv_rm 2 0 0) zs zm zargs zbelow zmeth zc D base 6 (gv_E D [(cI, .int), (cN, .object "AlgebraTree$Node"), (cR, .object "AlgebraTree$Rows")] base zbelow zargs zs 0 0 (fun zv zV => ∃ fw1 : Nat → Int32, zv = none ∧ zV = gv_up V wn (.inl (cI, 6, .inl fw1)) ∧ (eq6 fw1 (tog (rwf (tbl fr t) i) (rwf (tbl fr u) j))))) V 0 0 [(0, .ref m), (1, .int (nI t)), (2, .int (nI i)), (3, .int (nI u)), (4, .int (nI j))] 0 []
  refine k_aload_n C dX7_together_0 rfl 0 rfl ?_
  refine k_iload_n C dX7_together_1 rfl 1 rfl ?_
  refine k_iload_n C dX7_together_2 rfl 2 rfl ?_
  refine k_callV C mv_7_101 (c_X7_take  h_m h_wr h_wn (by first | assumption | omega) (by first | assumption | omega)) h_m rfl rfl (by simp [Value.category]) ⟨Nat.le_of_ble_eq_true rfl, Nat.le_of_ble_eq_true rfl⟩ ⟨(by decide), (by decide)⟩ dX7_together_3 (fun zv zV zh => ?_)
  obtain ⟨fw1_w1, rfl, rfl, hw1_w1⟩ := zh
  refine k_pc (pc' := 6) (st' := []) rfl rfl ?_
  refine k_iconst (v := nI 0) C dX7_together_6 rfl ?_
  refine k_istore (lv' := [(5, .int (nI 0)), (0, .ref m), (1, .int (nI t)), (2, .int (nI i)), (3, .int (nI u)), (4, .int (nI j))]) C dX7_together_7 (by decide) rfl ?_
  have L9 : ∀ (zn2 : Nat) (k : Nat) (fw2 : Nat → Int32), 6 - k < zn2 → (k ≤ 6) → (∀ z, z < k → fw2 z = tog (rwf (tbl fr t) i) (rwf (tbl fr u) j) z) → (∀ z, k ≤ z → z < 6 → fw2 z = (rwf (tbl fr t) i) z) → K zp zl ze (gv_rm 2 0 0) zs zm zargs zbelow zmeth zc D base 6 (gv_E D [(cI, .int), (cN, .object "AlgebraTree$Node"), (cR, .object "AlgebraTree$Rows")] base zbelow zargs zs 0 0 (fun zv zV => ∃ fw1 : Nat → Int32, zv = none ∧ zV = gv_up V wn (.inl (cI, 6, .inl fw1)) ∧ (eq6 fw1 (tog (rwf (tbl fr t) i) (rwf (tbl fr u) j))))) (gv_up V wn (.inl (cI, 6, .inl fw2))) 0 0 [(5, .int (nI k)), (0, .ref m), (1, .int (nI t)), (2, .int (nI i)), (3, .int (nI u)), (4, .int (nI j))] 9 [] := by
    intro zn2
    induction zn2 with
    | zero => intro k fw2 hlt; exact absurd hlt (Nat.not_lt_zero _)
    | succ zn2 ih9 =>
      intro k fw2 hlt9  hk hal hhi
      refine k_iload C dX7_together_9 0 rfl ?_
      refine k_bipush (v := nI 6) C dX7_together_11 rfl ?_
      refine k_icmp_ge (tgt := 60) C dX7_together_13 (by decide) (fun c13 => ?_) (fun c13 => ?_)
      · skip
        have b13 : 6 ≤ k := (nI_leI (a := 6) (b := k) (by omega) (by omega)).mp c13
        exact k_vret C zr zlk ⟨fw2, rfl, rfl, (fun z hz => hal z (by omega))⟩ (Nat.le_refl _) (Nat.le_refl _) dX7_together_60
      · skip
        have b13 : ¬ 6 ≤ k := fun z => c13 ((nI_leI (a := 6) (b := k) (by omega) (by omega)).mpr z)
        refine k_aload_n C dX7_together_16 rfl 1 rfl ?_
        have ne3 : nq m wn := gv_ne h_wn h_m (by simp)
        refine k_get (ci := 7) (k := 10) C fl_7_29 ((gv_up_n ne3).trans h_m) rfl dX7_together_17 ?_
        refine k_iload C dX7_together_20 0 rfl ?_
        refine k_aload_n C dX7_together_22 rfl 1 rfl ?_
        refine k_get (ci := 7) (k := 10) C fl_7_29 ((gv_up_n ne3).trans h_m) rfl dX7_together_23 ?_
        refine k_iload C dX7_together_26 0 rfl ?_
        refine k_iald (v := fw2 k) C 0 gv_up_s rfl (vp_in_nI (by omega) (by omega)) (by rw [nI_clamp (by omega)]) dX7_together_28 ?_
        refine k_ldc (v := (-2147483648)) C wd_784 dX7_together_29 ?_
        refine k_icmp_ne (tgt := 46) C dX7_together_31 (by decide) (fun c31 => ?_) (fun c31 => ?_)
        · skip
          refine k_aload_n C dX7_together_46 rfl 1 rfl ?_
          refine k_get (ci := 7) (k := 10) C fl_7_29 ((gv_up_n ne3).trans h_m) rfl dX7_together_47 ?_
          refine k_iload C dX7_together_50 0 rfl ?_
          refine k_iald (v := fw2 k) C 0 gv_up_s rfl (vp_in_nI (by omega) (by omega)) (by rw [nI_clamp (by omega)]) dX7_together_52 ?_
          refine k_iast (f' := upd fw2 k (fw2 k)) C 0 gv_up_s rfl (vp_in_nI (by omega) (by omega)) (by rw [nI_clamp (by omega)]) dX7_together_53 ?_
          refine k_view (V1 := gv_up V wn (.inl (cI, 6, .inl (upd fw2 k (fw2 k))))) gv_uu ?_
          refine k_iinc (v := nI (k + 1)) (lv' := [(5, .int (nI (k + 1))), (0, .ref m), (1, .int (nI t)), (2, .int (nI i)), (3, .int (nI u)), (4, .int (nI j))]) C dX7_together_54 (k := 0) rfl (nI_add k 1) (by decide) rfl ?_
          refine k_goto (tgt := 9) C dX7_together_57 (by decide) ?_
          exact ih9 (k + 1) (upd fw2 k (fw2 k)) (by omega)  (by omega) (upd_nx hal (by have h9 := hhi k (Nat.le_refl _) (by omega); simp only [tog]; rw [← h9]; first | rw [if_pos c31] | rw [if_neg c31])) (fun z h1 h2 => by simp only [upd]; rw [if_neg (by omega)]; exact hhi z (by omega) h2)
        · skip
          refine k_aload_n C dX7_together_34 rfl 1 rfl ?_
          refine k_iload_n C dX7_together_35 rfl 4 rfl ?_
          refine k_iload C dX7_together_36 5 rfl ?_
          refine k_iload C dX7_together_38 0 rfl ?_
          have ne4 : nq wr wn := gv_ne h_wn h_wr (by simp)
          refine k_callV_pi C mv_7_98 (c_X7_cell  ((gv_up_n ne3).trans h_m) ((gv_up_n ne4).trans h_wr) (by first | assumption | omega) (by first | assumption | omega) (by first | assumption | omega)) ((gv_up_n ne3).trans h_m) rfl rfl (by simp [Value.category]) ⟨Nat.le_of_ble_eq_true rfl, Nat.le_of_ble_eq_true rfl⟩ ⟨(by decide), (by decide)⟩ dX7_together_40 ?_
          refine k_goto (tgt := 53) C dX7_together_43 (by decide) ?_
          refine k_iast (f' := upd fw2 k (rwf (tbl fr u) j k)) C 0 gv_up_s rfl (vp_in_nI (by omega) (by omega)) (by rw [nI_clamp (by omega)]) dX7_together_53 ?_
          refine k_view (V1 := gv_up V wn (.inl (cI, 6, .inl (upd fw2 k (rwf (tbl fr u) j k))))) gv_uu ?_
          refine k_iinc (v := nI (k + 1)) (lv' := [(5, .int (nI (k + 1))), (0, .ref m), (1, .int (nI t)), (2, .int (nI i)), (3, .int (nI u)), (4, .int (nI j))]) C dX7_together_54 (k := 0) rfl (nI_add k 1) (by decide) rfl ?_
          refine k_goto (tgt := 9) C dX7_together_57 (by decide) ?_
          exact ih9 (k + 1) (upd fw2 k (rwf (tbl fr u) j k)) (by omega)  (by omega) (upd_nx hal (by have h9 := hhi k (Nat.le_refl _) (by omega); simp only [tog]; rw [← h9]; first | rw [if_pos c31] | rw [if_neg c31])) (fun z h1 h2 => by simp only [upd]; rw [if_neg (by omega)]; exact hhi z (by omega) h2)
  exact L9 _ 0 fw1_w1 (Nat.lt_succ_self _)  (by omega) (fun _ h => absurd h (Nat.not_lt_zero _)) (fun z _ hz => hw1_w1 z hz)
set_option maxHeartbeats 4000000 in
set_option maxRecDepth 100000 in
theorem c_X7_fits {zl : Launch} {D : va_G} {cI cN cR : ClassId} {base : Nat} {V : gv_V} {m wt wa wv wm wr wc wn ws wk wp nt ne nn sh : Nat} {kn : Int32} {fw : Nat → Int32} {x y : Int32}  (h_m : V m = some (.inr (7, [.int (nI nt), .ref wt, .int (nI ne), .ref wa, .ref wv, .int (nI nn), .ref wm, .int kn, .ref wr, .ref wc, .ref wn, .int (nI sh), .ref ws, .ref wk, .ref wp]))) (h_wn : V wn = some (.inl (cI, 6, .inl fw))) (hx : plc x = true) : ct zl D [(cI, .int), (cN, .object "AlgebraTree$Node"), (cR, .object "AlgebraTree$Rows")] base yX7_fits cX7_fits 5 (some .boolean) 0 0 0 [.ref m, .int x, .int y] V (fun zv zV => ∃ fw1 : Nat → Int32, zv = some (.int (bI (fitB x y fw))) ∧ zV = gv_up V wn (.inl (cI, 6, .inl fw1)) ∧ (fitB x y fw = true → eq6 fw1 (fitR x y fw))) := by
  refine ct_of "AlgebraTreeModel" rfl (by decide) (Nat.le_of_ble_eq_true rfl) ?_
  intro zp ze zs zm zargs zbelow zmeth zc C zr zlk znm
  refine k_pc (pc' := 0) (st' := []) rfl rfl ?_
  show K zp zl ze (gv_rm 0 0 0) zs zm zargs zbelow zmeth zc D base 5 (gv_E D [(cI, .int), (cN, .object "AlgebraTree$Node"), (cR, .object "AlgebraTree$Rows")] base zbelow zargs zs 0 0 (fun zv zV => ∃ fw1 : Nat → Int32, zv = some (.int (bI (fitB x y fw))) ∧ zV = gv_up V wn (.inl (cI, 6, .inl fw1)) ∧ (fitB x y fw = true → eq6 fw1 (fitR x y fw)))) V 0 0 [(0, .ref m), (1, .int x), (2, .int y)] 0 []
  refine k_iload_n C dX7_fits_0 rfl 1 rfl ?_
  refine k_if_lt (tgt := 15) C dX7_fits_1 (by decide) (fun c1 => ?_) (fun c1 => ?_)
  · skip
    obtain ⟨v, hv, hxv⟩ := plc_v hx (Int32.not_le.mpr c1)
    refine k_iconst (v := (-1 : Int32)) C dX7_fits_15 (by decide) ?_
    refine k_iload_n C dX7_fits_16 rfl 1 rfl ?_
    refine k_isub C dX7_fits_17 ?_
    refine k_val (y := nI v) hxv ?_
    refine k_istore_n (lv' := [(3, .int (nI v)), (0, .ref m), (1, .int x), (2, .int y)]) C dX7_fits_18 rfl (by decide) rfl ?_
    refine k_aload_n C dX7_fits_19 rfl 1 rfl ?_
    refine k_get (ci := 7) (k := 10) C fl_7_29 h_m rfl dX7_fits_20 ?_
    refine k_iload_n C dX7_fits_23 rfl 0 rfl ?_
    refine k_iald (v := fw v) C 0 h_wn rfl (vp_in_nI (by omega) (by omega)) (by rw [nI_clamp (by omega)]) dX7_fits_24 ?_
    refine k_ldc (v := (-2147483648)) C wd_784 dX7_fits_25 ?_
    refine k_icmp_eq (tgt := 40) C dX7_fits_27 (by decide) (fun c27 => ?_) (fun c27 => ?_)
    · skip
      refine k_iconst (v := nI 1) C dX7_fits_40 rfl ?_
      refine k_goto (tgt := 45) C dX7_fits_41 (by decide) ?_
      refine k_istore (lv' := [(4, .int (nI 1)), (3, .int (nI v)), (0, .ref m), (1, .int x), (2, .int y)]) C dX7_fits_45 (by decide) rfl ?_
      refine k_aload_n C dX7_fits_47 rfl 2 rfl ?_
      refine k_get (ci := 7) (k := 10) C fl_7_29 h_m rfl dX7_fits_48 ?_
      refine k_iload_n C dX7_fits_51 rfl 1 rfl ?_
      refine k_iload_n C dX7_fits_52 rfl 4 rfl ?_
      refine k_iast (f' := upd fw v y) C 0 h_wn rfl (vp_in_nI (by omega) (by omega)) (by rw [nI_clamp (by omega)]) dX7_fits_53 ?_
      refine k_iload C dX7_fits_54 0 rfl ?_
      exact k_zret C zr zlk rfl ⟨upd fw v y, (congrArg (fun z => some (Value.int z)) (bI_t (by rw [fit_g hv c1 hxv]; first | simp [c27, c37] | simp [c27]))), rfl, (fun hg z hz => fit_m hv c1 hxv hg hz)⟩ (Nat.le_refl _) (Nat.le_refl _) dX7_fits_56
    · skip
      refine k_aload_n C dX7_fits_30 rfl 1 rfl ?_
      refine k_get (ci := 7) (k := 10) C fl_7_29 h_m rfl dX7_fits_31 ?_
      refine k_iload_n C dX7_fits_34 rfl 0 rfl ?_
      refine k_iald (v := fw v) C 0 h_wn rfl (vp_in_nI (by omega) (by omega)) (by rw [nI_clamp (by omega)]) dX7_fits_35 ?_
      refine k_iload_n C dX7_fits_36 rfl 3 rfl ?_
      refine k_icmp_ne (tgt := 44) C dX7_fits_37 (by decide) (fun c37 => ?_) (fun c37 => ?_)
      · skip
        refine k_iconst (v := nI 0) C dX7_fits_44 rfl ?_
        refine k_istore (lv' := [(4, .int (nI 0)), (3, .int (nI v)), (0, .ref m), (1, .int x), (2, .int y)]) C dX7_fits_45 (by decide) rfl ?_
        refine k_aload_n C dX7_fits_47 rfl 2 rfl ?_
        refine k_get (ci := 7) (k := 10) C fl_7_29 h_m rfl dX7_fits_48 ?_
        refine k_iload_n C dX7_fits_51 rfl 1 rfl ?_
        refine k_iload_n C dX7_fits_52 rfl 4 rfl ?_
        refine k_iast (f' := upd fw v y) C 0 h_wn rfl (vp_in_nI (by omega) (by omega)) (by rw [nI_clamp (by omega)]) dX7_fits_53 ?_
        refine k_iload C dX7_fits_54 0 rfl ?_
        exact k_zret C zr zlk rfl ⟨upd fw v y, (congrArg (fun z => some (Value.int z)) (bI_f (by rw [fit_g hv c1 hxv]; first | simp [c27, c37] | simp [c27]))), rfl, (fun hg z hz => fit_m hv c1 hxv hg hz)⟩ (Nat.le_refl _) (Nat.le_refl _) dX7_fits_56
      · skip
        refine k_iconst (v := nI 1) C dX7_fits_40 rfl ?_
        refine k_goto (tgt := 45) C dX7_fits_41 (by decide) ?_
        refine k_istore (lv' := [(4, .int (nI 1)), (3, .int (nI v)), (0, .ref m), (1, .int x), (2, .int y)]) C dX7_fits_45 (by decide) rfl ?_
        refine k_aload_n C dX7_fits_47 rfl 2 rfl ?_
        refine k_get (ci := 7) (k := 10) C fl_7_29 h_m rfl dX7_fits_48 ?_
        refine k_iload_n C dX7_fits_51 rfl 1 rfl ?_
        refine k_iload_n C dX7_fits_52 rfl 4 rfl ?_
        refine k_iast (f' := upd fw v y) C 0 h_wn rfl (vp_in_nI (by omega) (by omega)) (by rw [nI_clamp (by omega)]) dX7_fits_53 ?_
        refine k_iload C dX7_fits_54 0 rfl ?_
        exact k_zret C zr zlk rfl ⟨upd fw v y, (congrArg (fun z => some (Value.int z)) (bI_t (by rw [fit_g hv c1 hxv]; first | simp [c27, c37] | simp [c27]))), rfl, (fun hg z hz => fit_m hv c1 hxv hg hz)⟩ (Nat.le_refl _) (Nat.le_refl _) dX7_fits_56
  · skip
    refine k_iload_n C dX7_fits_4 rfl 1 rfl ?_
    refine k_iload_n C dX7_fits_5 rfl 2 rfl ?_
    refine k_icmp_ne (tgt := 13) C dX7_fits_6 (by decide) (fun c6 => ?_) (fun c6 => ?_)
    · skip
      refine k_iconst (v := nI 0) C dX7_fits_13 rfl ?_
      refine k_view (V1 := gv_up V wn (.inl (cI, 6, .inl fw))) (gv_id h_wn).symm ?_
      exact k_zret C zr zlk rfl ⟨fw, (congrArg (fun z => some (Value.int z)) (by first | exact bI_t (by unfold fitB; rw [if_pos (Int32.not_lt.mp c1)]; simpa using c6) | exact bI_f (by unfold fitB; rw [if_pos (Int32.not_lt.mp c1)]; simpa using c6))), rfl, (fun _ z hz => by unfold fitR; rw [if_pos (Int32.not_lt.mp c1)])⟩ (Nat.le_refl _) (Nat.le_refl _) dX7_fits_14
    · skip
      refine k_iconst (v := nI 1) C dX7_fits_9 rfl ?_
      refine k_goto (tgt := 14) C dX7_fits_10 (by decide) ?_
      refine k_view (V1 := gv_up V wn (.inl (cI, 6, .inl fw))) (gv_id h_wn).symm ?_
      exact k_zret C zr zlk rfl ⟨fw, (congrArg (fun z => some (Value.int z)) (by first | exact bI_t (by unfold fitB; rw [if_pos (Int32.not_lt.mp c1)]; simpa using c6) | exact bI_f (by unfold fitB; rw [if_pos (Int32.not_lt.mp c1)]; simpa using c6))), rfl, (fun _ z hz => by unfold fitR; rw [if_pos (Int32.not_lt.mp c1)])⟩ (Nat.le_refl _) (Nat.le_refl _) dX7_fits_14
