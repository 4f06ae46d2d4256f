/-! what nodes are: lists of rows -/
theorem al_c {P P' : Nat → Bool} {n : Nat} (h : ∀ v, v < n → P v = P' v) : al P n = al P' n := by
  induction n with
  | zero => rfl
  | succ n ih => simp only [al]; rw [ih (fun v hv => h v (by omega)), h n (by omega)]
theorem agr_c {x x' y y' : Row} (hx : eq6 x x') (hy : eq6 y y') : agr x y = agr x' y' := al_c (fun v hv => by simp only [agP]; rw [hx v hv, hy v hv])
theorem shr_c {x x' y y' : Row} (hx : eq6 x x') (hy : eq6 y y') : shr x y = shr x' y' := congrArg (fun b => !b) (al_c (fun v hv => by simp only [shP]; rw [hx v hv, hy v hv]))
theorem lik_c {set : Int32} {x x' y y' : Row} (hx : eq6 x x') (hy : eq6 y y') : lik set x y = lik set x' y' := al_c (fun v hv => by simp only [lkP]; rw [hx v hv, hy v hv])
theorem tog_c {x x' y y' : Row} (hx : eq6 x x') (hy : eq6 y y') : eq6 (tog x y) (tog x' y') := fun v hv => by simp only [tog]; rw [hx v hv, hy v hv]
theorem prj_c {set : Int32} {x x' : Row} (hx : eq6 x x') : eq6 (prj set x) (prj set x') := fun v hv => by simp only [prj]; rw [hx v hv]
theorem ev_c {E : Nat → Ex} {ne : Nat} {kd fs sc pt : Nat → Int32} (hX : ExR E ne kd fs sc pt) {r r' : Row} (hr : eq6 r r') : ∀ (m k : Nat), k < m → k < ne → ev E r k = ev E r' k
  | 0, _, h, _ => absurd h (Nat.not_lt_zero _)
  | m + 1, k, h, hk => by
    have hne := hX.1
    by_cases hq : (E k).1 ≤ 8
    · obtain ⟨i1, i2, hi1, hi2, hx1, hx2, -⟩ := hX.op hk hq
      rw [ev_op (by omega) hq hi1 hi2 hx1 hx2, ev_op (by omega) hq hi1 hi2 hx1 hx2, ev_c hX hr m i1 (by omega) (by omega), ev_c hX hr m i2 (by omega) (by omega)]
    · rw [ev_lf (by omega), ev_lf (by omega)]
      by_cases h9 : (E k).1 = 9
      · rw [h9]; rfl
      · obtain ⟨v, hv, hx⟩ := hX.va hk (by omega) h9
        rw [hx, lfv_v hv h9, lfv_v hv h9, hr v hv]
theorem Rep.nil {f : Nat → Int32} : Rep [] 0 (nI 0) f := ⟨rfl, rfl, fun i hi => absurd hi (Nat.not_lt_zero _)⟩
theorem Rep.tl {M : List Row} {n : Nat} {tl : Int32} {f : Nat → Int32} (h : Rep M n tl f) : tl = bI (decide (80 < M.length)) := h.2.1
theorem Rep.ext {M X : List Row} {n : Nat} {tl : Int32} {f : Nat → Int32} (h : Rep M n tl f) (ht : ¬ tl = 0) : Rep (M ++ X) n tl f := by
  obtain ⟨h1, h2, h3⟩ := h
  have hl : 80 < M.length := by
    rw [h2] at ht
    exact of_decide_eq_true (bI_n.mp ht)
  refine ⟨by rw [h1, List.length_append]; omega, ?_, fun i hi => ?_⟩
  · rw [h2, decide_eq_true hl, decide_eq_true (by rw [List.length_append]; omega)]
  · have : rowAt (M ++ X) i = rowAt M i := by simp only [rowAt, List.getD_eq_getElem?_getD, List.getElem?_append_left (show i < M.length by omega)]
    rw [this]
    exact h3 i hi
theorem Tab.at {M : List Row} {n : Nat} {f : Nat → Int32} (h : Tab M n f) {i : Nat} (hi : i < n) : eq6 (rwf f i) (rowAt M i) := h.2.2 i hi
/-! join -/
def join1 (x : Row) (B : List Row) : List Row := (B.filter (agr x)).map (tog x)
def joinL (A B : List Row) : List Row := A.flatMap (fun x => join1 x B)
theorem join1_s {x : Row} {B : List Row} {j : Nat} (h : j < B.length) : join1 x (B.take (j + 1)) = join1 x (B.take j) ++ if agr x (rowAt B j) = true then [tog x (rowAt B j)] else [] := by
  unfold join1
  rw [take_s h, List.filter_append, List.map_append]
  congr 1
  simp only [List.filter_cons, List.filter_nil]
  split <;> rfl
theorem joinL_s {A B : List Row} {i : Nat} (h : i < A.length) : joinL (A.take (i + 1)) B = joinL (A.take i) B ++ join1 (rowAt A i) B := by
  unfold joinL
  rw [take_s h, List.flatMap_append]
  simp
theorem pre_flat {A : List Row} {F : Row → List Row} (i : Nat) : ∃ X, A.flatMap F = (A.take i).flatMap F ++ X := ⟨(A.drop i).flatMap F, by rw [← List.flatMap_append, List.take_append_drop]⟩
theorem pre_filt {A : List Row} {p : Row → Bool} (i : Nat) : ∃ X, A.filter p = (A.take i).filter p ++ X := ⟨(A.drop i).filter p, by rw [← List.filter_append, List.take_append_drop]⟩
theorem pre_join1 {x : Row} {B : List Row} (j : Nat) : ∃ X, join1 x B = join1 x (B.take j) ++ X := ⟨join1 x (B.drop j), by unfold join1; rw [← List.map_append, ← List.filter_append, List.take_append_drop]⟩
theorem take_all {M : List Row} {n k : Nat} (h : n = M.length) (hk : n ≤ k) : M.take k = M := List.take_of_length_le (by omega)
/-! minus -/
def tknA (B : List Row) (x : Row) : Bool := B.any (fun y => agr x y && shr x y)
def minusL (A B : List Row) : List Row := A.filter (fun x => !tknA B x)
theorem filt_s {A : List Row} {p : Row → Bool} {i : Nat} (h : i < A.length) : (A.take (i + 1)).filter p = (A.take i).filter p ++ if p (rowAt A i) = true then [rowAt A i] else [] := by
  rw [take_s h, List.filter_append]
  congr 1
  simp only [List.filter_cons, List.filter_nil]
theorem any_s {A : List Row} {p : Row → Bool} {i : Nat} (h : i < A.length) : (A.take (i + 1)).any p = ((A.take i).any p || p (rowAt A i)) := by
  rw [take_s h, List.any_append]
  simp
theorem map_s {A : List Row} {F : Row → Row} {i : Nat} (h : i < A.length) : (A.take (i + 1)).map F = (A.take i).map F ++ [F (rowAt A i)] := by
  rw [take_s h, List.map_append]
  rfl
/-! left join -/
def left1 (c : Row → Bool) (x : Row) (B : List Row) : List Row := (B.filter (fun y => agr x y && c (tog x y))).map (tog x)
def leftX (c : Row → Bool) (B : List Row) (x : Row) : List Row := if (left1 c x B).isEmpty then [x] else left1 c x B
def leftL (c : Row → Bool) (A B : List Row) : List Row := A.flatMap (leftX c B)
theorem left1_s {c : Row → Bool} {x : Row} {B : List Row} {j : Nat} (h : j < B.length) : left1 c x (B.take (j + 1)) = left1 c x (B.take j) ++ if (agr x (rowAt B j) && c (tog x (rowAt B j))) = true then [tog x (rowAt B j)] else [] := by
  unfold left1
  rw [take_s h, List.filter_append, List.map_append]
  congr 1
  simp only [List.filter_cons, List.filter_nil]
  split <;> rfl
theorem pre_left1 {c : Row → Bool} {x : Row} {B : List Row} (j : Nat) : ∃ X, left1 c x B = left1 c x (B.take j) ++ X := ⟨left1 c x (B.drop j), by unfold left1; rw [← List.map_append, ← List.filter_append, List.take_append_drop]⟩
theorem leftL_s {c : Row → Bool} {A B : List Row} {i : Nat} (h : i < A.length) : leftL c (A.take (i + 1)) B = leftL c (A.take i) B ++ leftX c B (rowAt A i) := by
  unfold leftL
  rw [take_s h, List.flatMap_append]
  simp
/-! extension, projection, distinct rows, slice -/
def extR (v : Nat) (w : Int32) (x : Row) : Row := fun u => if u = v ∧ x u = oE then w else x u
def dstS (set : Int32) (acc : List Row) (x : Row) : List Row := if acc.any (fun y => lik set y x) = true then acc else acc ++ [prj set x]
def distL (set : Int32) (A : List Row) : List Row := A.foldl (dstS set) []
theorem dist_s {set : Int32} {A : List Row} {i : Nat} (h : i < A.length) : distL set (A.take (i + 1)) = dstS set (distL set (A.take i)) (rowAt A i) := by
  unfold distL
  rw [take_s h, List.foldl_append]
  rfl
theorem dist_len {set : Int32} {A : List Row} : (distL set A).length ≤ A.length := by
  have key : ∀ (A acc : List Row), (A.foldl (dstS set) acc).length ≤ acc.length + A.length := by
    intro A
    induction A with
    | nil => intro acc; simp
    | cons x A ih =>
      intro acc
      rw [List.foldl_cons]
      refine Nat.le_trans (ih _) ?_
      unfold dstS
      split <;> simp <;> omega
  have := key A []
  simpa [distL] using this
theorem hasL_any {set : Int32} {f : Nat → Int32} {M : List Row} {n : Nat} {x y : Row} (hn : n = M.length) (h : ∀ i, i < n → eq6 (rwf f i) (rowAt M i)) (hx : eq6 x y) : hasL set f n x = M.any (fun z => lik set z y) := by
  have key : ∀ k, k ≤ n → (!al (fun z => !lik set (rwf f z) x) k) = (M.take k).any (fun z => lik set z y) := by
    intro k
    induction k with
    | zero => intro _; simp [al]
    | succ k ih =>
      intro hk
      rw [any_s (by omega), ← ih (by omega), ← lik_c (set := set) (h k (by omega)) hx]
      simp only [al]
      cases al (fun z => !lik set (rwf f z) x) k <;> simp
  have := key n (Nat.le_refl _)
  rw [take_all hn (Nat.le_refl _)] at this
  exact this
theorem rowAt_mem {M : List Row} {i : Nat} (h : i < M.length) : rowAt M i ∈ M := by
  simp only [rowAt, List.getD_eq_getElem?_getD, List.getElem?_eq_getElem h]
  exact List.getElem_mem h
/-- a draft that was written over once more -/
theorem Rep.addx {M : List Row} {n : Nat} {tl : Int32} {f f2 : Nat → Int32} {r : Row} (h : Rep M n tl f) (hr : ∀ v, v < 6 → f2 (n * 6 + v) = r v) (hl : ∀ j, j < n * 6 → f2 j = f j) : Rep (M ++ [r]) (if n = 80 then 80 else n + 1) (if n = 80 then 1 else tl) f2 := by
  have h2 := h.add (r := r) (r2 := r) eq6.rf
  refine ⟨h2.1, h2.2.1, fun i hi v hv => ?_⟩
  rw [← h2.2.2 i hi v hv]
  show f2 (i * 6 + v) = wrk f n r 6 (i * 6 + v)
  rcases Nat.lt_or_ge i n with hin | hin
  · rw [hl _ (by omega), wrk_lo (by omega)]
  · have hle := h.le
    have : i = n := by
      by_cases hn : n = 80
      · rw [if_pos hn] at hi; omega
      · rw [if_neg hn] at hi; omega
    rw [this, hr v hv, wrk_in hv]
theorem tk_lo {f : Nat → Int32} {j k : Nat} {x : Int32} (h : j < k) : tk f k x j = f j := by
  unfold tk
  split
  · simp only [upd]; rw [if_neg (by omega)]
  · rfl
theorem extR_tk {f : Nat → Int32} {n v w : Nat} {r : Row} {x : Int32} (hw : w < 6) (hv : v < 6) : tk (wrk f n r 6) (n * 6 + v) x (n * 6 + w) = extR v x r w := by
  unfold tk extR
  rw [wrk_in hv]
  by_cases h : w = v
  · subst h
    by_cases ho : r w = oE
    · rw [if_pos ho, if_pos ⟨rfl, ho⟩]; simp [upd]
    · rw [if_neg ho, if_neg (fun h => ho h.2)]; exact wrk_in hw
  · have e2 : (if w = v ∧ r w = oE then x else r w) = r w := if_neg (fun q => h q.1)
    rw [e2]
    split
    · simp only [upd]; rw [if_neg (by omega)]; exact wrk_in hw
    · exact wrk_in hw
theorem extR_c {v : Nat} {w : Int32} {x y : Row} (h : eq6 x y) : eq6 (extR v w x) (extR v w y) := fun u hu => by
  unfold extR
  rw [h u hu]
theorem slice_s {A : List Row} {u i : Nat} (h : u ≤ i) (hi : i < A.length) : (A.drop u).take (i + 1 - u) = (A.drop u).take (i - u) ++ [rowAt A i] := by
  rw [show i + 1 - u = (i - u) + 1 by omega, take_s (by rw [List.length_drop]; omega)]
  congr 2
  simp only [rowAt, List.getD_eq_getElem?_getD, List.getElem?_drop]
  congr 2
  omega
theorem slice_e {A : List Row} {u0 u1 i : Nat} (h : u0 ≤ i) (hi : i - u0 = u1 ∨ (A.length ≤ i ∧ i - u0 ≤ u1)) : (A.drop u0).take u1 = (A.drop u0).take (i - u0) := by
  rcases hi with hi | ⟨hi, h2⟩
  · rw [hi]
  · rw [List.take_of_length_le (by rw [List.length_drop]; omega), List.take_of_length_le (by rw [List.length_drop]; omega)]
theorem Rep.sw {M X Y : List Row} {n : Nat} {tl : Int32} {f : Nat → Int32} (h : Rep (M ++ Y) n tl f) (hl : 80 < M.length) : Rep (M ++ X) n tl f := by
  obtain ⟨h1, h2, h3⟩ := h
  simp only [List.length_append] at h1 h2
  refine ⟨by rw [h1, List.length_append]; omega, ?_, fun i hi => ?_⟩
  · rw [h2, decide_eq_true (by omega), decide_eq_true (by rw [List.length_append]; omega)]
  · have e1 : ∀ Z : List Row, rowAt (M ++ Z) i = rowAt M i := fun Z => by simp only [rowAt, List.getD_eq_getElem?_getD, List.getElem?_append_left (show i < M.length by omega)]
    rw [e1 X, ← e1 Y]
    exact h3 i hi
theorem Rep.long {M : List Row} {n : Nat} {tl : Int32} {f : Nat → Int32} (h : Rep M n tl f) (ht : ¬ tl = 0) : 80 < M.length := by
  rw [h.2.1] at ht
  exact of_decide_eq_true (bI_n.mp ht)
theorem left_no {c : Row → Bool} {x : Row} {P B : List Row} {j n2 n : Nat} {tl : Int32} {f : Nat → Int32} (h : Rep (P ++ left1 c x (B.take j)) n tl f) (hn : n2 = B.length) (hj : n2 ≤ j ∨ ¬ tl = 0) (he : (left1 c x (B.take j)).isEmpty = false) : Rep (P ++ leftX c B x) n tl f := by
  obtain ⟨X, hX⟩ := pre_left1 (c := c) (x := x) (B := B) j
  have he2 : (left1 c x B).isEmpty = false := by
    rw [hX]
    cases hq : left1 c x (B.take j) with
    | nil => rw [hq] at he; cases he
    | cons a l => rfl
  unfold leftX
  rw [if_neg (by rw [he2]; decide)]
  rcases hj with hj | hj
  · rw [take_all hn hj] at h; exact h
  · rw [hX, ← List.append_assoc]; exact h.ext hj
theorem left_al {c : Row → Bool} {x r : Row} {P B : List Row} {j n2 n : Nat} {tl : Int32} {f : Nat → Int32} (h : Rep (P ++ left1 c x (B.take j)) n tl f) (hn : n2 = B.length) (hj : n2 ≤ j ∨ ¬ tl = 0) (he : (left1 c x (B.take j)).isEmpty = true) (hr : eq6 r x) : Rep (P ++ leftX c B x) (if n = 80 then 80 else n + 1) (if n = 80 then 1 else tl) (wrk f n r 6) := by
  have hnil : left1 c x (B.take j) = [] := List.isEmpty_iff.mp he
  rw [hnil, List.append_nil] at h
  rcases hj with hj | hj
  · rw [take_all hn hj] at hnil
    unfold leftX
    rw [hnil]
    exact h.add hr
  · exact (h.add (r := x) hr).sw (h.long hj)
theorem nI_n1 {e : Nat} (h : e < 2 ^ 31) : ¬ nI e = -1 := fun q => by
  have := nI_pos h
  rw [q] at this
  exact this (by decide)
theorem empty_app {L : List Row} {r : Row} : (L ++ [r]).isEmpty = false := by cases L <;> rfl
/-! pattern -/
def fitR (x t : Int32) (r : Row) : Row := if 0 ≤ x then r else fun u => if u = ((-1) - x).toNatClampNeg ∧ r u = oE then t else r u
def fitB (x t : Int32) (r : Row) : Bool := if 0 ≤ x then x == t else fitR x t r ((-1) - x).toNatClampNeg == t
theorem plc_v {x : Int32} (h : plc x = true) (h0 : ¬ 0 ≤ x) : ∃ v, v < 6 ∧ (-1) - x = nI v := by
  have h2 : -6 ≤ x.toInt ∧ x.toInt < 0 := by
    simp only [plc, Bool.and_eq_true, decide_eq_true_eq, Int32.le_iff_toInt_le] at h h0
    exact ⟨by simpa using h.1, by simpa using h0⟩
  obtain ⟨k, hk1, hk2⟩ : ∃ k : Nat, k < 6 ∧ x.toInt = -1 - (k : Int) := ⟨(-1 - x.toInt).toNat, by omega, by omega⟩
  refine ⟨k, hk1, ?_⟩
  have hx : x = (-1) - nI k := by
    apply Int32.toInt_inj.mp
    rw [hk2]
    rcases (show k = 0 ∨ k = 1 ∨ k = 2 ∨ k = 3 ∨ k = 4 ∨ k = 5 by omega) with rfl | rfl | rfl | rfl | rfl | rfl <;> decide
  rw [hx]
  rcases (show k = 0 ∨ k = 1 ∨ k = 2 ∨ k = 3 ∨ k = 4 ∨ k = 5 by omega) with rfl | rfl | rfl | rfl | rfl | rfl <;> decide
theorem fitR_c {x t : Int32} {r s : Row} (h : eq6 r s) : eq6 (fitR x t r) (fitR x t s) := fun v hv => by
  unfold fitR
  split
  · exact h v hv
  · show (if _ then _ else _) = (if _ then _ else _)
    rw [h v hv]
theorem fitB_c {x t : Int32} {r s : Row} (hx : plc x = true) (h : eq6 r s) : fitB x t r = fitB x t s := by
  unfold fitB
  by_cases h0 : 0 ≤ x
  · rw [if_pos h0, if_pos h0]
  · obtain ⟨v, hv, e⟩ := plc_v hx h0
    rw [if_neg h0, if_neg h0, e, nI_clamp (by omega), fitR_c h v hv]
abbrev Tr : Type := Int32 × Int32 × Int32 × Int32
def pat1 (g s p o : Int32) (t : Tr) : Option Row := if t.1 = g ∧ fitB s t.2.1 opn = true ∧ fitB p t.2.2.1 (fitR s t.2.1 opn) = true ∧ fitB o t.2.2.2 (fitR p t.2.2.1 (fitR s t.2.1 opn)) = true then some (fitR o t.2.2.2 (fitR p t.2.2.1 (fitR s t.2.1 opn))) else none
def trAt (T : List Tr) (i : Nat) : Tr := T.getD i (0, 0, 0, 0)
def patL (T : List Tr) (g s p o : Int32) : List Row := T.filterMap (pat1 g s p o)
theorem tr_s {T : List Tr} {i : Nat} (h : i < T.length) : T.take (i + 1) = T.take i ++ [trAt T i] := by
  rw [List.take_succ_eq_append_getElem h, trAt, List.getD_eq_getElem?_getD, List.getElem?_eq_getElem h]
  rfl
theorem pat_y {T : List Tr} {g s p o : Int32} {i : Nat} {r : Row} (h : i < T.length) (hp : pat1 g s p o (trAt T i) = some r) : patL (T.take (i + 1)) g s p o = patL (T.take i) g s p o ++ [r] := by
  unfold patL
  rw [tr_s h, List.filterMap_append]
  simp [hp]
theorem pat_n {T : List Tr} {g s p o : Int32} {i : Nat} (h : i < T.length) (hp : pat1 g s p o (trAt T i) = none) : patL (T.take (i + 1)) g s p o = patL (T.take i) g s p o := by
  unfold patL
  rw [tr_s h, List.filterMap_append]
  simp [hp]
/-- what the class keeps of the triples -/
def TrR (T : List Tr) (nt : Nat) (tg ts tp tq : Nat → Int32) : Prop := nt = T.length ∧ nt ≤ 60 ∧ ∀ i, i < nt → tg i = (trAt T i).1 ∧ ts i = (trAt T i).2.1 ∧ tp i = (trAt T i).2.2.1 ∧ tq i = (trAt T i).2.2.2
theorem Rep.lo {M : List Row} {n : Nat} {tl : Int32} {f f2 : Nat → Int32} (h : Rep M n tl f) (hl : ∀ j, j < n * 6 → f2 j = f j) : Rep M n tl f2 := ⟨h.1, h.2.1, fun i hi v hv => (hl _ (by omega)).trans (h.2.2 i hi v hv)⟩
def gbf (dn x y : Int32) : Bool := if dn = 0 then decide (x < y) else decide (y < x)
theorem fit_tk {x t : Int32} {f : Nat → Int32} {n v z : Nat} (hz : z < 6) (hv : v < 6) (h0 : x < 0) (hx : (-1) - x = nI v) : tk f (n * 6 + v) t (n * 6 + z) = fitR x t (rwf f n) z := by
  unfold fitR tk
  rw [if_neg (Int32.not_le.mpr h0), hx, nI_clamp (by omega)]
  show _ = if z = v ∧ rwf f n z = oE then t else rwf f n z
  by_cases h : z = v
  · subst h
    by_cases ho : f (n * 6 + z) = oE
    · rw [if_pos ho, if_pos ⟨rfl, ho⟩]; simp [upd]
    · rw [if_neg ho, if_neg (fun q => ho q.2)]; rfl
  · have e2 : (if z = v ∧ rwf f n z = oE then t else rwf f n z) = rwf f n z := if_neg (fun q => h q.1)
    rw [e2]
    split
    · simp only [upd]; rw [if_neg (by omega)]; rfl
    · rfl
theorem fit_tkB {x t : Int32} {f : Nat → Int32} {n v : Nat} (hv : v < 6) (h0 : x < 0) (hx : (-1) - x = nI v) : bI (tk f (n * 6 + v) t (n * 6 + v) == t) = bI (fitB x t (rwf f n)) := by
  unfold fitB
  rw [if_neg (Int32.not_le.mpr h0), hx, nI_clamp (by omega), fit_tk hv hv h0 hx]
theorem upd_nx {f g : Nat → Int32} {k : Nat} {x : Int32} (h : ∀ z, z < k → f z = g z) (hx : x = g k) : ∀ z, z < k + 1 → upd f k x z = g z := fun z hz => by
  by_cases hk : z = k
  · subst hk; simp only [upd, if_pos]; exact hx
  · simp only [upd, if_neg hk]; exact h z (by omega)
