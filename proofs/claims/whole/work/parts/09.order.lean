/-! order: the places in the order of their keys, equal keys in the order of their numbers -/
def leO (dn : Int32) (k : Nat → Int32) (i j : Nat) : Prop := gbf dn (k i) (k j) = true ∨ (k i = k j ∧ i ≤ j)
theorem gbf_irr {dn x : Int32} : gbf dn x x = false := by unfold gbf; split <;> simp
theorem gbf_asym {dn x y : Int32} (h : gbf dn x y = true) : gbf dn y x = false := by
  unfold gbf at h ⊢
  by_cases hd : dn = 0
  · rw [if_pos hd] at h ⊢; grind
  · rw [if_neg hd] at h ⊢; grind
theorem gbf_tr {dn x y z : Int32} (h : gbf dn x y = true) (h2 : gbf dn y z = true) : gbf dn x z = true := by
  unfold gbf at h h2 ⊢
  by_cases hd : dn = 0
  · rw [if_pos hd] at h h2 ⊢; grind
  · rw [if_neg hd] at h h2 ⊢; grind
theorem gbf_tot {dn x y : Int32} (h : gbf dn x y = false) : gbf dn y x = true ∨ x = y := by
  unfold gbf at h ⊢
  by_cases hd : dn = 0
  · rw [if_pos hd] at h ⊢; grind
  · rw [if_neg hd] at h ⊢; grind
theorem leO_tr {dn : Int32} {k : Nat → Int32} {a b c : Nat} (h : leO dn k a b) (h2 : leO dn k b c) : leO dn k a c := by
  rcases h with h | ⟨h, h'⟩ <;> rcases h2 with h2 | ⟨h2, h2'⟩
  · exact Or.inl (gbf_tr h h2)
  · exact Or.inl (h2 ▸ h)
  · exact Or.inl (by rw [h]; exact h2)
  · exact Or.inr ⟨h.trans h2, Nat.le_trans h' h2'⟩
theorem leO_as {dn : Int32} {k : Nat → Int32} {a b : Nat} (h : leO dn k a b) (h2 : leO dn k b a) : a = b := by
  rcases h with h | ⟨h, h'⟩ <;> rcases h2 with h2 | ⟨h2, h2'⟩
  · rw [gbf_asym h] at h2; cases h2
  · rw [h2, gbf_irr] at h; cases h
  · rw [h, gbf_irr] at h2; cases h2
  · omega
theorem leO_tot {dn : Int32} {k : Nat → Int32} (a b : Nat) : leO dn k a b ∨ leO dn k b a := by
  cases h : gbf dn (k a) (k b) with
  | true => exact Or.inl (Or.inl h)
  | false =>
    rcases gbf_tot h with h2 | h2
    · exact Or.inr (Or.inl h2)
    · rcases Nat.le_total a b with h3 | h3
      · exact Or.inl (Or.inr ⟨h2, h3⟩)
      · exact Or.inr (Or.inr ⟨h2.symm, h3⟩)
/-- a list of places in order -/
def Ord (dn : Int32) (k : Nat → Int32) (n : Nat) (L : List Nat) : Prop := L.Perm (List.range n) ∧ L.Pairwise (leO dn k)
theorem Ord.uniq {dn : Int32} {k : Nat → Int32} {n : Nat} {L M : List Nat} (h : Ord dn k n L) (h2 : Ord dn k n M) : L = M :=
  List.Perm.eq_of_pairwise (le := leO dn k) (fun a b _ _ h1 h2 => leO_as h1 h2) h.2 h2.2 (h.1.trans h2.1.symm)
theorem Ord.len {dn : Int32} {k : Nat → Int32} {n : Nat} {L : List Nat} (h : Ord dn k n L) : L.length = n := by rw [h.1.length_eq, List.length_range]
theorem Ord.lt {dn : Int32} {k : Nat → Int32} {n : Nat} {L : List Nat} (h : Ord dn k n L) {x : Nat} (hx : x ∈ L) : x < n := List.mem_range.mp (h.1.mem_iff.mp hx)
theorem Ord.zero {dn : Int32} {k : Nat → Int32} : Ord dn k 0 [] := ⟨List.Perm.refl _, List.Pairwise.nil⟩
def plA (L : List Nat) (q : Nat) : Nat := L.getD q 0
theorem plA_mem {L : List Nat} {q : Nat} (h : q < L.length) : plA L q ∈ L := by
  unfold plA
  rw [List.getD_eq_getElem?_getD, List.getElem?_eq_getElem h]
  exact List.getElem_mem h
theorem Ord.at {dn : Int32} {k : Nat → Int32} {n : Nat} {L : List Nat} (h : Ord dn k n L) {q : Nat} (hq : q < n) : plA L q < n := h.lt (plA_mem (by rw [h.len]; exact hq))
def insA (L : List Nat) (p i : Nat) : List Nat := L.take p ++ i :: L.drop p
theorem plA_lo {L : List Nat} {p i q : Nat} (hp : p ≤ L.length) (h : q < p) : plA (insA L p i) q = plA L q := by
  unfold plA insA
  rw [List.getD_eq_getElem?_getD, List.getD_eq_getElem?_getD, List.getElem?_append_left (by rw [List.length_take]; omega), List.getElem?_take]
  simp [h]
theorem plA_eq {L : List Nat} {p i : Nat} (hp : p ≤ L.length) : plA (insA L p i) p = i := by
  unfold plA insA
  rw [List.getD_eq_getElem?_getD, List.getElem?_append_right (by rw [List.length_take]; omega), List.length_take, Nat.min_eq_left hp, Nat.sub_self]
  rfl
theorem plA_hi {L : List Nat} {p i q : Nat} (hp : p ≤ L.length) (h : p ≤ q) : plA (insA L p i) (q + 1) = plA L q := by
  unfold plA insA
  rw [List.getD_eq_getElem?_getD, List.getD_eq_getElem?_getD, List.getElem?_append_right (by rw [List.length_take]; omega), List.length_take, Nat.min_eq_left hp, show q + 1 - p = (q - p) + 1 by omega, List.getElem?_cons_succ, List.getElem?_drop]
  congr 2
  omega
/-- a place is put in -/
theorem Ord.ins {dn : Int32} {k : Nat → Int32} {i p : Nat} {L : List Nat} (h : Ord dn k i L) (hp : p ≤ i) (hhi : ∀ q, p ≤ q → q < i → gbf dn (k i) (k (plA L q)) = true) (hlo : p = 0 ∨ gbf dn (k i) (k (plA L (p - 1))) = false) : Ord dn k (i + 1) (insA L p i) := by
  have hl := h.len
  have hpw : (L.take p ++ L.drop p).Pairwise (leO dn k) := by rw [List.take_append_drop]; exact h.2
  obtain ⟨p1, p2, p3⟩ := List.pairwise_append.mp hpw
  have memd : ∀ x, x ∈ L.drop p → ∃ q, p ≤ q ∧ q < i ∧ x = plA L q := by
    intro x hx
    obtain ⟨j, hj⟩ := List.getElem?_of_mem hx
    rw [List.getElem?_drop] at hj
    have hjl := (List.getElem?_eq_some_iff.mp hj).1
    exact ⟨p + j, by omega, by omega, by unfold plA; rw [List.getD_eq_getElem?_getD, hj]; rfl⟩
  have memt : ∀ x, x ∈ L.take p → ∃ q, q < p ∧ x = plA L q := by
    intro x hx
    obtain ⟨j, hj⟩ := List.getElem?_of_mem hx
    have hjl := (List.getElem?_eq_some_iff.mp hj).1
    rw [List.length_take] at hjl
    rw [List.getElem?_take, if_pos (by omega)] at hj
    exact ⟨j, by omega, by unfold plA; rw [List.getD_eq_getElem?_getD, hj]; rfl⟩
  refine ⟨?_, ?_⟩
  · unfold insA
    refine List.perm_middle.trans ?_
    rw [List.take_append_drop, List.range_succ]
    exact (List.Perm.cons i h.1).trans (List.perm_append_singleton i _).symm
  · unfold insA
    refine List.pairwise_append.mpr ⟨p1, List.pairwise_cons.mpr ⟨fun x hx => ?_, p2⟩, fun x hx y hy => ?_⟩
    · obtain ⟨q, h1, h2, rfl⟩ := memd x hx
      exact Or.inl (hhi q h1 h2)
    · rcases List.mem_cons.mp hy with rfl | hy
      · obtain ⟨q, h1, rfl⟩ := memt x hx
        have hp0 : ¬ p = 0 := by omega
        have hb := hlo.resolve_left hp0
        have hlast : leO dn k (plA L (p - 1)) y := by
          have hlt := h.at (q := p - 1) (by omega)
          rcases gbf_tot hb with h2 | h2
          · exact Or.inl h2
          · exact Or.inr ⟨h2.symm, by omega⟩
        rcases Nat.lt_or_ge q (p - 1) with h3 | h3
        · refine leO_tr ?_ hlast
          have hq1 : q < L.length := by omega
          have hq2 : p - 1 < L.length := by omega
          have := List.pairwise_iff_getElem.mp h.2 q (p - 1) hq1 hq2 h3
          unfold plA
          rw [List.getD_eq_getElem?_getD, List.getD_eq_getElem?_getD, List.getElem?_eq_getElem hq1, List.getElem?_eq_getElem hq2]
          exact this
        · rw [show q = p - 1 by omega]; exact hlast
      · exact p3 x hx y hy
theorem Ord.ex (dn : Int32) (k : Nat → Int32) : ∀ n, ∃ L, Ord dn k n L
  | 0 => ⟨[], Ord.zero⟩
  | n + 1 => by
    obtain ⟨L, h⟩ := Ord.ex dn k n
    have key : ∀ m, m ≤ n → (∀ q, m ≤ q → q < n → gbf dn (k n) (k (plA L q)) = true) → ∃ p, p ≤ n ∧ (∀ q, p ≤ q → q < n → gbf dn (k n) (k (plA L q)) = true) ∧ (p = 0 ∨ gbf dn (k n) (k (plA L (p - 1))) = false) := by
      intro m
      induction m with
      | zero => intro _ hq; exact ⟨0, Nat.zero_le _, hq, Or.inl rfl⟩
      | succ m ih =>
        intro hm hq
        cases hg : gbf dn (k n) (k (plA L m)) with
        | false => exact ⟨m + 1, hm, hq, Or.inr hg⟩
        | true => exact ih (by omega) (fun q h1 h2 => by
            by_cases h3 : q = m
            · rw [h3]; exact hg
            · exact hq q (by omega) h2)
    obtain ⟨p, h1, h2, h3⟩ := key n (Nat.le_refl _) (fun q h1 h2 => by omega)
    exact ⟨_, h.ins h1 h2 h3⟩
noncomputable def ordI (dn : Int32) (k : Nat → Int32) (n : Nat) : List Nat := Classical.choose (Ord.ex dn k n)
theorem ordI_ok (dn : Int32) (k : Nat → Int32) (n : Nat) : Ord dn k n (ordI dn k n) := Classical.choose_spec (Ord.ex dn k n)
noncomputable def orderL (dn : Int32) (kk : Row → Int32) (A : List Row) : List Row := (ordI dn (fun z => kk (rowAt A z)) A.length).map (rowAt A)
theorem idx_s {L : List Nat} {i : Nat} (h : i < L.length) : L.take (i + 1) = L.take i ++ [plA L i] := by
  rw [List.take_succ_eq_append_getElem h, plA, List.getD_eq_getElem?_getD, List.getElem?_eq_getElem h]
  rfl
/-! aggregates -/
/-- errors, how many, the sum, the least, the greatest over the first k places that are alike -/
def agS : Type := Nat × Nat × Int64 × Int32 × Int32
def agN (x : Int32) (s : Nat × Nat × Int64 × Int32 × Int32) : Nat × Nat × Int64 × Int32 × Int32 := if x = oE then (s.1 + 1, s.2) else (s.1, s.2.1 + 1, s.2.2.1 + x.toInt64, (if x < s.2.2.2.1 then x else s.2.2.2.1), (if s.2.2.2.2 < x then x else s.2.2.2.2))
def agF (P : Nat → Bool) (kk : Nat → Int32) : Nat → Nat × Nat × Int64 × Int32 × Int32
  | 0 => (0, 0, 0, 1000000000, -1000000000)
  | k + 1 => if P k = true then agN (kk k) (agF P kk k) else agF P kk k
def agR (w : Int32) (s : Nat × Nat × Int64 × Int32 × Int32) : Int32 := if w = 0 then nI s.2.1 else if 0 < s.1 then oE else if w = nI 1 then vOE s.2.2.1 else if s.2.1 = 0 then oE else if w = nI 2 then s.2.2.2.1 else s.2.2.2.2
theorem agF_le {P : Nat → Bool} {kk : Nat → Int32} : ∀ n, (agF P kk n).1 + (agF P kk n).2.1 ≤ n
  | 0 => Nat.le_refl _
  | n + 1 => by
    have := agF_le (P := P) (kk := kk) n
    simp only [agF]
    split
    · unfold agN; split <;> simp only <;> omega
    · omega
theorem agF_c {P P' : Nat → Bool} {kk kk' : Nat → Int32} : ∀ {n : Nat}, (∀ z, z < n → P z = P' z) → (∀ z, z < n → kk z = kk' z) → agF P kk n = agF P' kk' n
  | 0, _, _ => rfl
  | n + 1, h, h2 => by
    simp only [agF]
    rw [agF_c (fun z hz => h z (by omega)) (fun z hz => h2 z (by omega)), h n (by omega), h2 n (by omega)]
theorem order_fin {dn : Int32} {kk : Row → Int32} {A : List Row} {L : List Nat} {i n i2 : Nat} (hn : n = A.length) (hi : i = n) (h : Ord dn (fun z => kk (rowAt A z)) i L) (h2 : n ≤ i2) : (L.take i2).map (rowAt A) = orderL dn kk A := by
  subst hi
  subst hn
  unfold orderL
  rw [(ordI_ok dn (fun z => kk (rowAt A z)) A.length).uniq h, List.take_of_length_le (by rw [h.len]; exact h2)]
/-! groups -/
def gset (v : Nat) (w : Int32) (y : Row) : Row := fun u => if u = v then w else y u
def grp0 (st : Int32) (A : List Row) : List Row := if A.length = 0 ∧ st = 0 then [opn] else distL st A
def aggV (st ag : Int32) (kk : Row → Int32) (A : List Row) (y : Row) : Int32 := agR ag (agF (fun z => lik st y (rowAt A z)) (fun z => kk (rowAt A z)) A.length)
def groupL (st ag : Int32) (v : Nat) (kk : Row → Int32) (A : List Row) : List Row := (grp0 st A).map (fun y => gset v (aggV st ag kk A y) y)
theorem grp0_len {st : Int32} {A : List Row} (h : A.length ≤ 80) : (grp0 st A).length ≤ 80 := by
  unfold grp0
  split
  · decide
  · exact Nat.le_trans dist_len h
theorem grp0_n {st : Int32} {A : List Row} (h : ¬ (A.length = 0 ∧ st = 0)) : grp0 st A = distL st A := if_neg h
theorem grp0_y {st : Int32} {A : List Row} (h : A.length = 0 ∧ st = 0) : grp0 st A = distL st A ++ [opn] := by
  unfold grp0
  rw [if_pos h, List.length_eq_zero_iff.mp h.1]
  rfl
def Grp (v : Nat) (ag : Row → Int32) (G : List Row) (k m : Nat) (tl : Int32) (f : Nat → Int32) : Prop := m = G.length ∧ m ≤ 80 ∧ tl = bI (decide (80 < G.length)) ∧ (∀ i, k ≤ i → i < m → eq6 (rwf f i) (rowAt G i)) ∧ ∀ i, i < k → eq6 (rwf f i) (gset v (ag (rowAt G i)) (rowAt G i))
theorem Grp.init {v : Nat} {ag : Row → Int32} {G : List Row} {m : Nat} {tl : Int32} {f : Nat → Int32} (h : Rep G m tl f) (hG : G.length ≤ 80) : Grp v ag G 0 m tl f := ⟨by have := h.1; omega, h.le, h.2.1, fun i _ hi => h.2.2 i hi, fun i hi => absurd hi (Nat.not_lt_zero _)⟩
theorem Grp.le {v : Nat} {ag : Row → Int32} {G : List Row} {k m : Nat} {tl : Int32} {f : Nat → Int32} (h : Grp v ag G k m tl f) : m ≤ 80 := h.2.1
theorem Grp.next {v : Nat} {ag : Row → Int32} {G : List Row} {k m : Nat} {tl x : Int32} {f : Nat → Int32} (h : Grp v ag G k m tl f) (hv : v < 6) (hk : k < m) (hx : x = ag (rowAt G k)) : Grp v ag G (k + 1) m tl (upd f (k * 6 + v) x) := by
  refine ⟨h.1, h.2.1, h.2.2.1, fun i h1 h2 u hu => ?_, fun i hi u hu => ?_⟩
  · rw [← h.2.2.2.1 i (by omega) h2 u hu]
    simp only [rwf, upd]
    rw [if_neg (by omega)]
  · by_cases hik : i = k
    · subst hik
      simp only [rwf, upd, gset]
      by_cases huv : u = v
      · subst huv; rw [if_pos rfl, if_pos rfl]; exact hx
      · rw [if_neg (by omega), if_neg huv]; exact h.2.2.2.1 i (Nat.le_refl _) hk u hu
    · rw [← h.2.2.2.2 i (by omega) u hu]
      simp only [rwf, upd]
      rw [if_neg (by omega)]
theorem rowAt_map {G : List Row} {F : Row → Row} {i : Nat} (h : i < G.length) : rowAt (G.map F) i = F (rowAt G i) := by
  simp only [rowAt, List.getD_eq_getElem?_getD, List.getElem?_map, List.getElem?_eq_getElem h]
  rfl
theorem Grp.fin {v : Nat} {ag : Row → Int32} {G : List Row} {k m : Nat} {tl : Int32} {f : Nat → Int32} (h : Grp v ag G k m tl f) (hk : m ≤ k) : Rep (G.map (fun y => gset v (ag y) y)) m tl f := by
  have h1 := h.1
  have h2 := h.2.1
  refine ⟨by rw [List.length_map]; omega, by rw [List.length_map]; exact h.2.2.1, fun i hi => ?_⟩
  rw [rowAt_map (by omega)]
  exact h.2.2.2.2 i (by omega)
def trIn (T : List Tr) (t : Tr) : Bool := decide (t ∈ T)
theorem trAt_mem {T : List Tr} {i : Nat} (h : i < T.length) : trAt T i ∈ T := by
  simp only [trAt, List.getD_eq_getElem?_getD, List.getElem?_eq_getElem h]
  exact List.getElem_mem h
theorem trIn_y {T : List Tr} {t : Tr} {i : Nat} (h : i < T.length) (he : trAt T i = t) : trIn T t = true := decide_eq_true (he ▸ trAt_mem h)
theorem trIn_n {T : List Tr} {t : Tr} (h : ∀ z, z < T.length → ¬ trAt T z = t) : trIn T t = false := decide_eq_false (fun hm => by
  obtain ⟨i, hi⟩ := List.getElem?_of_mem hm
  have hl := (List.getElem?_eq_some_iff.mp hi).1
  exact h i hl (by simp only [trAt, List.getD_eq_getElem?_getD, hi]; rfl))
theorem gv_none {V : gv_V} {a q : Nat} {x : va_E} (h : gv_up V a x q = none) : q ≠ a ∧ V q = none := by
  by_cases hq : q = a
  · subst hq; rw [gv_up_s] at h; cases h
  · rw [gv_up_n hq] at h; exact ⟨hq, h⟩
def gbl (q : Nat) (gr w : Int32) : Int32 := if w = 0 then 0 else if q = 12 then nI 1 <<< (gr &&& 31) else if q = 13 then nI 14 else w
