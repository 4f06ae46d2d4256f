/-! the least of what is left, again and again -/
def SelP (dn : Int32) (k : Nat → Int32) (n : Nat) (P Q : List Nat) : Prop := (P ++ Q).Perm (List.range n) ∧ P.Pairwise (leO dn k) ∧ ∀ x, x ∈ P → ∀ z, z ∈ Q → leO dn k x z
def Sel (dn : Int32) (k : Nat → Int32) (Q : List Nat) (i : Nat) (bb : Int32) : Prop := (bb = -1 ∧ ∀ z, z < i → ¬ z ∈ Q) ∨ ∃ b, b < i ∧ bb = nI b ∧ b ∈ Q ∧ ∀ z, z < i → z ∈ Q → leO dn k b z
theorem leO_rf {dn : Int32} {k : Nat → Int32} {a : Nat} : leO dn k a a := Or.inr ⟨rfl, Nat.le_refl _⟩
theorem Sel.some {dn : Int32} {k : Nat → Int32} {Q : List Nat} {i : Nat} {bb : Int32} (h : Sel dn k Q i bb) (hb : ¬ bb < 0) : ∃ b, b < i ∧ bb = nI b ∧ b ∈ Q ∧ ∀ z, z < i → z ∈ Q → leO dn k b z := by
  rcases h with ⟨h1, h2⟩ | h
  · rw [h1] at hb; exact absurd (by decide) hb
  · exact h
theorem Sel.skip {dn : Int32} {k : Nat → Int32} {Q : List Nat} {i : Nat} {bb : Int32} (h : Sel dn k Q i bb) (hi : ¬ i ∈ Q) : Sel dn k Q (i + 1) bb := by
  have key : ∀ z, z < i + 1 → z ∈ Q → z < i := fun z hz hq => by
    by_cases e : z = i
    · subst e; exact absurd hq hi
    · omega
  rcases h with ⟨h1, h2⟩ | ⟨b, h1, h2, h3, h4⟩
  · exact Or.inl ⟨h1, fun z hz hq => h2 z (key z hz hq) hq⟩
  · exact Or.inr ⟨b, by omega, h2, h3, fun z hz hq => h4 z (key z hz hq) hq⟩
theorem Sel.no {dn : Int32} {k : Nat → Int32} {Q : List Nat} {i b : Nat} {bb : Int32} (h1 : b < i) (h2 : bb = nI b) (h3 : b ∈ Q) (h4 : ∀ z, z < i → z ∈ Q → leO dn k b z) (hg : gbf dn (k i) (k b) = false) : Sel dn k Q (i + 1) bb := by
  refine Or.inr ⟨b, by omega, h2, h3, fun z hz hq => ?_⟩
  by_cases e : z = i
  · subst e
    rcases gbf_tot hg with h | h
    · exact Or.inl h
    · exact Or.inr ⟨h.symm, by omega⟩
  · exact h4 z (by omega) hq
theorem Sel.first {dn : Int32} {k : Nat → Int32} {Q : List Nat} {i : Nat} {bb : Int32} (h : Sel dn k Q i bb) (hb : bb < 0) (hi : i ∈ Q) (h31 : i < 2 ^ 31) : Sel dn k Q (i + 1) (nI i) := by
  rcases h with ⟨h1, h2⟩ | ⟨b, h1, h2, h3, h4⟩
  · refine Or.inr ⟨i, by omega, rfl, hi, fun z hz hq => ?_⟩
    by_cases e : z = i
    · subst e; exact leO_rf
    · exact absurd hq (h2 z (by omega))
  · rw [h2] at hb; exact absurd hb (nI_pos (by omega))
theorem Sel.better {dn : Int32} {k : Nat → Int32} {Q : List Nat} {i b : Nat} (h4 : ∀ z, z < i → z ∈ Q → leO dn k b z) (hi : i ∈ Q) (hg : gbf dn (k i) (k b) = true) : Sel dn k Q (i + 1) (nI i) := by
  refine Or.inr ⟨i, by omega, rfl, hi, fun z hz hq => ?_⟩
  by_cases e : z = i
  · subst e; exact leO_rf
  · exact leO_tr (Or.inl hg) (h4 z (by omega) hq)
theorem SelP.lt {dn : Int32} {k : Nat → Int32} {n : Nat} {P Q : List Nat} (h : SelP dn k n P Q) {z : Nat} (hz : z ∈ Q) : z < n := List.mem_range.mp (h.1.mem_iff.mp (List.mem_append.mpr (Or.inr hz)))
theorem SelP.pick {dn : Int32} {k : Nat → Int32} {n : Nat} {P Q : List Nat} {bb : Int32} (h : SelP dn k n P Q) (hs : Sel dn k Q n bb) (hl : P.length < n) : ∃ b, b < n ∧ bb = nI b ∧ b ∈ Q ∧ SelP dn k n (P ++ [b]) (Q.erase b) := by
  rcases hs with ⟨h1, h2⟩ | ⟨b, hb, e, hq, hm⟩
  · exfalso
    have hQ : Q = [] := List.eq_nil_iff_forall_not_mem.mpr (fun z hz => h2 z (h.lt hz) hz)
    have := h.1.length_eq
    rw [hQ, List.append_nil, List.length_range] at this
    omega
  · refine ⟨b, hb, e, hq, ?_, ?_, ?_⟩
    · rw [List.append_assoc]
      exact (List.Perm.append_left P (List.perm_cons_erase hq)).symm.trans h.1
    · refine List.pairwise_append.mpr ⟨h.2.1, List.pairwise_singleton _ _, fun x hx y hy => ?_⟩
      rw [List.mem_singleton.mp hy]
      exact h.2.2 x hx b hq
    · intro x hx z hz
      have hzQ := List.mem_of_mem_erase hz
      rcases List.mem_append.mp hx with hx | hx
      · exact h.2.2 x hx z hzQ
      · rw [List.mem_singleton.mp hx]; exact hm z (h.lt hzQ) hzQ
theorem SelP.nd {dn : Int32} {k : Nat → Int32} {n : Nat} {P Q : List Nat} (h : SelP dn k n P Q) : Q.Nodup := (List.nodup_append.mp (h.1.nodup_iff.mpr List.nodup_range)).2.1
theorem SelP.fl {dn : Int32} {k : Nat → Int32} {n b : Nat} {P Q : List Nat} {fp : Nat → Int32} (h : SelP dn k n P Q) (hf : ∀ z, z < n → fp z = if z ∈ Q then 0 else 1) : ∀ z, z < n → upd fp b (nI 1) z = if z ∈ Q.erase b then 0 else 1 := fun z hz => by
  simp only [upd]
  by_cases e : z = b
  · subst e
    rw [if_pos rfl, if_neg (fun hm => (h.nd.mem_erase_iff.mp hm).1 rfl)]; rfl
  · rw [if_neg e, hf z hz]
    by_cases hq : z ∈ Q
    · rw [if_pos hq, if_pos (h.nd.mem_erase_iff.mpr ⟨e, hq⟩)]
    · rw [if_neg hq, if_neg (fun hm => hq (List.mem_of_mem_erase hm))]
theorem SelP.fin {dn : Int32} {kk : Row → Int32} {A : List Row} {n : Nat} {P Q : List Nat} (h : SelP dn (fun z => kk (rowAt A z)) n P Q) (hn : n = A.length) (hl : n ≤ P.length) : P.map (rowAt A) = orderL dn kk A := by
  have h1 := h.1.length_eq
  rw [List.length_append, List.length_range] at h1
  have hQ : Q = [] := List.length_eq_zero_iff.mp (by omega)
  have hO : Ord dn (fun z => kk (rowAt A z)) n P := ⟨by have h2 := h.1; rw [hQ, List.append_nil] at h2; exact h2, h.2.1⟩
  have h3 := order_fin hn rfl hO (Nat.le_refl n)
  rw [List.take_of_length_le (by omega)] at h3
  exact h3
theorem SelP.init {dn : Int32} {k : Nat → Int32} {n : Nat} : SelP dn k n [] (List.range n) := ⟨List.Perm.refl _, List.Pairwise.nil, fun x hx => absurd hx (List.not_mem_nil)⟩
theorem agR_m {w es ct : Nat} {sm : Int64} {ls ms : Int32} (hw : w < 4) : agR (nI w) (es, ct, sm, ls, ms) = if w = 0 then nI ct else if 0 < es ∨ (1 < w ∧ ct = 0) then oE else if w = 1 then vOE sm else if w = 2 then ls else ms := by
  unfold agR
  rcases (show w = 0 ∨ w = 1 ∨ w = 2 ∨ w = 3 by omega) with rfl | rfl | rfl | rfl
  · rfl
  · rw [if_neg (by decide)]
    by_cases h : 0 < es
    · rw [if_pos h, if_neg (by decide), if_pos (Or.inl h)]
    · rw [if_neg h, if_pos rfl, if_neg (by decide), if_neg (by omega), if_pos rfl]
  · rw [if_neg (by decide)]
    by_cases h : 0 < es
    · rw [if_pos h, if_neg (by decide), if_pos (Or.inl h)]
    · rw [if_neg h, if_neg (by decide), if_neg (show ¬ 2 = 0 by decide)]
      by_cases h2 : ct = 0
      · rw [if_pos h2, if_pos (Or.inr ⟨by decide, h2⟩)]
      · rw [if_neg h2, if_pos rfl, if_neg (show ¬ (0 < es ∨ 1 < 2 ∧ ct = 0) from fun q => q.elim h (fun q => h2 q.2)), if_neg (by decide), if_pos rfl]
  · rw [if_neg (by decide)]
    by_cases h : 0 < es
    · rw [if_pos h, if_neg (by decide), if_pos (Or.inl h)]
    · rw [if_neg h, if_neg (by decide), if_neg (show ¬ 3 = 0 by decide)]
      by_cases h2 : ct = 0
      · rw [if_pos h2, if_pos (Or.inr ⟨by decide, h2⟩)]
      · rw [if_neg h2, if_neg (show ¬ nI 3 = nI 2 by decide), if_neg (show ¬ (0 < es ∨ 1 < 3 ∧ ct = 0) from fun q => q.elim h (fun q => h2 q.2)), if_neg (by decide), if_neg (by decide)]
theorem al_ff {P : Nat → Bool} {i j : Nat} (h : al P j = false) (hj : j ≤ i) : al P i = false := by
  cases h2 : al P i with
  | false => rfl
  | true => rw [al_iff.mpr (fun z hz => al_iff.mp h2 z (by omega))] at h; cases h
theorem inS_0 {v : Nat} (hv : v < 32) : inS 0 (nI v) = false := by rw [inS_bt 0 hv, b_0]
def grM (st : Int32) (F : Row → Row) (A : List Row) (i : Nat) : List Row := if A.length = 0 ∧ st = 0 then (if i = 0 then [] else [F opn]) else (distL st (A.take i)).map F
theorem grM_n {st : Int32} {F : Row → Row} {A : List Row} {i : Nat} (h : i < A.length) : grM st F A (i + 1) = grM st F A i ++ if newR st A i = true then [F (prj st (rowAt A i))] else [] := by
  unfold grM
  rw [if_neg (by omega), if_neg (by omega), dist_n h, List.map_append]
  congr 1
  split <;> rfl
theorem grM_z {st : Int32} {F : Row → Row} {A : List Row} (h : A.length = 0) (hs : st = 0) : grM st F A (0 + 1) = grM st F A 0 ++ [F opn] := by
  unfold grM
  simp [h, hs]
theorem grM_0 {st : Int32} {F : Row → Row} {A : List Row} : grM st F A 0 = [] := by
  unfold grM
  split
  · rfl
  · rfl
theorem grM_fin {st ag : Int32} {v : Nat} {kk : Row → Int32} {A : List Row} {i : Nat} (h : (A.length = 0 ∧ st = 0 ∧ i = 1) ∨ (A.length ≤ i ∧ (¬ i = 0 ∨ ¬ st = 0))) : grM st (fun y => gset v (aggV st ag kk A y) y) A i = groupL st ag v kk A := by
  unfold grM groupL grp0
  by_cases h0 : A.length = 0 ∧ st = 0
  · rw [if_pos h0, if_pos h0]
    have : ¬ i = 0 := by
      rcases h with ⟨_, _, h⟩ | ⟨_, h | h⟩
      · omega
      · exact h
      · exact absurd h0.2 h
    rw [if_neg this]
    rfl
  · rw [if_neg h0, if_neg h0]
    rcases h with ⟨h1, h2, _⟩ | ⟨h, _⟩
    · exact absurd ⟨h1, h2⟩ h0
    · rw [List.take_of_length_le h]
theorem agg_m {st ag : Int32} {kk : Row → Int32} {A : List Row} {i : Nat} {y : Row} (hy : ∀ z, z < A.length → lik st y (rowAt A z) = lik st (rowAt A z) (rowAt A i)) : agR ag (agF (fun z => lik st (rowAt A z) (rowAt A i)) (fun z => kk (rowAt A z)) A.length) = aggV st ag kk A y := by
  unfold aggV
  rw [agF_c (P := fun z => lik st y (rowAt A z)) (P' := fun z => lik st (rowAt A z) (rowAt A i)) (fun z hz => hy z hz) (fun _ _ => rfl)]
theorem gset_w {w r : Row} {v : Nat} {x y : Int32} (h : eq6 w r) (hx : x = y) : eq6 (upd w v x) (gset v y r) := fun z hz => by
  simp only [upd, gset]
  by_cases hz2 : z = v
  · rw [if_pos hz2, if_pos hz2, hx]
  · rw [if_neg hz2, if_neg hz2]; exact h z hz
set_option maxHeartbeats 4000000 in
set_option maxRecDepth 100000 in
theorem c_X7_reckonOrder {zl : Launch} {D : va_G} {cI cN cR : ClassId} {base : Nat} {V : gv_V} {m wt wa wv wm wr wc wn ws wk wp nt ne nn sh : Nat} {kn : Int32} {fa fv fr fc fw fk fp : Nat → Int32} {to t n : Nat} {A : List Row} {E : Nat → Ex} {e : Nat} {dn : Int32}  (h_m : V m = some (.inr (7, [.int (nI nt), .ref wt, .int (nI ne), .ref wa, .ref wv, .int (nI nn), .ref wm, .int kn, .ref wr, .ref wc, .ref wn, .int (nI sh), .ref ws, .ref wk, .ref wp]))) (h_wr : V wr = some (.inl (cI, 57600, .inl fr))) (h_wc : V wc = some (.inl (cI, 120, .inl fc))) (h_wn : V wn = some (.inl (cI, 6, .inl fw))) (h_wv : V wv = some (.inl (cI, 30, .inl fv))) (h_wk : V wk = some (.inl (cI, 80, .inl fk))) (h_wp : V wp = some (.inl (cI, 80, .inl fp))) (h_wa : V wa = some (.inl (cI, 90, .inl fa))) (hto : to < 120) (hA : Tab A n (tbl fr t)) (hcA : fc t = nI n) (hta : ¬ t = to) (ht : t < 120) (hM : MA E ne fa) (he : e < ne) (hwkp : nq wk wp) (hc0 : fc to = 0) : ct zl D [(cI, .int), (cN, .object "AlgebraTree$Node"), (cR, .object "AlgebraTree$Rows")] base yX7_reckonOrder cX7_reckonOrder 9 none 3 0 0 [.ref m, .int (nI to), .int (nI t), .int (nI e), .int dn] V (fun zv zV => ∃ fr1 : Nat → Int32, ∃ fc1 : Nat → Int32, ∃ fw1 : Nat → Int32, ∃ fv1 : Nat → Int32, ∃ fk1 : Nat → Int32, ∃ fp1 : Nat → Int32, zv = none ∧ zV = gv_up (gv_up (gv_up (gv_up (gv_up (gv_up V wr (.inl (cI, 57600, .inl fr1))) wc (.inl (cI, 120, .inl fc1))) wn (.inl (cI, 6, .inl fw1))) wv (.inl (cI, 30, .inl fv1))) wk (.inl (cI, 80, .inl fk1))) wp (.inl (cI, 80, .inl fp1)) ∧ (MRep (orderL dn (fun x => ev E x e) A) (fc1 to) (tbl fr1 to)) ∧ (Kp to fc fr fc1 fr1)) := by
  refine ct_of "AlgebraTreeModel" rfl (by decide) (Nat.le_of_ble_eq_true rfl) ?_
  intro zp ze zs zm zargs zbelow zmeth zc C zr zlk znm
  refine k_pc (pc' := 0) (st' := []) rfl rfl ?_
  show K zp zl ze (gv_rm 3 0 0) zs zm zargs zbelow zmeth zc D base 9 (gv_E D [(cI, .int), (cN, .object "AlgebraTree$Node"), (cR, .object "AlgebraTree$Rows")] base zbelow zargs zs 0 0 (fun zv zV => ∃ fr1 : Nat → Int32, ∃ fc1 : Nat → Int32, ∃ fw1 : Nat → Int32, ∃ fv1 : Nat → Int32, ∃ fk1 : Nat → Int32, ∃ fp1 : Nat → Int32, zv = none ∧ zV = gv_up (gv_up (gv_up (gv_up (gv_up (gv_up V wr (.inl (cI, 57600, .inl fr1))) wc (.inl (cI, 120, .inl fc1))) wn (.inl (cI, 6, .inl fw1))) wv (.inl (cI, 30, .inl fv1))) wk (.inl (cI, 80, .inl fk1))) wp (.inl (cI, 80, .inl fp1)) ∧ (MRep (orderL dn (fun x => ev E x e) A) (fc1 to) (tbl fr1 to)) ∧ (Kp to fc fr fc1 fr1))) V 0 0 [(0, .ref m), (1, .int (nI to)), (2, .int (nI t)), (3, .int (nI e)), (4, .int dn)] 0 []
  have hA2 := hA.2.1
  have hA3 := hA.1
  have hne30 := hM.1
  refine k_iconst (v := nI 0) C dX7_reckonOrder_0 rfl ?_
  refine k_istore (lv' := [(5, .int (nI 0)), (0, .ref m), (1, .int (nI to)), (2, .int (nI t)), (3, .int (nI e)), (4, .int dn)]) C dX7_reckonOrder_1 (by decide) rfl ?_
  have L3 : ∀ (zn1 : Nat) (i : Nat) (fw1 : Nat → Int32) (fv1 : Nat → Int32) (fk1 : Nat → Int32) (fp1 : Nat → Int32), n - i < zn1 → (i ≤ n) → (∀ z, z < i → fk1 z = ev E (rowAt A z) e) → (∀ z, z < i → fp1 z = 0) → K zp zl ze (gv_rm 3 0 0) zs zm zargs zbelow zmeth zc D base 9 (gv_E D [(cI, .int), (cN, .object "AlgebraTree$Node"), (cR, .object "AlgebraTree$Rows")] base zbelow zargs zs 0 0 (fun zv zV => ∃ fr1 : Nat → Int32, ∃ fc1 : Nat → Int32, ∃ fw1 : Nat → Int32, ∃ fv1 : Nat → Int32, ∃ fk1 : Nat → Int32, ∃ fp1 : Nat → Int32, zv = none ∧ zV = gv_up (gv_up (gv_up (gv_up (gv_up (gv_up V wr (.inl (cI, 57600, .inl fr1))) wc (.inl (cI, 120, .inl fc1))) wn (.inl (cI, 6, .inl fw1))) wv (.inl (cI, 30, .inl fv1))) wk (.inl (cI, 80, .inl fk1))) wp (.inl (cI, 80, .inl fp1)) ∧ (MRep (orderL dn (fun x => ev E x e) A) (fc1 to) (tbl fr1 to)) ∧ (Kp to fc fr fc1 fr1))) (gv_up (gv_up (gv_up (gv_up V wn (.inl (cI, 6, .inl fw1))) wv (.inl (cI, 30, .inl fv1))) wk (.inl (cI, 80, .inl fk1))) wp (.inl (cI, 80, .inl fp1))) 0 0 [(5, .int (nI i)), (0, .ref m), (1, .int (nI to)), (2, .int (nI t)), (3, .int (nI e)), (4, .int dn)] 3 [] := by
    intro zn1
    induction zn1 with
    | zero => intro i fw1 fv1 fk1 fp1 hlt; exact absurd hlt (Nat.not_lt_zero _)
    | succ zn1 ih3 =>
      intro i fw1 fv1 fk1 fp1 hlt3  hi hkk hpp
      refine k_iload C dX7_reckonOrder_3 0 rfl ?_
      refine k_aload_n C dX7_reckonOrder_5 rfl 1 rfl ?_
      have ne2 : nq m wn := gv_ne h_wn h_m (by simp)
      have ne3 : nq m wv := gv_ne h_wv h_m (by simp)
      have ne4 : nq m wk := gv_ne h_wk h_m (by simp)
      have ne5 : nq m wp := gv_ne h_wp h_m (by simp)
      refine k_get (ci := 7) (k := 9) C fl_7_26 ((gv_up_n ne5).trans ((gv_up_n ne4).trans ((gv_up_n ne3).trans ((gv_up_n ne2).trans h_m)))) rfl dX7_reckonOrder_6 ?_
      refine k_iload_n C dX7_reckonOrder_9 rfl 3 rfl ?_
      have ne6 : nq wc wn := gv_ne h_wn h_wc (by simp)
      have ne7 : nq wc wv := gv_ne h_wv h_wc (by simp)
      have ne8 : nq wc wk := gv_ne h_wk h_wc (by simp)
      have ne9 : nq wc wp := gv_ne h_wp h_wc (by simp)
      refine k_iald (v := fc t) C 0 ((gv_up_n ne9).trans ((gv_up_n ne8).trans ((gv_up_n ne7).trans ((gv_up_n ne6).trans h_wc)))) rfl (vp_in_nI (by omega) (by omega)) (by rw [nI_clamp (by omega)]) dX7_reckonOrder_10 ?_
      refine k_val (y := nI n) hcA ?_
      refine k_icmp_ge (tgt := 47) C dX7_reckonOrder_11 (by decide) (fun c11 => ?_) (fun c11 => ?_)
      · skip
        have b11 : n ≤ i := (nI_leI (a := n) (b := i) (by omega) (by omega)).mp c11
        refine k_iconst (v := nI 0) C dX7_reckonOrder_47 rfl ?_
        refine k_istore (lv' := [(5, .int (nI 0)), (0, .ref m), (1, .int (nI to)), (2, .int (nI t)), (3, .int (nI e)), (4, .int dn)]) C dX7_reckonOrder_48 (by decide) rfl ?_
        have L50 : ∀ (zn10 : Nat) (j : Nat) (P : List Nat) (Q : List Nat) (fr1 : Nat → Int32) (fc1 : Nat → Int32) (fw2 : Nat → Int32) (fp2 : Nat → Int32), n - j < zn10 → (j ≤ n) → (P.length = j) → (SelP dn (fun z => ev E (rowAt A z) e) n P Q) → (∀ z, z < n → fp2 z = if z ∈ Q then 0 else 1) → (MRep (P.map (rowAt A)) (fc1 to) (tbl fr1 to)) → (Kp to fc fr fc1 fr1) → K zp zl ze (gv_rm 3 0 0) zs zm zargs zbelow zmeth zc D base 9 (gv_E D [(cI, .int), (cN, .object "AlgebraTree$Node"), (cR, .object "AlgebraTree$Rows")] base zbelow zargs zs 0 0 (fun zv zV => ∃ fr1 : Nat → Int32, ∃ fc1 : Nat → Int32, ∃ fw1 : Nat → Int32, ∃ fv1 : Nat → Int32, ∃ fk1 : Nat → Int32, ∃ fp1 : Nat → Int32, zv = none ∧ zV = gv_up (gv_up (gv_up (gv_up (gv_up (gv_up V wr (.inl (cI, 57600, .inl fr1))) wc (.inl (cI, 120, .inl fc1))) wn (.inl (cI, 6, .inl fw1))) wv (.inl (cI, 30, .inl fv1))) wk (.inl (cI, 80, .inl fk1))) wp (.inl (cI, 80, .inl fp1)) ∧ (MRep (orderL dn (fun x => ev E x e) A) (fc1 to) (tbl fr1 to)) ∧ (Kp to fc fr fc1 fr1))) (gv_up (gv_up (gv_up (gv_up (gv_up (gv_up V wn (.inl (cI, 6, .inl fw2))) wv (.inl (cI, 30, .inl fv1))) wk (.inl (cI, 80, .inl fk1))) wp (.inl (cI, 80, .inl fp2))) wr (.inl (cI, 57600, .inl fr1))) wc (.inl (cI, 120, .inl fc1))) 0 0 [(5, .int (nI j)), (0, .ref m), (1, .int (nI to)), (2, .int (nI t)), (3, .int (nI e)), (4, .int dn)] 50 [] := by
          intro zn10
          induction zn10 with
          | zero => intro j P Q fr1 fc1 fw2 fp2 hlt; exact absurd hlt (Nat.not_lt_zero _)
          | succ zn10 ih50 =>
            intro j P Q fr1 fc1 fw2 fp2 hlt50  hj hPl hSP hfp hR hK
            have hA1 := hA.kp hK hta
            have hc1 : fc1 t = nI n := (hK t hta).1.trans hcA
            refine k_iload C dX7_reckonOrder_50 0 rfl ?_
            refine k_aload_n C dX7_reckonOrder_52 rfl 1 rfl ?_
            have ne11 : nq m wr := gv_ne h_wr h_m (by simp)
            have ne12 : nq m wc := gv_ne h_wc h_m (by simp)
            refine k_get (ci := 7) (k := 9) C fl_7_26 ((gv_up_n ne12).trans ((gv_up_n ne11).trans ((gv_up_n ne5).trans ((gv_up_n ne4).trans ((gv_up_n ne3).trans ((gv_up_n ne2).trans h_m)))))) rfl dX7_reckonOrder_53 ?_
            refine k_iload_n C dX7_reckonOrder_56 rfl 3 rfl ?_
            refine k_iald (v := fc1 t) C 0 gv_up_s rfl (vp_in_nI (by omega) (by omega)) (by rw [nI_clamp (by omega)]) dX7_reckonOrder_57 ?_
            refine k_val (y := nI n) hc1 ?_
            refine k_icmp_ge (tgt := 188) C dX7_reckonOrder_58 (by decide) (fun c58 => ?_) (fun c58 => ?_)
            · skip
              have b58 : n ≤ j := (nI_leI (a := n) (b := j) (by omega) (by omega)).mp c58
              have ne13 : nq wr wp := gv_ne h_wp h_wr (by simp)
              refine k_view (V1 := gv_up (gv_up (gv_up (gv_up (gv_up (gv_up V wn (.inl (cI, 6, .inl fw2))) wv (.inl (cI, 30, .inl fv1))) wk (.inl (cI, 80, .inl fk1))) wr (.inl (cI, 57600, .inl fr1))) wp (.inl (cI, 80, .inl fp2))) wc (.inl (cI, 120, .inl fc1))) (congrArg (fun W => gv_up W wc (.inl (cI, 120, .inl fc1))) (gv_uc ne13)) ?_
              have ne14 : nq wr wk := gv_ne h_wk h_wr (by simp)
              refine k_view (V1 := gv_up (gv_up (gv_up (gv_up (gv_up (gv_up V wn (.inl (cI, 6, .inl fw2))) wv (.inl (cI, 30, .inl fv1))) wr (.inl (cI, 57600, .inl fr1))) wk (.inl (cI, 80, .inl fk1))) wp (.inl (cI, 80, .inl fp2))) wc (.inl (cI, 120, .inl fc1))) (congrArg (fun W => gv_up W wc (.inl (cI, 120, .inl fc1))) (congrArg (fun W => gv_up W wp (.inl (cI, 80, .inl fp2))) (gv_uc ne14))) ?_
              have ne15 : nq wr wv := gv_ne h_wv h_wr (by simp)
              refine k_view (V1 := gv_up (gv_up (gv_up (gv_up (gv_up (gv_up V wn (.inl (cI, 6, .inl fw2))) wr (.inl (cI, 57600, .inl fr1))) wv (.inl (cI, 30, .inl fv1))) wk (.inl (cI, 80, .inl fk1))) wp (.inl (cI, 80, .inl fp2))) wc (.inl (cI, 120, .inl fc1))) (congrArg (fun W => gv_up W wc (.inl (cI, 120, .inl fc1))) (congrArg (fun W => gv_up W wp (.inl (cI, 80, .inl fp2))) (congrArg (fun W => gv_up W wk (.inl (cI, 80, .inl fk1))) (gv_uc ne15)))) ?_
              have ne16 : nq wr wn := gv_ne h_wn h_wr (by simp)
              refine k_view (V1 := gv_up (gv_up (gv_up (gv_up (gv_up (gv_up V wr (.inl (cI, 57600, .inl fr1))) wn (.inl (cI, 6, .inl fw2))) wv (.inl (cI, 30, .inl fv1))) wk (.inl (cI, 80, .inl fk1))) wp (.inl (cI, 80, .inl fp2))) wc (.inl (cI, 120, .inl fc1))) (congrArg (fun W => gv_up W wc (.inl (cI, 120, .inl fc1))) (congrArg (fun W => gv_up W wp (.inl (cI, 80, .inl fp2))) (congrArg (fun W => gv_up W wk (.inl (cI, 80, .inl fk1))) (congrArg (fun W => gv_up W wv (.inl (cI, 30, .inl fv1))) (gv_uc ne16))))) ?_
              refine k_view (V1 := gv_up (gv_up (gv_up (gv_up (gv_up (gv_up V wr (.inl (cI, 57600, .inl fr1))) wn (.inl (cI, 6, .inl fw2))) wv (.inl (cI, 30, .inl fv1))) wk (.inl (cI, 80, .inl fk1))) wc (.inl (cI, 120, .inl fc1))) wp (.inl (cI, 80, .inl fp2))) (gv_uc ne9) ?_
              refine k_view (V1 := gv_up (gv_up (gv_up (gv_up (gv_up (gv_up V wr (.inl (cI, 57600, .inl fr1))) wn (.inl (cI, 6, .inl fw2))) wv (.inl (cI, 30, .inl fv1))) wc (.inl (cI, 120, .inl fc1))) wk (.inl (cI, 80, .inl fk1))) wp (.inl (cI, 80, .inl fp2))) (congrArg (fun W => gv_up W wp (.inl (cI, 80, .inl fp2))) (gv_uc ne8)) ?_
              refine k_view (V1 := gv_up (gv_up (gv_up (gv_up (gv_up (gv_up V wr (.inl (cI, 57600, .inl fr1))) wn (.inl (cI, 6, .inl fw2))) wc (.inl (cI, 120, .inl fc1))) wv (.inl (cI, 30, .inl fv1))) wk (.inl (cI, 80, .inl fk1))) wp (.inl (cI, 80, .inl fp2))) (congrArg (fun W => gv_up W wp (.inl (cI, 80, .inl fp2))) (congrArg (fun W => gv_up W wk (.inl (cI, 80, .inl fk1))) (gv_uc ne7))) ?_
              refine k_view (V1 := gv_up (gv_up (gv_up (gv_up (gv_up (gv_up V wr (.inl (cI, 57600, .inl fr1))) wc (.inl (cI, 120, .inl fc1))) wn (.inl (cI, 6, .inl fw2))) wv (.inl (cI, 30, .inl fv1))) wk (.inl (cI, 80, .inl fk1))) wp (.inl (cI, 80, .inl fp2))) (congrArg (fun W => gv_up W wp (.inl (cI, 80, .inl fp2))) (congrArg (fun W => gv_up W wk (.inl (cI, 80, .inl fk1))) (congrArg (fun W => gv_up W wv (.inl (cI, 30, .inl fv1))) (gv_uc ne6)))) ?_
              exact k_vret C zr zlk ⟨fr1, fc1, fw2, fv1, fk1, fp2, rfl, rfl, (by rw [← SelP.fin (kk := fun x => ev E x e) hSP hA3 (by omega)]; exact hR), hK⟩ (Nat.le_refl _) (Nat.le_refl _) dX7_reckonOrder_188
            · skip
              have b58 : ¬ n ≤ j := fun z => c58 ((nI_leI (a := n) (b := j) (by omega) (by omega)).mpr z)
              refine k_iconst (v := (-1 : Int32)) C dX7_reckonOrder_61 (by decide) ?_
              refine k_istore (lv' := [(6, .int (-1 : Int32)), (5, .int (nI j)), (0, .ref m), (1, .int (nI to)), (2, .int (nI t)), (3, .int (nI e)), (4, .int dn)]) C dX7_reckonOrder_62 (by decide) rfl ?_
              refine k_iconst (v := nI 0) C dX7_reckonOrder_64 rfl ?_
              refine k_istore (lv' := [(7, .int (nI 0)), (6, .int (-1 : Int32)), (5, .int (nI j)), (0, .ref m), (1, .int (nI to)), (2, .int (nI t)), (3, .int (nI e)), (4, .int dn)]) C dX7_reckonOrder_65 (by decide) rfl ?_
              have L67 : ∀ (zn17 : Nat) (q : Nat) (bb : Int32), n - q < zn17 → (q ≤ n) → (Sel dn (fun z => ev E (rowAt A z) e) Q q bb) → K zp zl ze (gv_rm 3 0 0) zs zm zargs zbelow zmeth zc D base 9 (gv_E D [(cI, .int), (cN, .object "AlgebraTree$Node"), (cR, .object "AlgebraTree$Rows")] base zbelow zargs zs 0 0 (fun zv zV => ∃ fr1 : Nat → Int32, ∃ fc1 : Nat → Int32, ∃ fw1 : Nat → Int32, ∃ fv1 : Nat → Int32, ∃ fk1 : Nat → Int32, ∃ fp1 : Nat → Int32, zv = none ∧ zV = gv_up (gv_up (gv_up (gv_up (gv_up (gv_up V wr (.inl (cI, 57600, .inl fr1))) wc (.inl (cI, 120, .inl fc1))) wn (.inl (cI, 6, .inl fw1))) wv (.inl (cI, 30, .inl fv1))) wk (.inl (cI, 80, .inl fk1))) wp (.inl (cI, 80, .inl fp1)) ∧ (MRep (orderL dn (fun x => ev E x e) A) (fc1 to) (tbl fr1 to)) ∧ (Kp to fc fr fc1 fr1))) (gv_up (gv_up (gv_up (gv_up (gv_up (gv_up V wn (.inl (cI, 6, .inl fw2))) wv (.inl (cI, 30, .inl fv1))) wk (.inl (cI, 80, .inl fk1))) wp (.inl (cI, 80, .inl fp2))) wr (.inl (cI, 57600, .inl fr1))) wc (.inl (cI, 120, .inl fc1))) 0 0 [(7, .int (nI q)), (6, .int bb), (5, .int (nI j)), (0, .ref m), (1, .int (nI to)), (2, .int (nI t)), (3, .int (nI e)), (4, .int dn)] 67 [] := by
                intro zn17
                induction zn17 with
                | zero => intro q bb hlt; exact absurd hlt (Nat.not_lt_zero _)
                | succ zn17 ih67 =>
                  intro q bb hlt67  hq hSe
                  refine k_iload C dX7_reckonOrder_67 0 rfl ?_
                  refine k_aload_n C dX7_reckonOrder_69 rfl 3 rfl ?_
                  refine k_get (ci := 7) (k := 9) C fl_7_26 ((gv_up_n ne12).trans ((gv_up_n ne11).trans ((gv_up_n ne5).trans ((gv_up_n ne4).trans ((gv_up_n ne3).trans ((gv_up_n ne2).trans h_m)))))) rfl dX7_reckonOrder_70 ?_
                  refine k_iload_n C dX7_reckonOrder_73 rfl 5 rfl ?_
                  refine k_iald (v := fc1 t) C 0 gv_up_s rfl (vp_in_nI (by omega) (by omega)) (by rw [nI_clamp (by omega)]) dX7_reckonOrder_74 ?_
                  refine k_val (y := nI n) hc1 ?_
                  refine k_icmp_ge (tgt := 162) C dX7_reckonOrder_75 (by decide) (fun c75 => ?_) (fun c75 => ?_)
                  · skip
                    have b75 : n ≤ q := (nI_leI (a := n) (b := q) (by omega) (by omega)).mp c75
                    obtain ⟨b9, hb9, hbb9, hbQ9, hSP9⟩ := hSP.pick (show Sel dn (fun z => ev E (rowAt A z) e) Q n bb by rw [show n = q by omega]; exact hSe) (by omega)
                    refine k_aload_n C dX7_reckonOrder_162 rfl 3 rfl ?_
                    refine k_get (ci := 7) (k := 14) C fl_7_38 ((gv_up_n ne12).trans ((gv_up_n ne11).trans ((gv_up_n ne5).trans ((gv_up_n ne4).trans ((gv_up_n ne3).trans ((gv_up_n ne2).trans h_m)))))) rfl dX7_reckonOrder_163 ?_
                    refine k_iload C dX7_reckonOrder_166 1 rfl ?_
                    refine k_val (y := nI b9) hbb9 ?_
                    refine k_iconst (v := nI 1) C dX7_reckonOrder_168 rfl ?_
                    have ne18 : nq wp wr := gv_ne h_wr h_wp (by simp)
                    refine k_iast (f' := upd fp2 b9 (nI 1)) C 0 ((gv_up_n (Ne.symm ne9)).trans ((gv_up_n ne18).trans gv_up_s)) rfl (vp_in_nI (by omega) (by omega)) (by rw [nI_clamp (by omega)]) dX7_reckonOrder_169 ?_
                    refine k_view (V1 := gv_up (gv_up (gv_up (gv_up (gv_up (gv_up V wn (.inl (cI, 6, .inl fw2))) wv (.inl (cI, 30, .inl fv1))) wk (.inl (cI, 80, .inl fk1))) wp (.inl (cI, 80, .inl (upd fp2 b9 (nI 1))))) wr (.inl (cI, 57600, .inl fr1))) wc (.inl (cI, 120, .inl fc1))) ((gv_uc (Ne.symm ne9)).trans (congrArg (fun W => gv_up W wc (.inl (cI, 120, .inl fc1))) ((gv_uc ne18).trans (congrArg (fun W => gv_up W wr (.inl (cI, 57600, .inl fr1))) gv_uu)))) ?_
                    refine k_aload_n C dX7_reckonOrder_170 rfl 3 rfl ?_
                    refine k_iload_n C dX7_reckonOrder_171 rfl 5 rfl ?_
                    refine k_iload C dX7_reckonOrder_172 1 rfl ?_
                    refine k_val (y := nI b9) hbb9 ?_
                    have ne19 : nq wr wc := gv_ne h_wc h_wr (by simp)
                    have ne20 : nq wn wv := gv_ne h_wv h_wn (by simp)
                    have ne21 : nq wn wk := gv_ne h_wk h_wn (by simp)
                    have ne22 : nq wn wp := gv_ne h_wp h_wn (by simp)
                    have ne23 : nq wn wr := gv_ne h_wr h_wn (by simp)
                    refine k_callV C mv_7_101 (c_X7_take  ((gv_up_n ne12).trans ((gv_up_n ne11).trans ((gv_up_n ne5).trans ((gv_up_n ne4).trans ((gv_up_n ne3).trans ((gv_up_n ne2).trans h_m)))))) ((gv_up_n ne19).trans gv_up_s) ((gv_up_n (Ne.symm ne6)).trans ((gv_up_n ne23).trans ((gv_up_n ne22).trans ((gv_up_n ne21).trans ((gv_up_n ne20).trans gv_up_s))))) (by first | assumption | omega) (by omega)) ((gv_up_n ne12).trans ((gv_up_n ne11).trans ((gv_up_n ne5).trans ((gv_up_n ne4).trans ((gv_up_n ne3).trans ((gv_up_n ne2).trans h_m)))))) rfl rfl (by simp [Value.category]) ⟨Nat.le_of_ble_eq_true rfl, Nat.le_of_ble_eq_true rfl⟩ ⟨(by decide), (by decide)⟩ dX7_reckonOrder_174 (fun zv zV zh => ?_)
                    obtain ⟨fw1_w24, rfl, rfl, hw1_w24⟩ := zh
                    refine k_pc (pc' := 177) (st' := []) rfl rfl ?_
                    refine k_view (V1 := gv_up (gv_up (gv_up (gv_up (gv_up (gv_up V wn (.inl (cI, 6, .inl fw1_w24))) wv (.inl (cI, 30, .inl fv1))) wk (.inl (cI, 80, .inl fk1))) wp (.inl (cI, 80, .inl (upd fp2 b9 (nI 1))))) wr (.inl (cI, 57600, .inl fr1))) wc (.inl (cI, 120, .inl fc1))) ((gv_uc (Ne.symm ne6)).trans (congrArg (fun W => gv_up W wc (.inl (cI, 120, .inl fc1))) ((gv_uc ne23).trans (congrArg (fun W => gv_up W wr (.inl (cI, 57600, .inl fr1))) ((gv_uc ne22).trans (congrArg (fun W => gv_up W wp (.inl (cI, 80, .inl (upd fp2 b9 (nI 1))))) ((gv_uc ne21).trans (congrArg (fun W => gv_up W wk (.inl (cI, 80, .inl fk1))) ((gv_uc ne20).trans (congrArg (fun W => gv_up W wv (.inl (cI, 30, .inl fv1))) gv_uu)))))))))) ?_
                    refine k_aload_n C dX7_reckonOrder_177 rfl 3 rfl ?_
                    refine k_iload_n C dX7_reckonOrder_178 rfl 4 rfl ?_
                    refine k_callV C mv_7_112 (c_X7_add  ((gv_up_n ne12).trans ((gv_up_n ne11).trans ((gv_up_n ne5).trans ((gv_up_n ne4).trans ((gv_up_n ne3).trans ((gv_up_n ne2).trans h_m)))))) ((gv_up_n ne19).trans gv_up_s) gv_up_s ((gv_up_n (Ne.symm ne6)).trans ((gv_up_n ne23).trans ((gv_up_n ne22).trans ((gv_up_n ne21).trans ((gv_up_n ne20).trans gv_up_s))))) (by first | assumption | omega) hR (hw1_w24.tr (hA1.at hb9))) ((gv_up_n ne12).trans ((gv_up_n ne11).trans ((gv_up_n ne5).trans ((gv_up_n ne4).trans ((gv_up_n ne3).trans ((gv_up_n ne2).trans h_m)))))) rfl rfl (by simp [Value.category]) ⟨Nat.le_of_ble_eq_true rfl, Nat.le_of_ble_eq_true rfl⟩ ⟨(by decide), (by decide)⟩ dX7_reckonOrder_179 (fun zv zV zh => ?_)
                    obtain ⟨fc1_w25, fr1_w25, rfl, rfl, hR1_w25, hk1_w25⟩ := zh
                    refine k_pc (pc' := 182) (st' := []) rfl rfl ?_
                    refine k_view (V1 := gv_up (gv_up (gv_up (gv_up (gv_up (gv_up (gv_up V wn (.inl (cI, 6, .inl fw1_w24))) wv (.inl (cI, 30, .inl fv1))) wk (.inl (cI, 80, .inl fk1))) wp (.inl (cI, 80, .inl (upd fp2 b9 (nI 1))))) wr (.inl (cI, 57600, .inl fr1_w25))) wc (.inl (cI, 120, .inl fc1))) wc (.inl (cI, 120, .inl fc1_w25))) (congrArg (fun W => gv_up W wc (.inl (cI, 120, .inl fc1_w25))) ((gv_uc ne19).trans (congrArg (fun W => gv_up W wc (.inl (cI, 120, .inl fc1))) gv_uu))) ?_
                    refine k_view (V1 := gv_up (gv_up (gv_up (gv_up (gv_up (gv_up V wn (.inl (cI, 6, .inl fw1_w24))) wv (.inl (cI, 30, .inl fv1))) wk (.inl (cI, 80, .inl fk1))) wp (.inl (cI, 80, .inl (upd fp2 b9 (nI 1))))) wr (.inl (cI, 57600, .inl fr1_w25))) wc (.inl (cI, 120, .inl fc1_w25))) gv_uu ?_
                    refine k_iinc (v := nI (j + 1)) (lv' := [(5, .int (nI (j + 1))), (7, .int (nI q)), (6, .int bb), (0, .ref m), (1, .int (nI to)), (2, .int (nI t)), (3, .int (nI e)), (4, .int dn)]) C dX7_reckonOrder_182 (k := 2) rfl (nI_add j 1) (by decide) rfl ?_
                    refine k_goto (tgt := 50) C dX7_reckonOrder_185 (by decide) ?_
                    refine k_sub [0, 3, 4, 5, 6, 7] (lv' := [(5, .int (nI (j + 1))), (0, .ref m), (1, .int (nI to)), (2, .int (nI t)), (3, .int (nI e)), (4, .int dn)]) rfl ?_
                    exact ih50 (j + 1) (P ++ [b9]) (Q.erase b9) fr1_w25 fc1_w25 fw1_w24 (upd fp2 b9 (nI 1)) (by omega)  (by omega) (by simp [hPl]) hSP9 (hSP.fl hfp) (by rw [List.map_append]; exact hR1_w25) (hK.tr hk1_w25)
                  · skip
                    have b75 : ¬ n ≤ q := fun z => c75 ((nI_leI (a := n) (b := q) (by omega) (by omega)).mpr z)
                    refine k_iload C dX7_reckonOrder_78 1 rfl ?_
                    refine k_if_lt (tgt := 125) C dX7_reckonOrder_80 (by decide) (fun c80 => ?_) (fun c80 => ?_)
                    · skip
                      refine k_iconst (v := nI 1) C dX7_reckonOrder_125 rfl ?_
                      refine k_goto (tgt := 130) C dX7_reckonOrder_126 (by decide) ?_
                      refine k_istore (lv' := [(8, .int (nI 1)), (7, .int (nI q)), (6, .int bb), (5, .int (nI j)), (0, .ref m), (1, .int (nI to)), (2, .int (nI t)), (3, .int (nI e)), (4, .int dn)]) C dX7_reckonOrder_130 (by decide) rfl ?_
                      refine k_aload_n C dX7_reckonOrder_132 rfl 4 rfl ?_
                      refine k_get (ci := 7) (k := 14) C fl_7_38 ((gv_up_n ne12).trans ((gv_up_n ne11).trans ((gv_up_n ne5).trans ((gv_up_n ne4).trans ((gv_up_n ne3).trans ((gv_up_n ne2).trans h_m)))))) rfl dX7_reckonOrder_133 ?_
                      refine k_iload C dX7_reckonOrder_136 1 rfl ?_
                      have ne26 : nq wp wr := gv_ne h_wr h_wp (by simp)
                      refine k_iald (v := fp2 q) C 0 ((gv_up_n (Ne.symm ne9)).trans ((gv_up_n ne26).trans gv_up_s)) rfl (vp_in_nI (by omega) (by omega)) (by rw [nI_clamp (by omega)]) dX7_reckonOrder_138 ?_
                      refine k_if_ne (tgt := 152) C dX7_reckonOrder_139 (by decide) (fun c139 => ?_) (fun c139 => ?_)
                      · skip
                        have hin : ¬ q ∈ Q := fun h => c139 (by rw [hfp q (by omega), if_pos h])
                        refine k_iload C dX7_reckonOrder_152 2 rfl ?_
                        refine k_istore (lv' := [(6, .int bb), (8, .int (nI 1)), (7, .int (nI q)), (5, .int (nI j)), (0, .ref m), (1, .int (nI to)), (2, .int (nI t)), (3, .int (nI e)), (4, .int dn)]) C dX7_reckonOrder_154 (by decide) rfl ?_
                        refine k_iinc (v := nI (q + 1)) (lv' := [(7, .int (nI (q + 1))), (6, .int bb), (8, .int (nI 1)), (5, .int (nI j)), (0, .ref m), (1, .int (nI to)), (2, .int (nI t)), (3, .int (nI e)), (4, .int dn)]) C dX7_reckonOrder_156 (k := 2) rfl (nI_add q 1) (by decide) rfl ?_
                        refine k_goto (tgt := 67) C dX7_reckonOrder_159 (by decide) ?_
                        refine k_sub [0, 1, 3, 4, 5, 6, 7, 8] (lv' := [(7, .int (nI (q + 1))), (6, .int bb), (5, .int (nI j)), (0, .ref m), (1, .int (nI to)), (2, .int (nI t)), (3, .int (nI e)), (4, .int dn)]) rfl ?_
                        exact ih67 (q + 1) bb (by omega)  (by omega) (hSe.skip hin)
                      · skip
                        have hin : q ∈ Q := by
                          by_cases h : q ∈ Q
                          · exact h
                          · rw [hfp q (by omega), if_neg h] at c139; exact absurd c139 (by decide)
                        refine k_iload C dX7_reckonOrder_142 0 rfl ?_
                        refine k_if_eq (tgt := 152) C dX7_reckonOrder_144 (by decide) (fun c144 => ?_) (fun c144 => ?_)
                        · exact absurd c144 (by decide)
                        · skip
                          have b144 : ¬ 1 = 0 := fun z => c144 ((nI_eq (a := 1) (b := 0) (by omega) (by omega)).mpr z)
                          refine k_iload C dX7_reckonOrder_147 1 rfl ?_
                          refine k_goto (tgt := 154) C dX7_reckonOrder_149 (by decide) ?_
                          refine k_istore (lv' := [(6, .int (nI q)), (8, .int (nI 1)), (7, .int (nI q)), (5, .int (nI j)), (0, .ref m), (1, .int (nI to)), (2, .int (nI t)), (3, .int (nI e)), (4, .int dn)]) C dX7_reckonOrder_154 (by decide) rfl ?_
                          refine k_iinc (v := nI (q + 1)) (lv' := [(7, .int (nI (q + 1))), (6, .int (nI q)), (8, .int (nI 1)), (5, .int (nI j)), (0, .ref m), (1, .int (nI to)), (2, .int (nI t)), (3, .int (nI e)), (4, .int dn)]) C dX7_reckonOrder_156 (k := 2) rfl (nI_add q 1) (by decide) rfl ?_
                          refine k_goto (tgt := 67) C dX7_reckonOrder_159 (by decide) ?_
                          refine k_sub [0, 1, 3, 4, 5, 6, 7, 8] (lv' := [(7, .int (nI (q + 1))), (6, .int (nI q)), (5, .int (nI j)), (0, .ref m), (1, .int (nI to)), (2, .int (nI t)), (3, .int (nI e)), (4, .int dn)]) rfl ?_
                          exact ih67 (q + 1) (nI q) (by omega)  (by omega) (hSe.first c80 hin (by omega))
                    · skip
                      obtain ⟨b, hbq, hbb, hbQ, hbm⟩ := hSe.some c80
                      refine k_iload C dX7_reckonOrder_83 7 rfl ?_
                      refine k_if_eq (tgt := 108) C dX7_reckonOrder_85 (by decide) (fun c85 => ?_) (fun c85 => ?_)
                      · skip
                        refine k_aload_n C dX7_reckonOrder_108 rfl 3 rfl ?_
                        refine k_get (ci := 7) (k := 13) C fl_7_35 ((gv_up_n ne12).trans ((gv_up_n ne11).trans ((gv_up_n ne5).trans ((gv_up_n ne4).trans ((gv_up_n ne3).trans ((gv_up_n ne2).trans h_m)))))) rfl dX7_reckonOrder_109 ?_
                        refine k_iload C dX7_reckonOrder_112 0 rfl ?_
                        have ne27 : nq wk wr := gv_ne h_wr h_wk (by simp)
                        refine k_iald (v := fk1 q) C 0 ((gv_up_n (Ne.symm ne8)).trans ((gv_up_n ne27).trans ((gv_up_n hwkp).trans gv_up_s))) rfl (vp_in_nI (by omega) (by omega)) (by rw [nI_clamp (by omega)]) dX7_reckonOrder_114 ?_
                        refine k_aload_n C dX7_reckonOrder_115 rfl 3 rfl ?_
                        refine k_get (ci := 7) (k := 13) C fl_7_35 ((gv_up_n ne12).trans ((gv_up_n ne11).trans ((gv_up_n ne5).trans ((gv_up_n ne4).trans ((gv_up_n ne3).trans ((gv_up_n ne2).trans h_m)))))) rfl dX7_reckonOrder_116 ?_
                        refine k_iload C dX7_reckonOrder_119 1 rfl ?_
                        refine k_val (y := nI b) hbb ?_
                        refine k_iald (v := fk1 b) C 0 ((gv_up_n (Ne.symm ne8)).trans ((gv_up_n ne27).trans ((gv_up_n hwkp).trans gv_up_s))) rfl (vp_in_nI (by omega) (by omega)) (by rw [nI_clamp (by omega)]) dX7_reckonOrder_121 ?_
                        refine k_icmp_ge (tgt := 129) C dX7_reckonOrder_122 (by decide) (fun c122 => ?_) (fun c122 => ?_)
                        · skip
                          refine k_iconst (v := nI 0) C dX7_reckonOrder_129 rfl ?_
                          refine k_istore (lv' := [(8, .int (nI 0)), (7, .int (nI q)), (6, .int bb), (5, .int (nI j)), (0, .ref m), (1, .int (nI to)), (2, .int (nI t)), (3, .int (nI e)), (4, .int dn)]) C dX7_reckonOrder_130 (by decide) rfl ?_
                          refine k_aload_n C dX7_reckonOrder_132 rfl 4 rfl ?_
                          refine k_get (ci := 7) (k := 14) C fl_7_38 ((gv_up_n ne12).trans ((gv_up_n ne11).trans ((gv_up_n ne5).trans ((gv_up_n ne4).trans ((gv_up_n ne3).trans ((gv_up_n ne2).trans h_m)))))) rfl dX7_reckonOrder_133 ?_
                          refine k_iload C dX7_reckonOrder_136 1 rfl ?_
                          have ne28 : nq wp wr := gv_ne h_wr h_wp (by simp)
                          refine k_iald (v := fp2 q) C 0 ((gv_up_n (Ne.symm ne9)).trans ((gv_up_n ne28).trans gv_up_s)) rfl (vp_in_nI (by omega) (by omega)) (by rw [nI_clamp (by omega)]) dX7_reckonOrder_138 ?_
                          refine k_if_ne (tgt := 152) C dX7_reckonOrder_139 (by decide) (fun c139 => ?_) (fun c139 => ?_)
                          · skip
                            have hin : ¬ q ∈ Q := fun h => c139 (by rw [hfp q (by omega), if_pos h])
                            refine k_iload C dX7_reckonOrder_152 2 rfl ?_
                            refine k_istore (lv' := [(6, .int bb), (8, .int (nI 0)), (7, .int (nI q)), (5, .int (nI j)), (0, .ref m), (1, .int (nI to)), (2, .int (nI t)), (3, .int (nI e)), (4, .int dn)]) C dX7_reckonOrder_154 (by decide) rfl ?_
                            refine k_iinc (v := nI (q + 1)) (lv' := [(7, .int (nI (q + 1))), (6, .int bb), (8, .int (nI 0)), (5, .int (nI j)), (0, .ref m), (1, .int (nI to)), (2, .int (nI t)), (3, .int (nI e)), (4, .int dn)]) C dX7_reckonOrder_156 (k := 2) rfl (nI_add q 1) (by decide) rfl ?_
                            refine k_goto (tgt := 67) C dX7_reckonOrder_159 (by decide) ?_
                            refine k_sub [0, 1, 3, 4, 5, 6, 7, 8] (lv' := [(7, .int (nI (q + 1))), (6, .int bb), (5, .int (nI j)), (0, .ref m), (1, .int (nI to)), (2, .int (nI t)), (3, .int (nI e)), (4, .int dn)]) rfl ?_
                            exact ih67 (q + 1) bb (by omega)  (by omega) (hSe.skip hin)
                          · skip
                            have hin : q ∈ Q := by
                              by_cases h : q ∈ Q
                              · exact h
                              · rw [hfp q (by omega), if_neg h] at c139; exact absurd c139 (by decide)
                            refine k_iload C dX7_reckonOrder_142 0 rfl ?_
                            refine k_if_eq (tgt := 152) C dX7_reckonOrder_144 (by decide) (fun c144 => ?_) (fun c144 => ?_)
                            · skip
                              have b144 : 0 = 0 := (nI_eq (a := 0) (b := 0) (by omega) (by omega)).mp c144
                              refine k_iload C dX7_reckonOrder_152 2 rfl ?_
                              refine k_istore (lv' := [(6, .int bb), (8, .int (nI 0)), (7, .int (nI q)), (5, .int (nI j)), (0, .ref m), (1, .int (nI to)), (2, .int (nI t)), (3, .int (nI e)), (4, .int dn)]) C dX7_reckonOrder_154 (by decide) rfl ?_
                              refine k_iinc (v := nI (q + 1)) (lv' := [(7, .int (nI (q + 1))), (6, .int bb), (8, .int (nI 0)), (5, .int (nI j)), (0, .ref m), (1, .int (nI to)), (2, .int (nI t)), (3, .int (nI e)), (4, .int dn)]) C dX7_reckonOrder_156 (k := 2) rfl (nI_add q 1) (by decide) rfl ?_
                              refine k_goto (tgt := 67) C dX7_reckonOrder_159 (by decide) ?_
                              refine k_sub [0, 1, 3, 4, 5, 6, 7, 8] (lv' := [(7, .int (nI (q + 1))), (6, .int bb), (5, .int (nI j)), (0, .ref m), (1, .int (nI to)), (2, .int (nI t)), (3, .int (nI e)), (4, .int dn)]) rfl ?_
                              exact ih67 (q + 1) bb (by omega)  (by omega) (Sel.no hbq hbb hbQ hbm (by unfold gbf; rw [if_pos c85]; exact decide_eq_false (Int32.not_lt.mpr (by rw [← hkk q (by omega), ← hkk b (by omega)]; exact c122))))
                            · exact absurd c144 (by decide)
                        · skip
                          refine k_iconst (v := nI 1) C dX7_reckonOrder_125 rfl ?_
                          refine k_goto (tgt := 130) C dX7_reckonOrder_126 (by decide) ?_
                          refine k_istore (lv' := [(8, .int (nI 1)), (7, .int (nI q)), (6, .int bb), (5, .int (nI j)), (0, .ref m), (1, .int (nI to)), (2, .int (nI t)), (3, .int (nI e)), (4, .int dn)]) C dX7_reckonOrder_130 (by decide) rfl ?_
                          refine k_aload_n C dX7_reckonOrder_132 rfl 4 rfl ?_
                          refine k_get (ci := 7) (k := 14) C fl_7_38 ((gv_up_n ne12).trans ((gv_up_n ne11).trans ((gv_up_n ne5).trans ((gv_up_n ne4).trans ((gv_up_n ne3).trans ((gv_up_n ne2).trans h_m)))))) rfl dX7_reckonOrder_133 ?_
                          refine k_iload C dX7_reckonOrder_136 1 rfl ?_
                          have ne29 : nq wp wr := gv_ne h_wr h_wp (by simp)
                          refine k_iald (v := fp2 q) C 0 ((gv_up_n (Ne.symm ne9)).trans ((gv_up_n ne29).trans gv_up_s)) rfl (vp_in_nI (by omega) (by omega)) (by rw [nI_clamp (by omega)]) dX7_reckonOrder_138 ?_
                          refine k_if_ne (tgt := 152) C dX7_reckonOrder_139 (by decide) (fun c139 => ?_) (fun c139 => ?_)
                          · skip
                            have hin : ¬ q ∈ Q := fun h => c139 (by rw [hfp q (by omega), if_pos h])
                            refine k_iload C dX7_reckonOrder_152 2 rfl ?_
                            refine k_istore (lv' := [(6, .int bb), (8, .int (nI 1)), (7, .int (nI q)), (5, .int (nI j)), (0, .ref m), (1, .int (nI to)), (2, .int (nI t)), (3, .int (nI e)), (4, .int dn)]) C dX7_reckonOrder_154 (by decide) rfl ?_
                            refine k_iinc (v := nI (q + 1)) (lv' := [(7, .int (nI (q + 1))), (6, .int bb), (8, .int (nI 1)), (5, .int (nI j)), (0, .ref m), (1, .int (nI to)), (2, .int (nI t)), (3, .int (nI e)), (4, .int dn)]) C dX7_reckonOrder_156 (k := 2) rfl (nI_add q 1) (by decide) rfl ?_
                            refine k_goto (tgt := 67) C dX7_reckonOrder_159 (by decide) ?_
                            refine k_sub [0, 1, 3, 4, 5, 6, 7, 8] (lv' := [(7, .int (nI (q + 1))), (6, .int bb), (5, .int (nI j)), (0, .ref m), (1, .int (nI to)), (2, .int (nI t)), (3, .int (nI e)), (4, .int dn)]) rfl ?_
                            exact ih67 (q + 1) bb (by omega)  (by omega) (hSe.skip hin)
                          · skip
                            have hin : q ∈ Q := by
                              by_cases h : q ∈ Q
                              · exact h
                              · rw [hfp q (by omega), if_neg h] at c139; exact absurd c139 (by decide)
                            refine k_iload C dX7_reckonOrder_142 0 rfl ?_
                            refine k_if_eq (tgt := 152) C dX7_reckonOrder_144 (by decide) (fun c144 => ?_) (fun c144 => ?_)
                            · exact absurd c144 (by decide)
                            · skip
                              have b144 : ¬ 1 = 0 := fun z => c144 ((nI_eq (a := 1) (b := 0) (by omega) (by omega)).mpr z)
                              refine k_iload C dX7_reckonOrder_147 1 rfl ?_
                              refine k_goto (tgt := 154) C dX7_reckonOrder_149 (by decide) ?_
                              refine k_istore (lv' := [(6, .int (nI q)), (8, .int (nI 1)), (7, .int (nI q)), (5, .int (nI j)), (0, .ref m), (1, .int (nI to)), (2, .int (nI t)), (3, .int (nI e)), (4, .int dn)]) C dX7_reckonOrder_154 (by decide) rfl ?_
                              refine k_iinc (v := nI (q + 1)) (lv' := [(7, .int (nI (q + 1))), (6, .int (nI q)), (8, .int (nI 1)), (5, .int (nI j)), (0, .ref m), (1, .int (nI to)), (2, .int (nI t)), (3, .int (nI e)), (4, .int dn)]) C dX7_reckonOrder_156 (k := 2) rfl (nI_add q 1) (by decide) rfl ?_
                              refine k_goto (tgt := 67) C dX7_reckonOrder_159 (by decide) ?_
                              refine k_sub [0, 1, 3, 4, 5, 6, 7, 8] (lv' := [(7, .int (nI (q + 1))), (6, .int (nI q)), (5, .int (nI j)), (0, .ref m), (1, .int (nI to)), (2, .int (nI t)), (3, .int (nI e)), (4, .int dn)]) rfl ?_
                              exact ih67 (q + 1) (nI q) (by omega)  (by omega) (Sel.better hbm hin (by unfold gbf; rw [if_pos c85]; exact decide_eq_true (by rw [← hkk q (by omega), ← hkk b (by omega)]; exact Int32.not_le.mp c122)))
                      · skip
                        refine k_aload_n C dX7_reckonOrder_88 rfl 3 rfl ?_
                        refine k_get (ci := 7) (k := 13) C fl_7_35 ((gv_up_n ne12).trans ((gv_up_n ne11).trans ((gv_up_n ne5).trans ((gv_up_n ne4).trans ((gv_up_n ne3).trans ((gv_up_n ne2).trans h_m)))))) rfl dX7_reckonOrder_89 ?_
                        refine k_iload C dX7_reckonOrder_92 0 rfl ?_
                        have ne30 : nq wk wr := gv_ne h_wr h_wk (by simp)
                        refine k_iald (v := fk1 q) C 0 ((gv_up_n (Ne.symm ne8)).trans ((gv_up_n ne30).trans ((gv_up_n hwkp).trans gv_up_s))) rfl (vp_in_nI (by omega) (by omega)) (by rw [nI_clamp (by omega)]) dX7_reckonOrder_94 ?_
                        refine k_aload_n C dX7_reckonOrder_95 rfl 3 rfl ?_
                        refine k_get (ci := 7) (k := 13) C fl_7_35 ((gv_up_n ne12).trans ((gv_up_n ne11).trans ((gv_up_n ne5).trans ((gv_up_n ne4).trans ((gv_up_n ne3).trans ((gv_up_n ne2).trans h_m)))))) rfl dX7_reckonOrder_96 ?_
                        refine k_iload C dX7_reckonOrder_99 1 rfl ?_
                        refine k_val (y := nI b) hbb ?_
                        refine k_iald (v := fk1 b) C 0 ((gv_up_n (Ne.symm ne8)).trans ((gv_up_n ne30).trans ((gv_up_n hwkp).trans gv_up_s))) rfl (vp_in_nI (by omega) (by omega)) (by rw [nI_clamp (by omega)]) dX7_reckonOrder_101 ?_
                        refine k_icmp_le (tgt := 129) C dX7_reckonOrder_102 (by decide) (fun c102 => ?_) (fun c102 => ?_)
                        · skip
                          refine k_iconst (v := nI 0) C dX7_reckonOrder_129 rfl ?_
                          refine k_istore (lv' := [(8, .int (nI 0)), (7, .int (nI q)), (6, .int bb), (5, .int (nI j)), (0, .ref m), (1, .int (nI to)), (2, .int (nI t)), (3, .int (nI e)), (4, .int dn)]) C dX7_reckonOrder_130 (by decide) rfl ?_
                          refine k_aload_n C dX7_reckonOrder_132 rfl 4 rfl ?_
                          refine k_get (ci := 7) (k := 14) C fl_7_38 ((gv_up_n ne12).trans ((gv_up_n ne11).trans ((gv_up_n ne5).trans ((gv_up_n ne4).trans ((gv_up_n ne3).trans ((gv_up_n ne2).trans h_m)))))) rfl dX7_reckonOrder_133 ?_
                          refine k_iload C dX7_reckonOrder_136 1 rfl ?_
                          have ne31 : nq wp wr := gv_ne h_wr h_wp (by simp)
                          refine k_iald (v := fp2 q) C 0 ((gv_up_n (Ne.symm ne9)).trans ((gv_up_n ne31).trans gv_up_s)) rfl (vp_in_nI (by omega) (by omega)) (by rw [nI_clamp (by omega)]) dX7_reckonOrder_138 ?_
                          refine k_if_ne (tgt := 152) C dX7_reckonOrder_139 (by decide) (fun c139 => ?_) (fun c139 => ?_)
                          · skip
                            have hin : ¬ q ∈ Q := fun h => c139 (by rw [hfp q (by omega), if_pos h])
                            refine k_iload C dX7_reckonOrder_152 2 rfl ?_
                            refine k_istore (lv' := [(6, .int bb), (8, .int (nI 0)), (7, .int (nI q)), (5, .int (nI j)), (0, .ref m), (1, .int (nI to)), (2, .int (nI t)), (3, .int (nI e)), (4, .int dn)]) C dX7_reckonOrder_154 (by decide) rfl ?_
                            refine k_iinc (v := nI (q + 1)) (lv' := [(7, .int (nI (q + 1))), (6, .int bb), (8, .int (nI 0)), (5, .int (nI j)), (0, .ref m), (1, .int (nI to)), (2, .int (nI t)), (3, .int (nI e)), (4, .int dn)]) C dX7_reckonOrder_156 (k := 2) rfl (nI_add q 1) (by decide) rfl ?_
                            refine k_goto (tgt := 67) C dX7_reckonOrder_159 (by decide) ?_
                            refine k_sub [0, 1, 3, 4, 5, 6, 7, 8] (lv' := [(7, .int (nI (q + 1))), (6, .int bb), (5, .int (nI j)), (0, .ref m), (1, .int (nI to)), (2, .int (nI t)), (3, .int (nI e)), (4, .int dn)]) rfl ?_
                            exact ih67 (q + 1) bb (by omega)  (by omega) (hSe.skip hin)
                          · skip
                            have hin : q ∈ Q := by
                              by_cases h : q ∈ Q
                              · exact h
                              · rw [hfp q (by omega), if_neg h] at c139; exact absurd c139 (by decide)
                            refine k_iload C dX7_reckonOrder_142 0 rfl ?_
                            refine k_if_eq (tgt := 152) C dX7_reckonOrder_144 (by decide) (fun c144 => ?_) (fun c144 => ?_)
                            · skip
                              have b144 : 0 = 0 := (nI_eq (a := 0) (b := 0) (by omega) (by omega)).mp c144
                              refine k_iload C dX7_reckonOrder_152 2 rfl ?_
                              refine k_istore (lv' := [(6, .int bb), (8, .int (nI 0)), (7, .int (nI q)), (5, .int (nI j)), (0, .ref m), (1, .int (nI to)), (2, .int (nI t)), (3, .int (nI e)), (4, .int dn)]) C dX7_reckonOrder_154 (by decide) rfl ?_
                              refine k_iinc (v := nI (q + 1)) (lv' := [(7, .int (nI (q + 1))), (6, .int bb), (8, .int (nI 0)), (5, .int (nI j)), (0, .ref m), (1, .int (nI to)), (2, .int (nI t)), (3, .int (nI e)), (4, .int dn)]) C dX7_reckonOrder_156 (k := 2) rfl (nI_add q 1) (by decide) rfl ?_
                              refine k_goto (tgt := 67) C dX7_reckonOrder_159 (by decide) ?_
                              refine k_sub [0, 1, 3, 4, 5, 6, 7, 8] (lv' := [(7, .int (nI (q + 1))), (6, .int bb), (5, .int (nI j)), (0, .ref m), (1, .int (nI to)), (2, .int (nI t)), (3, .int (nI e)), (4, .int dn)]) rfl ?_
                              exact ih67 (q + 1) bb (by omega)  (by omega) (Sel.no hbq hbb hbQ hbm (by unfold gbf; rw [if_neg c85]; exact decide_eq_false (Int32.not_lt.mpr (by rw [← hkk q (by omega), ← hkk b (by omega)]; exact c102))))
                            · exact absurd c144 (by decide)
                        · skip
                          refine k_goto (tgt := 125) C dX7_reckonOrder_105 (by decide) ?_
                          refine k_iconst (v := nI 1) C dX7_reckonOrder_125 rfl ?_
                          refine k_goto (tgt := 130) C dX7_reckonOrder_126 (by decide) ?_
                          refine k_istore (lv' := [(8, .int (nI 1)), (7, .int (nI q)), (6, .int bb), (5, .int (nI j)), (0, .ref m), (1, .int (nI to)), (2, .int (nI t)), (3, .int (nI e)), (4, .int dn)]) C dX7_reckonOrder_130 (by decide) rfl ?_
                          refine k_aload_n C dX7_reckonOrder_132 rfl 4 rfl ?_
                          refine k_get (ci := 7) (k := 14) C fl_7_38 ((gv_up_n ne12).trans ((gv_up_n ne11).trans ((gv_up_n ne5).trans ((gv_up_n ne4).trans ((gv_up_n ne3).trans ((gv_up_n ne2).trans h_m)))))) rfl dX7_reckonOrder_133 ?_
                          refine k_iload C dX7_reckonOrder_136 1 rfl ?_
                          have ne32 : nq wp wr := gv_ne h_wr h_wp (by simp)
                          refine k_iald (v := fp2 q) C 0 ((gv_up_n (Ne.symm ne9)).trans ((gv_up_n ne32).trans gv_up_s)) rfl (vp_in_nI (by omega) (by omega)) (by rw [nI_clamp (by omega)]) dX7_reckonOrder_138 ?_
                          refine k_if_ne (tgt := 152) C dX7_reckonOrder_139 (by decide) (fun c139 => ?_) (fun c139 => ?_)
                          · skip
                            have hin : ¬ q ∈ Q := fun h => c139 (by rw [hfp q (by omega), if_pos h])
                            refine k_iload C dX7_reckonOrder_152 2 rfl ?_
                            refine k_istore (lv' := [(6, .int bb), (8, .int (nI 1)), (7, .int (nI q)), (5, .int (nI j)), (0, .ref m), (1, .int (nI to)), (2, .int (nI t)), (3, .int (nI e)), (4, .int dn)]) C dX7_reckonOrder_154 (by decide) rfl ?_
                            refine k_iinc (v := nI (q + 1)) (lv' := [(7, .int (nI (q + 1))), (6, .int bb), (8, .int (nI 1)), (5, .int (nI j)), (0, .ref m), (1, .int (nI to)), (2, .int (nI t)), (3, .int (nI e)), (4, .int dn)]) C dX7_reckonOrder_156 (k := 2) rfl (nI_add q 1) (by decide) rfl ?_
                            refine k_goto (tgt := 67) C dX7_reckonOrder_159 (by decide) ?_
                            refine k_sub [0, 1, 3, 4, 5, 6, 7, 8] (lv' := [(7, .int (nI (q + 1))), (6, .int bb), (5, .int (nI j)), (0, .ref m), (1, .int (nI to)), (2, .int (nI t)), (3, .int (nI e)), (4, .int dn)]) rfl ?_
                            exact ih67 (q + 1) bb (by omega)  (by omega) (hSe.skip hin)
                          · skip
                            have hin : q ∈ Q := by
                              by_cases h : q ∈ Q
                              · exact h
                              · rw [hfp q (by omega), if_neg h] at c139; exact absurd c139 (by decide)
                            refine k_iload C dX7_reckonOrder_142 0 rfl ?_
                            refine k_if_eq (tgt := 152) C dX7_reckonOrder_144 (by decide) (fun c144 => ?_) (fun c144 => ?_)
                            · exact absurd c144 (by decide)
                            · skip
                              have b144 : ¬ 1 = 0 := fun z => c144 ((nI_eq (a := 1) (b := 0) (by omega) (by omega)).mpr z)
                              refine k_iload C dX7_reckonOrder_147 1 rfl ?_
                              refine k_goto (tgt := 154) C dX7_reckonOrder_149 (by decide) ?_
                              refine k_istore (lv' := [(6, .int (nI q)), (8, .int (nI 1)), (7, .int (nI q)), (5, .int (nI j)), (0, .ref m), (1, .int (nI to)), (2, .int (nI t)), (3, .int (nI e)), (4, .int dn)]) C dX7_reckonOrder_154 (by decide) rfl ?_
                              refine k_iinc (v := nI (q + 1)) (lv' := [(7, .int (nI (q + 1))), (6, .int (nI q)), (8, .int (nI 1)), (5, .int (nI j)), (0, .ref m), (1, .int (nI to)), (2, .int (nI t)), (3, .int (nI e)), (4, .int dn)]) C dX7_reckonOrder_156 (k := 2) rfl (nI_add q 1) (by decide) rfl ?_
                              refine k_goto (tgt := 67) C dX7_reckonOrder_159 (by decide) ?_
                              refine k_sub [0, 1, 3, 4, 5, 6, 7, 8] (lv' := [(7, .int (nI (q + 1))), (6, .int (nI q)), (5, .int (nI j)), (0, .ref m), (1, .int (nI to)), (2, .int (nI t)), (3, .int (nI e)), (4, .int dn)]) rfl ?_
                              exact ih67 (q + 1) (nI q) (by omega)  (by omega) (Sel.better hbm hin (by unfold gbf; rw [if_neg c85]; exact decide_eq_true (by rw [← hkk q (by omega), ← hkk b (by omega)]; exact Int32.not_le.mp c102)))
              exact L67 _ 0 (-1 : Int32) (Nat.lt_succ_self _)  (by omega) (Or.inl ⟨rfl, fun z hz => absurd hz (Nat.not_lt_zero _)⟩)
        have ne33 : nq wr wn := gv_ne h_wn h_wr (by simp)
        have ne34 : nq wr wv := gv_ne h_wv h_wr (by simp)
        have ne35 : nq wr wk := gv_ne h_wk h_wr (by simp)
        have ne36 : nq wr wp := gv_ne h_wp h_wr (by simp)
        refine k_view (V1 := gv_up (gv_up (gv_up (gv_up (gv_up V wn (.inl (cI, 6, .inl fw1))) wv (.inl (cI, 30, .inl fv1))) wk (.inl (cI, 80, .inl fk1))) wp (.inl (cI, 80, .inl fp1))) wr (.inl (cI, 57600, .inl fr))) (gv_id ((gv_up_n ne36).trans ((gv_up_n ne35).trans ((gv_up_n ne34).trans ((gv_up_n ne33).trans h_wr))))).symm ?_
        have ne37 : nq wc wr := gv_ne h_wr h_wc (by simp)
        refine k_view (V1 := gv_up (gv_up (gv_up (gv_up (gv_up (gv_up V wn (.inl (cI, 6, .inl fw1))) wv (.inl (cI, 30, .inl fv1))) wk (.inl (cI, 80, .inl fk1))) wp (.inl (cI, 80, .inl fp1))) wr (.inl (cI, 57600, .inl fr))) wc (.inl (cI, 120, .inl fc))) (gv_id ((gv_up_n ne37).trans ((gv_up_n ne9).trans ((gv_up_n ne8).trans ((gv_up_n ne7).trans ((gv_up_n ne6).trans h_wc)))))).symm ?_
        exact L50 _ 0 ([]) (List.range n) fr fc fw1 fp1 (Nat.lt_succ_self _)  (by omega) rfl SelP.init (fun z hz => by rw [if_pos (List.mem_range.mpr hz)]; exact hpp z (by omega)) (MRep.nil hc0) Kp.rf
      · skip
        have b11 : ¬ n ≤ i := fun z => c11 ((nI_leI (a := n) (b := i) (by omega) (by omega)).mpr z)
        refine k_aload_n C dX7_reckonOrder_14 rfl 1 rfl ?_
        refine k_iload_n C dX7_reckonOrder_15 rfl 3 rfl ?_
        refine k_iload C dX7_reckonOrder_16 0 rfl ?_
        have ne38 : nq wr wn := gv_ne h_wn h_wr (by simp)
        have ne39 : nq wr wv := gv_ne h_wv h_wr (by simp)
        have ne40 : nq wr wk := gv_ne h_wk h_wr (by simp)
        have ne41 : nq wr wp := gv_ne h_wp h_wr (by simp)
        have ne42 : nq wn wv := gv_ne h_wv h_wn (by simp)
        have ne43 : nq wn wk := gv_ne h_wk h_wn (by simp)
        have ne44 : nq wn wp := gv_ne h_wp h_wn (by simp)
        refine k_callV C mv_7_101 (c_X7_take  ((gv_up_n ne5).trans ((gv_up_n ne4).trans ((gv_up_n ne3).trans ((gv_up_n ne2).trans h_m)))) ((gv_up_n ne41).trans ((gv_up_n ne40).trans ((gv_up_n ne39).trans ((gv_up_n ne38).trans h_wr)))) ((gv_up_n ne44).trans ((gv_up_n ne43).trans ((gv_up_n ne42).trans gv_up_s))) (by first | assumption | omega) (by omega)) ((gv_up_n ne5).trans ((gv_up_n ne4).trans ((gv_up_n ne3).trans ((gv_up_n ne2).trans h_m)))) rfl rfl (by simp [Value.category]) ⟨Nat.le_of_ble_eq_true rfl, Nat.le_of_ble_eq_true rfl⟩ ⟨(by decide), (by decide)⟩ dX7_reckonOrder_18 (fun zv zV zh => ?_)
        obtain ⟨fw1_w45, rfl, rfl, hw1_w45⟩ := zh
        refine k_pc (pc' := 21) (st' := []) rfl rfl ?_
        refine k_view (V1 := gv_up (gv_up (gv_up (gv_up V wn (.inl (cI, 6, .inl fw1_w45))) wv (.inl (cI, 30, .inl fv1))) wk (.inl (cI, 80, .inl fk1))) wp (.inl (cI, 80, .inl fp1))) ((gv_uc ne44).trans (congrArg (fun W => gv_up W wp (.inl (cI, 80, .inl fp1))) ((gv_uc ne43).trans (congrArg (fun W => gv_up W wk (.inl (cI, 80, .inl fk1))) ((gv_uc ne42).trans (congrArg (fun W => gv_up W wv (.inl (cI, 30, .inl fv1))) gv_uu)))))) ?_
        have htk := hw1_w45.tr (hA.at (i := i) (by omega))
        refine k_aload_n C dX7_reckonOrder_21 rfl 1 rfl ?_
        refine k_get (ci := 7) (k := 13) C fl_7_35 ((gv_up_n ne5).trans ((gv_up_n ne4).trans ((gv_up_n ne3).trans ((gv_up_n ne2).trans h_m)))) rfl dX7_reckonOrder_22 ?_
        refine k_iload C dX7_reckonOrder_25 0 rfl ?_
        refine k_aload_n C dX7_reckonOrder_27 rfl 1 rfl ?_
        refine k_iload_n C dX7_reckonOrder_28 rfl 4 rfl ?_
        have ne46 : nq wa wn := gv_ne h_wn h_wa (by simp)
        have ne47 : nq wa wv := gv_ne h_wv h_wa (by simp)
        have ne48 : nq wa wk := gv_ne h_wk h_wa (by simp)
        have ne49 : nq wa wp := gv_ne h_wp h_wa (by simp)
        have ne50 : nq wv wk := gv_ne h_wk h_wv (by simp)
        have ne51 : nq wv wp := gv_ne h_wp h_wv (by simp)
        refine k_callV C mv_7_81 (c_X7_valueOf  ((gv_up_n ne5).trans ((gv_up_n ne4).trans ((gv_up_n ne3).trans ((gv_up_n ne2).trans h_m)))) ((gv_up_n ne49).trans ((gv_up_n ne48).trans ((gv_up_n ne47).trans ((gv_up_n ne46).trans h_wa)))) ((gv_up_n ne51).trans ((gv_up_n ne50).trans gv_up_s)) ((gv_up_n ne44).trans ((gv_up_n ne43).trans ((gv_up_n ne42).trans gv_up_s))) (by first | assumption | omega) (by first | assumption | omega)) ((gv_up_n ne5).trans ((gv_up_n ne4).trans ((gv_up_n ne3).trans ((gv_up_n ne2).trans h_m)))) rfl rfl (by simp [Value.category]) ⟨Nat.le_of_ble_eq_true rfl, Nat.le_of_ble_eq_true rfl⟩ ⟨(by decide), (by decide)⟩ dX7_reckonOrder_29 (fun zv zV zh => ?_)
        obtain ⟨fv1_w52, rfl, rfl⟩ := zh
        refine k_pc (pc' := 32) (st' := .int (ev E fw1_w45 e) :: [.int (nI i), .ref wk]) rfl rfl ?_
        refine k_view (V1 := gv_up (gv_up (gv_up (gv_up V wn (.inl (cI, 6, .inl fw1_w45))) wv (.inl (cI, 30, .inl fv1_w52))) wk (.inl (cI, 80, .inl fk1))) wp (.inl (cI, 80, .inl fp1))) ((gv_uc ne51).trans (congrArg (fun W => gv_up W wp (.inl (cI, 80, .inl fp1))) ((gv_uc ne50).trans (congrArg (fun W => gv_up W wk (.inl (cI, 80, .inl fk1))) gv_uu)))) ?_
        refine k_iast (f' := upd fk1 i (ev E fw1_w45 e)) C 0 ((gv_up_n hwkp).trans gv_up_s) rfl (vp_in_nI (by omega) (by omega)) (by rw [nI_clamp (by omega)]) dX7_reckonOrder_32 ?_
        refine k_view (V1 := gv_up (gv_up (gv_up (gv_up V wn (.inl (cI, 6, .inl fw1_w45))) wv (.inl (cI, 30, .inl fv1_w52))) wk (.inl (cI, 80, .inl (upd fk1 i (ev E fw1_w45 e))))) wp (.inl (cI, 80, .inl fp1))) ((gv_uc hwkp).trans (congrArg (fun W => gv_up W wp (.inl (cI, 80, .inl fp1))) gv_uu)) ?_
        refine k_aload_n C dX7_reckonOrder_33 rfl 1 rfl ?_
        refine k_get (ci := 7) (k := 14) C fl_7_38 ((gv_up_n ne5).trans ((gv_up_n ne4).trans ((gv_up_n ne3).trans ((gv_up_n ne2).trans h_m)))) rfl dX7_reckonOrder_34 ?_
        refine k_iload C dX7_reckonOrder_37 0 rfl ?_
        refine k_iconst (v := nI 0) C dX7_reckonOrder_39 rfl ?_
        refine k_iast (f' := upd fp1 i (nI 0)) C 0 gv_up_s rfl (vp_in_nI (by omega) (by omega)) (by rw [nI_clamp (by omega)]) dX7_reckonOrder_40 ?_
        refine k_view (V1 := gv_up (gv_up (gv_up (gv_up V wn (.inl (cI, 6, .inl fw1_w45))) wv (.inl (cI, 30, .inl fv1_w52))) wk (.inl (cI, 80, .inl (upd fk1 i (ev E fw1_w45 e))))) wp (.inl (cI, 80, .inl (upd fp1 i (nI 0))))) gv_uu ?_
        refine k_iinc (v := nI (i + 1)) (lv' := [(5, .int (nI (i + 1))), (0, .ref m), (1, .int (nI to)), (2, .int (nI t)), (3, .int (nI e)), (4, .int dn)]) C dX7_reckonOrder_41 (k := 0) rfl (nI_add i 1) (by decide) rfl ?_
        refine k_goto (tgt := 3) C dX7_reckonOrder_44 (by decide) ?_
        exact ih3 (i + 1) fw1_w45 fv1_w52 (upd fk1 i (ev E fw1_w45 e)) (upd fp1 i (nI 0)) (by omega)  (by omega) (upd_nx hkk (hM.c he htk)) (upd_nx (g := fun _ => 0) hpp rfl)
  refine k_view (V1 := gv_up V wn (.inl (cI, 6, .inl fw))) (gv_id h_wn).symm ?_
  have ne53 : nq wv wn := gv_ne h_wn h_wv (by simp)
  refine k_view (V1 := gv_up (gv_up V wn (.inl (cI, 6, .inl fw))) wv (.inl (cI, 30, .inl fv))) (gv_id ((gv_up_n ne53).trans h_wv)).symm ?_
  have ne54 : nq wk wn := gv_ne h_wn h_wk (by simp)
  have ne55 : nq wk wv := gv_ne h_wv h_wk (by simp)
  refine k_view (V1 := gv_up (gv_up (gv_up V wn (.inl (cI, 6, .inl fw))) wv (.inl (cI, 30, .inl fv))) wk (.inl (cI, 80, .inl fk))) (gv_id ((gv_up_n ne55).trans ((gv_up_n ne54).trans h_wk))).symm ?_
  have ne56 : nq wp wn := gv_ne h_wn h_wp (by simp)
  have ne57 : nq wp wv := gv_ne h_wv h_wp (by simp)
  refine k_view (V1 := gv_up (gv_up (gv_up (gv_up V wn (.inl (cI, 6, .inl fw))) wv (.inl (cI, 30, .inl fv))) wk (.inl (cI, 80, .inl fk))) wp (.inl (cI, 80, .inl fp))) (gv_id ((gv_up_n (Ne.symm hwkp)).trans ((gv_up_n ne57).trans ((gv_up_n ne56).trans h_wp)))).symm ?_
  exact L3 _ 0 fw fv fk fp (Nat.lt_succ_self _)  (by omega) (fun _ h => absurd h (Nat.not_lt_zero _)) (fun _ h => absurd h (Nat.not_lt_zero _))
set_option maxHeartbeats 4000000 in
set_option maxRecDepth 100000 in
theorem c_X7_folded {zl : Launch} {D : va_G} {cI cN cR : ClassId} {base : Nat} {V : gv_V} {m wt wa wv wm wr wc wn ws wk wp nt ne nn sh : Nat} {kn : Int32} {fa fv fr fc fw : Nat → Int32} {t n f0 w e : Nat} {A : List Row} {E : Nat → Ex} {st : Int32}  (h_m : V m = some (.inr (7, [.int (nI nt), .ref wt, .int (nI ne), .ref wa, .ref wv, .int (nI nn), .ref wm, .int kn, .ref wr, .ref wc, .ref wn, .int (nI sh), .ref ws, .ref wk, .ref wp]))) (h_wr : V wr = some (.inl (cI, 57600, .inl fr))) (h_wc : V wc = some (.inl (cI, 120, .inl fc))) (h_wn : V wn = some (.inl (cI, 6, .inl fw))) (h_wv : V wv = some (.inl (cI, 30, .inl fv))) (h_wa : V wa = some (.inl (cI, 90, .inl fa))) (hA : Tab A n (tbl fr t)) (hcA : fc t = nI n) (ht : t < 120) (hf : f0 < n ∨ n = 0) (hw : w < 4) (hM : MA E ne fa) (he : e < ne) : ct zl D [(cI, .int), (cN, .object "AlgebraTree$Node"), (cR, .object "AlgebraTree$Rows")] base yX7_folded cX7_folded 14 (some .int) 3 0 0 [.ref m, .int (nI t), .int (nI f0), .int st, .int (nI w), .int (nI e)] V (fun zv zV => ∃ fw1 : Nat → Int32, ∃ fv1 : Nat → Int32, zv = some (.int (agR (nI w) (agF (fun z => lik st (rowAt A z) (rowAt A f0)) (fun z => ev E (rowAt A z) e) n))) ∧ zV = gv_up (gv_up V wn (.inl (cI, 6, .inl fw1))) wv (.inl (cI, 30, .inl fv1))) := by
  refine ct_of "AlgebraTreeModel" rfl (by decide) (Nat.le_of_ble_eq_true rfl) ?_
  intro zp ze zs zm zargs zbelow zmeth zc C zr zlk znm
  refine k_pc (pc' := 0) (st' := []) rfl rfl ?_
  show K zp zl ze (gv_rm 3 0 0) zs zm zargs zbelow zmeth zc D base 14 (gv_E D [(cI, .int), (cN, .object "AlgebraTree$Node"), (cR, .object "AlgebraTree$Rows")] base zbelow zargs zs 0 0 (fun zv zV => ∃ fw1 : Nat → Int32, ∃ fv1 : Nat → Int32, zv = some (.int (agR (nI w) (agF (fun z => lik st (rowAt A z) (rowAt A f0)) (fun z => ev E (rowAt A z) e) n))) ∧ zV = gv_up (gv_up V wn (.inl (cI, 6, .inl fw1))) wv (.inl (cI, 30, .inl fv1)))) V 0 0 [(0, .ref m), (1, .int (nI t)), (2, .int (nI f0)), (3, .int st), (4, .int (nI w)), (5, .int (nI e))] 0 []
  have hA2 := hA.2.1
  have hA3 := hA.1
  have hne30 := hM.1
  refine k_iconst (v := nI 0) C dX7_folded_0 rfl ?_
  refine k_istore (lv' := [(6, .int (nI 0)), (0, .ref m), (1, .int (nI t)), (2, .int (nI f0)), (3, .int st), (4, .int (nI w)), (5, .int (nI e))]) C dX7_folded_1 (by decide) rfl ?_
  refine k_iconst (v := nI 0) C dX7_folded_3 rfl ?_
  refine k_istore (lv' := [(7, .int (nI 0)), (6, .int (nI 0)), (0, .ref m), (1, .int (nI t)), (2, .int (nI f0)), (3, .int st), (4, .int (nI w)), (5, .int (nI e))]) C dX7_folded_4 (by decide) rfl ?_
  refine k_lconst (v := 0) C dX7_folded_6 rfl ?_
  refine k_lstore (lv' := [(8, .long (0 : Int64)), (7, .int (nI 0)), (6, .int (nI 0)), (0, .ref m), (1, .int (nI t)), (2, .int (nI f0)), (3, .int st), (4, .int (nI w)), (5, .int (nI e))]) C dX7_folded_7 (by decide) rfl ?_
  refine k_ldc (v := (1000000000)) C wd_861 dX7_folded_9 ?_
  refine k_istore (lv' := [(10, .int (1000000000 : Int32)), (8, .long (0 : Int64)), (7, .int (nI 0)), (6, .int (nI 0)), (0, .ref m), (1, .int (nI t)), (2, .int (nI f0)), (3, .int st), (4, .int (nI w)), (5, .int (nI e))]) C dX7_folded_11 (by decide) rfl ?_
  refine k_ldc (v := (-1000000000)) C wd_862 dX7_folded_13 ?_
  refine k_istore (lv' := [(11, .int (-1000000000 : Int32)), (10, .int (1000000000 : Int32)), (8, .long (0 : Int64)), (7, .int (nI 0)), (6, .int (nI 0)), (0, .ref m), (1, .int (nI t)), (2, .int (nI f0)), (3, .int st), (4, .int (nI w)), (5, .int (nI e))]) C dX7_folded_15 (by decide) rfl ?_
  refine k_iconst (v := nI 0) C dX7_folded_17 rfl ?_
  refine k_istore (lv' := [(12, .int (nI 0)), (11, .int (-1000000000 : Int32)), (10, .int (1000000000 : Int32)), (8, .long (0 : Int64)), (7, .int (nI 0)), (6, .int (nI 0)), (0, .ref m), (1, .int (nI t)), (2, .int (nI f0)), (3, .int st), (4, .int (nI w)), (5, .int (nI e))]) C dX7_folded_18 (by decide) rfl ?_
  have L20 : ∀ (zn1 : Nat) (i : Nat) (es : Nat) (ct : Nat) (sm : Int64) (ls : Int32) (ms : Int32) (wb : Bool) (fw1 : Nat → Int32) (fv1 : Nat → Int32), n - i < zn1 → (i ≤ n) → (agF (fun z => lik st (rowAt A z) (rowAt A f0)) (fun z => ev E (rowAt A z) e) i = (es, ct, sm, ls, ms)) → (wb = decide (0 < es)) → (es + ct ≤ i) → K zp zl ze (gv_rm 3 0 0) zs zm zargs zbelow zmeth zc D base 14 (gv_E D [(cI, .int), (cN, .object "AlgebraTree$Node"), (cR, .object "AlgebraTree$Rows")] base zbelow zargs zs 0 0 (fun zv zV => ∃ fw1 : Nat → Int32, ∃ fv1 : Nat → Int32, zv = some (.int (agR (nI w) (agF (fun z => lik st (rowAt A z) (rowAt A f0)) (fun z => ev E (rowAt A z) e) n))) ∧ zV = gv_up (gv_up V wn (.inl (cI, 6, .inl fw1))) wv (.inl (cI, 30, .inl fv1)))) (gv_up (gv_up V wn (.inl (cI, 6, .inl fw1))) wv (.inl (cI, 30, .inl fv1))) 0 0 [(12, .int (nI i)), (6, .int (nI ct)), (7, .int (bI wb)), (8, .long sm), (10, .int ls), (11, .int ms), (0, .ref m), (1, .int (nI t)), (2, .int (nI f0)), (3, .int st), (4, .int (nI w)), (5, .int (nI e))] 20 [] := by
    intro zn1
    induction zn1 with
    | zero => intro i es ct sm ls ms wb fw1 fv1 hlt; exact absurd hlt (Nat.not_lt_zero _)
    | succ zn1 ih20 =>
      intro i es ct sm ls ms wb fw1 fv1 hlt20  hi hag hwb hle
      refine k_iload C dX7_folded_20 0 rfl ?_
      refine k_aload_n C dX7_folded_22 rfl 6 rfl ?_
      have ne2 : nq m wn := gv_ne h_wn h_m (by simp)
      have ne3 : nq m wv := gv_ne h_wv h_m (by simp)
      refine k_get (ci := 7) (k := 9) C fl_7_26 ((gv_up_n ne3).trans ((gv_up_n ne2).trans h_m)) rfl dX7_folded_23 ?_
      refine k_iload_n C dX7_folded_26 rfl 7 rfl ?_
      have ne4 : nq wc wn := gv_ne h_wn h_wc (by simp)
      have ne5 : nq wc wv := gv_ne h_wv h_wc (by simp)
      refine k_iald (v := fc t) C 0 ((gv_up_n ne5).trans ((gv_up_n ne4).trans h_wc)) rfl (vp_in_nI (by omega) (by omega)) (by rw [nI_clamp (by omega)]) dX7_folded_27 ?_
      refine k_val (y := nI n) hcA ?_
      refine k_icmp_ge (tgt := 124) C dX7_folded_28 (by decide) (fun c28 => ?_) (fun c28 => ?_)
      · skip
        have b28 : n ≤ i := (nI_leI (a := n) (b := i) (by omega) (by omega)).mp c28
        refine k_iload C dX7_folded_124 10 rfl ?_
        refine k_if_ne (tgt := 132) C dX7_folded_126 (by decide) (fun c126 => ?_) (fun c126 => ?_)
        · skip
          have b126 : ¬ w = 0 := fun z => c126 ((nI_eq (a := w) (b := 0) (by omega) (by omega)).mpr z)
          refine k_iload C dX7_folded_132 2 rfl ?_
          refine k_if_ne (tgt := 148) C dX7_folded_134 (by decide) (fun c134 => ?_) (fun c134 => ?_)
          · skip
            have b134 : wb = true := bI_n.mp c134
            have hes : 0 < es := of_decide_eq_true (hwb.symm.trans b134)
            refine k_ldc (v := (-2147483648)) C wd_784 dX7_folded_148 ?_
            exact k_iret C zr zlk ⟨fw1, fv1, (by rw [show n = i by omega, hag, agR_m hw]; (repeat' split) <;> first | rfl | (exfalso; omega)), rfl⟩ (Nat.le_refl _) (Nat.le_refl _) dX7_folded_150
          · skip
            have b134 : wb = false := bI_0.mp c134
            have hes : ¬ 0 < es := of_decide_eq_false (hwb.symm.trans b134)
            refine k_iload C dX7_folded_137 10 rfl ?_
            refine k_iconst (v := nI 1) C dX7_folded_139 rfl ?_
            refine k_icmp_le (tgt := 151) C dX7_folded_140 (by decide) (fun c140 => ?_) (fun c140 => ?_)
            · skip
              have b140 : w ≤ 1 := (nI_leI (a := w) (b := 1) (by omega) (by omega)).mp c140
              refine k_iload C dX7_folded_151 10 rfl ?_
              refine k_iconst (v := nI 1) C dX7_folded_153 rfl ?_
              refine k_icmp_ne (tgt := 165) C dX7_folded_154 (by decide) (fun c154 => ?_) (fun c154 => ?_)
              · skip
                have b154 : ¬ w = 1 := fun z => c154 ((nI_eq (a := w) (b := 1) (by omega) (by omega)).mpr z)
                refine k_iload C dX7_folded_165 10 rfl ?_
                refine k_iconst (v := nI 2) C dX7_folded_167 rfl ?_
                refine k_icmp_ne (tgt := 176) C dX7_folded_168 (by decide) (fun c168 => ?_) (fun c168 => ?_)
                · skip
                  have b168 : ¬ w = 2 := fun z => c168 ((nI_eq (a := w) (b := 2) (by omega) (by omega)).mpr z)
                  refine k_iload C dX7_folded_176 5 rfl ?_
                  exact k_iret C zr zlk ⟨fw1, fv1, (by rw [show n = i by omega, hag, agR_m hw]; (repeat' split) <;> first | rfl | (exfalso; omega)), rfl⟩ (Nat.le_refl _) (Nat.le_refl _) dX7_folded_178
                · skip
                  have b168 : w = 2 := (nI_eq (a := w) (b := 2) (by omega) (by omega)).mp c168
                  refine k_iload C dX7_folded_171 4 rfl ?_
                  refine k_goto (tgt := 178) C dX7_folded_173 (by decide) ?_
                  exact k_iret C zr zlk ⟨fw1, fv1, (by rw [show n = i by omega, hag, agR_m hw]; (repeat' split) <;> first | rfl | (exfalso; omega)), rfl⟩ (Nat.le_refl _) (Nat.le_refl _) dX7_folded_178
              · skip
                have b154 : w = 1 := (nI_eq (a := w) (b := 1) (by omega) (by omega)).mp c154
                refine k_lload C dX7_folded_157 3 rfl ?_
                refine k_callS_pi C ms_7_74 (c_X7_bounded   ) rfl rfl (by simp [Value.category]) ⟨Nat.le_of_ble_eq_true rfl, Nat.le_of_ble_eq_true rfl⟩ ⟨(by decide), (by decide)⟩ dX7_folded_159 ?_
                refine k_goto (tgt := 178) C dX7_folded_162 (by decide) ?_
                exact k_iret C zr zlk ⟨fw1, fv1, (by rw [show n = i by omega, hag, agR_m hw]; (repeat' split) <;> first | rfl | (exfalso; omega)), rfl⟩ (Nat.le_refl _) (Nat.le_refl _) dX7_folded_178
            · skip
              have b140 : ¬ w ≤ 1 := fun z => c140 ((nI_leI (a := w) (b := 1) (by omega) (by omega)).mpr z)
              refine k_iload C dX7_folded_143 1 rfl ?_
              refine k_if_ne (tgt := 151) C dX7_folded_145 (by decide) (fun c145 => ?_) (fun c145 => ?_)
              · skip
                have b145 : ¬ ct = 0 := fun z => c145 ((nI_eq (a := ct) (b := 0) (by omega) (by omega)).mpr z)
                refine k_iload C dX7_folded_151 10 rfl ?_
                refine k_iconst (v := nI 1) C dX7_folded_153 rfl ?_
                refine k_icmp_ne (tgt := 165) C dX7_folded_154 (by decide) (fun c154 => ?_) (fun c154 => ?_)
                · skip
                  have b154 : ¬ w = 1 := fun z => c154 ((nI_eq (a := w) (b := 1) (by omega) (by omega)).mpr z)
                  refine k_iload C dX7_folded_165 10 rfl ?_
                  refine k_iconst (v := nI 2) C dX7_folded_167 rfl ?_
                  refine k_icmp_ne (tgt := 176) C dX7_folded_168 (by decide) (fun c168 => ?_) (fun c168 => ?_)
                  · skip
                    have b168 : ¬ w = 2 := fun z => c168 ((nI_eq (a := w) (b := 2) (by omega) (by omega)).mpr z)
                    refine k_iload C dX7_folded_176 5 rfl ?_
                    exact k_iret C zr zlk ⟨fw1, fv1, (by rw [show n = i by omega, hag, agR_m hw]; (repeat' split) <;> first | rfl | (exfalso; omega)), rfl⟩ (Nat.le_refl _) (Nat.le_refl _) dX7_folded_178
                  · skip
                    have b168 : w = 2 := (nI_eq (a := w) (b := 2) (by omega) (by omega)).mp c168
                    refine k_iload C dX7_folded_171 4 rfl ?_
                    refine k_goto (tgt := 178) C dX7_folded_173 (by decide) ?_
                    exact k_iret C zr zlk ⟨fw1, fv1, (by rw [show n = i by omega, hag, agR_m hw]; (repeat' split) <;> first | rfl | (exfalso; omega)), rfl⟩ (Nat.le_refl _) (Nat.le_refl _) dX7_folded_178
                · skip
                  have b154 : w = 1 := (nI_eq (a := w) (b := 1) (by omega) (by omega)).mp c154
                  refine k_lload C dX7_folded_157 3 rfl ?_
                  refine k_callS_pi C ms_7_74 (c_X7_bounded   ) rfl rfl (by simp [Value.category]) ⟨Nat.le_of_ble_eq_true rfl, Nat.le_of_ble_eq_true rfl⟩ ⟨(by decide), (by decide)⟩ dX7_folded_159 ?_
                  refine k_goto (tgt := 178) C dX7_folded_162 (by decide) ?_
                  exact k_iret C zr zlk ⟨fw1, fv1, (by rw [show n = i by omega, hag, agR_m hw]; (repeat' split) <;> first | rfl | (exfalso; omega)), rfl⟩ (Nat.le_refl _) (Nat.le_refl _) dX7_folded_178
              · skip
                have b145 : ct = 0 := (nI_eq (a := ct) (b := 0) (by omega) (by omega)).mp c145
                refine k_ldc (v := (-2147483648)) C wd_784 dX7_folded_148 ?_
                exact k_iret C zr zlk ⟨fw1, fv1, (by rw [show n = i by omega, hag, agR_m hw]; (repeat' split) <;> first | rfl | (exfalso; omega)), rfl⟩ (Nat.le_refl _) (Nat.le_refl _) dX7_folded_150
        · skip
          have b126 : w = 0 := (nI_eq (a := w) (b := 0) (by omega) (by omega)).mp c126
          refine k_iload C dX7_folded_129 1 rfl ?_
          exact k_iret C zr zlk ⟨fw1, fv1, (by rw [show n = i by omega, hag, agR_m hw]; (repeat' split) <;> first | rfl | (exfalso; omega)), rfl⟩ (Nat.le_refl _) (Nat.le_refl _) dX7_folded_131
      · skip
        have b28 : ¬ n ≤ i := fun z => c28 ((nI_leI (a := n) (b := i) (by omega) (by omega)).mpr z)
        refine k_aload_n C dX7_folded_31 rfl 6 rfl ?_
        refine k_iload_n C dX7_folded_32 rfl 7 rfl ?_
        refine k_iload C dX7_folded_33 0 rfl ?_
        refine k_iload_n C dX7_folded_35 rfl 7 rfl ?_
        refine k_iload_n C dX7_folded_36 rfl 8 rfl ?_
        refine k_iload_n C dX7_folded_37 rfl 9 rfl ?_
        have ne6 : nq wr wn := gv_ne h_wn h_wr (by simp)
        have ne7 : nq wr wv := gv_ne h_wv h_wr (by simp)
        refine k_callV_pi C mv_7_130 (c_X7_alike  ((gv_up_n ne3).trans ((gv_up_n ne2).trans h_m)) ((gv_up_n ne7).trans ((gv_up_n ne6).trans h_wr)) (by first | assumption | omega) (by omega) (by first | assumption | omega) (by omega)) ((gv_up_n ne3).trans ((gv_up_n ne2).trans h_m)) rfl rfl (by simp [Value.category]) ⟨Nat.le_of_ble_eq_true rfl, Nat.le_of_ble_eq_true rfl⟩ ⟨(by decide), (by decide)⟩ dX7_folded_38 ?_
        refine k_if_ne (tgt := 47) C dX7_folded_41 (by decide) (fun c41 => ?_) (fun c41 => ?_)
        · skip
          have b41 : (lik st (rwf (tbl fr t) i) (rwf (tbl fr t) f0)) = true := bI_n.mp c41
          have hal : lik st (rowAt A i) (rowAt A f0) = true := by rw [← lik_c (hA.at (by omega)) (hA.at (by omega))]; exact b41
          refine k_aload_n C dX7_folded_47 rfl 6 rfl ?_
          refine k_iload_n C dX7_folded_48 rfl 7 rfl ?_
          refine k_iload C dX7_folded_49 0 rfl ?_
          have ne8 : nq wn wv := gv_ne h_wv h_wn (by simp)
          refine k_callV C mv_7_101 (c_X7_take  ((gv_up_n ne3).trans ((gv_up_n ne2).trans h_m)) ((gv_up_n ne7).trans ((gv_up_n ne6).trans h_wr)) ((gv_up_n ne8).trans gv_up_s) (by first | assumption | omega) (by omega)) ((gv_up_n ne3).trans ((gv_up_n ne2).trans h_m)) rfl rfl (by simp [Value.category]) ⟨Nat.le_of_ble_eq_true rfl, Nat.le_of_ble_eq_true rfl⟩ ⟨(by decide), (by decide)⟩ dX7_folded_51 (fun zv zV zh => ?_)
          obtain ⟨fw1_w9, rfl, rfl, hw1_w9⟩ := zh
          refine k_pc (pc' := 54) (st' := []) rfl rfl ?_
          refine k_view (V1 := gv_up (gv_up V wn (.inl (cI, 6, .inl fw1_w9))) wv (.inl (cI, 30, .inl fv1))) ((gv_uc ne8).trans (congrArg (fun W => gv_up W wv (.inl (cI, 30, .inl fv1))) gv_uu)) ?_
          have htk := hw1_w9.tr (hA.at (i := i) (by omega))
          refine k_aload_n C dX7_folded_54 rfl 6 rfl ?_
          refine k_iload C dX7_folded_55 11 rfl ?_
          have ne10 : nq wa wn := gv_ne h_wn h_wa (by simp)
          have ne11 : nq wa wv := gv_ne h_wv h_wa (by simp)
          refine k_callV C mv_7_81 (c_X7_valueOf  ((gv_up_n ne3).trans ((gv_up_n ne2).trans h_m)) ((gv_up_n ne11).trans ((gv_up_n ne10).trans h_wa)) gv_up_s ((gv_up_n ne8).trans gv_up_s) (by first | assumption | omega) (by first | assumption | omega)) ((gv_up_n ne3).trans ((gv_up_n ne2).trans h_m)) rfl rfl (by simp [Value.category]) ⟨Nat.le_of_ble_eq_true rfl, Nat.le_of_ble_eq_true rfl⟩ ⟨(by decide), (by decide)⟩ dX7_folded_57 (fun zv zV zh => ?_)
          obtain ⟨fv1_w12, rfl, rfl⟩ := zh
          refine k_pc (pc' := 60) (st' := .int (ev E fw1_w9 e) :: []) rfl rfl ?_
          refine k_view (V1 := gv_up (gv_up V wn (.inl (cI, 6, .inl fw1_w9))) wv (.inl (cI, 30, .inl fv1_w12))) gv_uu ?_
          have hev : ev E fw1_w9 e = ev E (rowAt A i) e := hM.c he htk
          refine k_istore (lv' := [(13, .int (ev E fw1_w9 e)), (12, .int (nI i)), (6, .int (nI ct)), (7, .int (bI wb)), (8, .long sm), (10, .int ls), (11, .int ms), (0, .ref m), (1, .int (nI t)), (2, .int (nI f0)), (3, .int st), (4, .int (nI w)), (5, .int (nI e))]) C dX7_folded_60 (by decide) rfl ?_
          refine k_iload C dX7_folded_62 0 rfl ?_
          refine k_ldc (v := (-2147483648)) C wd_784 dX7_folded_64 ?_
          refine k_icmp_ne (tgt := 75) C dX7_folded_66 (by decide) (fun c66 => ?_) (fun c66 => ?_)
          · skip
            have hv : ¬ ev E (rowAt A i) e = oE := fun h => c66 (hev.trans h)
            refine k_iinc (v := nI (ct + 1)) (lv' := [(6, .int (nI (ct + 1))), (13, .int (ev E fw1_w9 e)), (12, .int (nI i)), (7, .int (bI wb)), (8, .long sm), (10, .int ls), (11, .int ms), (0, .ref m), (1, .int (nI t)), (2, .int (nI f0)), (3, .int st), (4, .int (nI w)), (5, .int (nI e))]) C dX7_folded_75 (k := 2) rfl (nI_add ct 1) (by decide) rfl ?_
            refine k_lload C dX7_folded_78 4 rfl ?_
            refine k_iload C dX7_folded_80 1 rfl ?_
            refine k_i2l C dX7_folded_82 rfl ?_
            refine k_ladd C dX7_folded_83 ?_
            refine k_lstore (lv' := [(8, .long (sm + ((ev E fw1_w9 e).toInt64))), (6, .int (nI (ct + 1))), (13, .int (ev E fw1_w9 e)), (12, .int (nI i)), (7, .int (bI wb)), (10, .int ls), (11, .int ms), (0, .ref m), (1, .int (nI t)), (2, .int (nI f0)), (3, .int st), (4, .int (nI w)), (5, .int (nI e))]) C dX7_folded_84 (by decide) rfl ?_
            refine k_iload C dX7_folded_86 2 rfl ?_
            refine k_iload C dX7_folded_88 5 rfl ?_
            refine k_icmp_ge (tgt := 98) C dX7_folded_90 (by decide) (fun c90 => ?_) (fun c90 => ?_)
            · skip
              refine k_iload C dX7_folded_98 5 rfl ?_
              refine k_istore (lv' := [(10, .int ls), (8, .long (sm + ((ev E fw1_w9 e).toInt64))), (6, .int (nI (ct + 1))), (13, .int (ev E fw1_w9 e)), (12, .int (nI i)), (7, .int (bI wb)), (11, .int ms), (0, .ref m), (1, .int (nI t)), (2, .int (nI f0)), (3, .int st), (4, .int (nI w)), (5, .int (nI e))]) C dX7_folded_100 (by decide) rfl ?_
              refine k_iload C dX7_folded_102 3 rfl ?_
              refine k_iload C dX7_folded_104 6 rfl ?_
              refine k_icmp_le (tgt := 114) C dX7_folded_106 (by decide) (fun c106 => ?_) (fun c106 => ?_)
              · skip
                refine k_iload C dX7_folded_114 6 rfl ?_
                refine k_istore (lv' := [(11, .int ms), (10, .int ls), (8, .long (sm + ((ev E fw1_w9 e).toInt64))), (6, .int (nI (ct + 1))), (13, .int (ev E fw1_w9 e)), (12, .int (nI i)), (7, .int (bI wb)), (0, .ref m), (1, .int (nI t)), (2, .int (nI f0)), (3, .int st), (4, .int (nI w)), (5, .int (nI e))]) C dX7_folded_116 (by decide) rfl ?_
                refine k_iinc (v := nI (i + 1)) (lv' := [(12, .int (nI (i + 1))), (11, .int ms), (10, .int ls), (8, .long (sm + ((ev E fw1_w9 e).toInt64))), (6, .int (nI (ct + 1))), (13, .int (ev E fw1_w9 e)), (7, .int (bI wb)), (0, .ref m), (1, .int (nI t)), (2, .int (nI f0)), (3, .int st), (4, .int (nI w)), (5, .int (nI e))]) C dX7_folded_118 (k := 5) rfl (nI_add i 1) (by decide) rfl ?_
                refine k_goto (tgt := 20) C dX7_folded_121 (by decide) ?_
                refine k_sub [0, 4, 6, 3, 2, 1, 7, 8, 9, 10, 11, 12] (lv' := [(12, .int (nI (i + 1))), (6, .int (nI (ct + 1))), (7, .int (bI wb)), (8, .long (sm + ((ev E fw1_w9 e).toInt64))), (10, .int ls), (11, .int ms), (0, .ref m), (1, .int (nI t)), (2, .int (nI f0)), (3, .int st), (4, .int (nI w)), (5, .int (nI e))]) rfl ?_
                exact ih20 (i + 1) es (ct + 1) (sm + ((ev E fw1_w9 e).toInt64)) ls ms wb fw1_w9 fv1_w12 (by omega)  (by omega) (by simp only [agF]; rw [if_pos hal, hag]; unfold agN; rw [if_neg hv, ← hev]; (first | rw [if_neg (Int32.not_lt.mpr c90)] | rw [if_pos (Int32.not_le.mp c90)]); (first | rw [if_neg (Int32.not_lt.mpr c106)] | rw [if_pos (Int32.not_le.mp c106)])) hwb (by omega)
              · skip
                refine k_iload C dX7_folded_109 3 rfl ?_
                refine k_goto (tgt := 116) C dX7_folded_111 (by decide) ?_
                refine k_istore (lv' := [(11, .int (ev E fw1_w9 e)), (10, .int ls), (8, .long (sm + ((ev E fw1_w9 e).toInt64))), (6, .int (nI (ct + 1))), (13, .int (ev E fw1_w9 e)), (12, .int (nI i)), (7, .int (bI wb)), (0, .ref m), (1, .int (nI t)), (2, .int (nI f0)), (3, .int st), (4, .int (nI w)), (5, .int (nI e))]) C dX7_folded_116 (by decide) rfl ?_
                refine k_iinc (v := nI (i + 1)) (lv' := [(12, .int (nI (i + 1))), (11, .int (ev E fw1_w9 e)), (10, .int ls), (8, .long (sm + ((ev E fw1_w9 e).toInt64))), (6, .int (nI (ct + 1))), (13, .int (ev E fw1_w9 e)), (7, .int (bI wb)), (0, .ref m), (1, .int (nI t)), (2, .int (nI f0)), (3, .int st), (4, .int (nI w)), (5, .int (nI e))]) C dX7_folded_118 (k := 5) rfl (nI_add i 1) (by decide) rfl ?_
                refine k_goto (tgt := 20) C dX7_folded_121 (by decide) ?_
                refine k_sub [0, 4, 6, 3, 2, 1, 7, 8, 9, 10, 11, 12] (lv' := [(12, .int (nI (i + 1))), (6, .int (nI (ct + 1))), (7, .int (bI wb)), (8, .long (sm + ((ev E fw1_w9 e).toInt64))), (10, .int ls), (11, .int (ev E fw1_w9 e)), (0, .ref m), (1, .int (nI t)), (2, .int (nI f0)), (3, .int st), (4, .int (nI w)), (5, .int (nI e))]) rfl ?_
                exact ih20 (i + 1) es (ct + 1) (sm + ((ev E fw1_w9 e).toInt64)) ls (ev E fw1_w9 e) wb fw1_w9 fv1_w12 (by omega)  (by omega) (by simp only [agF]; rw [if_pos hal, hag]; unfold agN; rw [if_neg hv, ← hev]; (first | rw [if_neg (Int32.not_lt.mpr c90)] | rw [if_pos (Int32.not_le.mp c90)]); (first | rw [if_neg (Int32.not_lt.mpr c106)] | rw [if_pos (Int32.not_le.mp c106)])) hwb (by omega)
            · skip
              refine k_iload C dX7_folded_93 2 rfl ?_
              refine k_goto (tgt := 100) C dX7_folded_95 (by decide) ?_
              refine k_istore (lv' := [(10, .int (ev E fw1_w9 e)), (8, .long (sm + ((ev E fw1_w9 e).toInt64))), (6, .int (nI (ct + 1))), (13, .int (ev E fw1_w9 e)), (12, .int (nI i)), (7, .int (bI wb)), (11, .int ms), (0, .ref m), (1, .int (nI t)), (2, .int (nI f0)), (3, .int st), (4, .int (nI w)), (5, .int (nI e))]) C dX7_folded_100 (by decide) rfl ?_
              refine k_iload C dX7_folded_102 3 rfl ?_
              refine k_iload C dX7_folded_104 6 rfl ?_
              refine k_icmp_le (tgt := 114) C dX7_folded_106 (by decide) (fun c106 => ?_) (fun c106 => ?_)
              · skip
                refine k_iload C dX7_folded_114 6 rfl ?_
                refine k_istore (lv' := [(11, .int ms), (10, .int (ev E fw1_w9 e)), (8, .long (sm + ((ev E fw1_w9 e).toInt64))), (6, .int (nI (ct + 1))), (13, .int (ev E fw1_w9 e)), (12, .int (nI i)), (7, .int (bI wb)), (0, .ref m), (1, .int (nI t)), (2, .int (nI f0)), (3, .int st), (4, .int (nI w)), (5, .int (nI e))]) C dX7_folded_116 (by decide) rfl ?_
                refine k_iinc (v := nI (i + 1)) (lv' := [(12, .int (nI (i + 1))), (11, .int ms), (10, .int (ev E fw1_w9 e)), (8, .long (sm + ((ev E fw1_w9 e).toInt64))), (6, .int (nI (ct + 1))), (13, .int (ev E fw1_w9 e)), (7, .int (bI wb)), (0, .ref m), (1, .int (nI t)), (2, .int (nI f0)), (3, .int st), (4, .int (nI w)), (5, .int (nI e))]) C dX7_folded_118 (k := 5) rfl (nI_add i 1) (by decide) rfl ?_
                refine k_goto (tgt := 20) C dX7_folded_121 (by decide) ?_
                refine k_sub [0, 4, 6, 3, 2, 1, 7, 8, 9, 10, 11, 12] (lv' := [(12, .int (nI (i + 1))), (6, .int (nI (ct + 1))), (7, .int (bI wb)), (8, .long (sm + ((ev E fw1_w9 e).toInt64))), (10, .int (ev E fw1_w9 e)), (11, .int ms), (0, .ref m), (1, .int (nI t)), (2, .int (nI f0)), (3, .int st), (4, .int (nI w)), (5, .int (nI e))]) rfl ?_
                exact ih20 (i + 1) es (ct + 1) (sm + ((ev E fw1_w9 e).toInt64)) (ev E fw1_w9 e) ms wb fw1_w9 fv1_w12 (by omega)  (by omega) (by simp only [agF]; rw [if_pos hal, hag]; unfold agN; rw [if_neg hv, ← hev]; (first | rw [if_neg (Int32.not_lt.mpr c90)] | rw [if_pos (Int32.not_le.mp c90)]); (first | rw [if_neg (Int32.not_lt.mpr c106)] | rw [if_pos (Int32.not_le.mp c106)])) hwb (by omega)
              · skip
                refine k_iload C dX7_folded_109 3 rfl ?_
                refine k_goto (tgt := 116) C dX7_folded_111 (by decide) ?_
                refine k_istore (lv' := [(11, .int (ev E fw1_w9 e)), (10, .int (ev E fw1_w9 e)), (8, .long (sm + ((ev E fw1_w9 e).toInt64))), (6, .int (nI (ct + 1))), (13, .int (ev E fw1_w9 e)), (12, .int (nI i)), (7, .int (bI wb)), (0, .ref m), (1, .int (nI t)), (2, .int (nI f0)), (3, .int st), (4, .int (nI w)), (5, .int (nI e))]) C dX7_folded_116 (by decide) rfl ?_
                refine k_iinc (v := nI (i + 1)) (lv' := [(12, .int (nI (i + 1))), (11, .int (ev E fw1_w9 e)), (10, .int (ev E fw1_w9 e)), (8, .long (sm + ((ev E fw1_w9 e).toInt64))), (6, .int (nI (ct + 1))), (13, .int (ev E fw1_w9 e)), (7, .int (bI wb)), (0, .ref m), (1, .int (nI t)), (2, .int (nI f0)), (3, .int st), (4, .int (nI w)), (5, .int (nI e))]) C dX7_folded_118 (k := 5) rfl (nI_add i 1) (by decide) rfl ?_
                refine k_goto (tgt := 20) C dX7_folded_121 (by decide) ?_
                refine k_sub [0, 4, 6, 3, 2, 1, 7, 8, 9, 10, 11, 12] (lv' := [(12, .int (nI (i + 1))), (6, .int (nI (ct + 1))), (7, .int (bI wb)), (8, .long (sm + ((ev E fw1_w9 e).toInt64))), (10, .int (ev E fw1_w9 e)), (11, .int (ev E fw1_w9 e)), (0, .ref m), (1, .int (nI t)), (2, .int (nI f0)), (3, .int st), (4, .int (nI w)), (5, .int (nI e))]) rfl ?_
                exact ih20 (i + 1) es (ct + 1) (sm + ((ev E fw1_w9 e).toInt64)) (ev E fw1_w9 e) (ev E fw1_w9 e) wb fw1_w9 fv1_w12 (by omega)  (by omega) (by simp only [agF]; rw [if_pos hal, hag]; unfold agN; rw [if_neg hv, ← hev]; (first | rw [if_neg (Int32.not_lt.mpr c90)] | rw [if_pos (Int32.not_le.mp c90)]); (first | rw [if_neg (Int32.not_lt.mpr c106)] | rw [if_pos (Int32.not_le.mp c106)])) hwb (by omega)
          · skip
            have hv : ev E (rowAt A i) e = oE := hev ▸ c66
            refine k_iconst (v := nI 1) C dX7_folded_69 rfl ?_
            refine k_istore (lv' := [(7, .int (nI 1)), (13, .int (ev E fw1_w9 e)), (12, .int (nI i)), (6, .int (nI ct)), (8, .long sm), (10, .int ls), (11, .int ms), (0, .ref m), (1, .int (nI t)), (2, .int (nI f0)), (3, .int st), (4, .int (nI w)), (5, .int (nI e))]) C dX7_folded_70 (by decide) rfl ?_
            refine k_goto (tgt := 118) C dX7_folded_72 (by decide) ?_
            refine k_iinc (v := nI (i + 1)) (lv' := [(12, .int (nI (i + 1))), (7, .int (nI 1)), (13, .int (ev E fw1_w9 e)), (6, .int (nI ct)), (8, .long sm), (10, .int ls), (11, .int ms), (0, .ref m), (1, .int (nI t)), (2, .int (nI f0)), (3, .int st), (4, .int (nI w)), (5, .int (nI e))]) C dX7_folded_118 (k := 2) rfl (nI_add i 1) (by decide) rfl ?_
            refine k_goto (tgt := 20) C dX7_folded_121 (by decide) ?_
            refine k_lve (lv' := [(12, .int (nI (i + 1))), (7, .int (bI true)), (13, .int (ev E fw1_w9 e)), (6, .int (nI ct)), (8, .long sm), (10, .int ls), (11, .int ms), (0, .ref m), (1, .int (nI t)), (2, .int (nI f0)), (3, .int st), (4, .int (nI w)), (5, .int (nI e))]) rfl ?_
            refine k_sub [0, 3, 1, 4, 5, 6, 7, 8, 9, 10, 11, 12] (lv' := [(12, .int (nI (i + 1))), (6, .int (nI ct)), (7, .int (bI true)), (8, .long sm), (10, .int ls), (11, .int ms), (0, .ref m), (1, .int (nI t)), (2, .int (nI f0)), (3, .int st), (4, .int (nI w)), (5, .int (nI e))]) rfl ?_
            exact ih20 (i + 1) (es + 1) ct sm ls ms true fw1_w9 fv1_w12 (by omega)  (by omega) (by simp only [agF]; rw [if_pos hal, hag]; unfold agN; rw [if_pos hv]) (decide_eq_true (by omega)).symm (by omega)
        · skip
          have b41 : (lik st (rwf (tbl fr t) i) (rwf (tbl fr t) f0)) = false := bI_0.mp c41
          have hal : lik st (rowAt A i) (rowAt A f0) = false := by rw [← lik_c (hA.at (by omega)) (hA.at (by omega))]; exact b41
          refine k_goto (tgt := 118) C dX7_folded_44 (by decide) ?_
          refine k_iinc (v := nI (i + 1)) (lv' := [(12, .int (nI (i + 1))), (6, .int (nI ct)), (7, .int (bI wb)), (8, .long sm), (10, .int ls), (11, .int ms), (0, .ref m), (1, .int (nI t)), (2, .int (nI f0)), (3, .int st), (4, .int (nI w)), (5, .int (nI e))]) C dX7_folded_118 (k := 0) rfl (nI_add i 1) (by decide) rfl ?_
          refine k_goto (tgt := 20) C dX7_folded_121 (by decide) ?_
          exact ih20 (i + 1) es ct sm ls ms wb fw1 fv1 (by omega)  (by omega) (by simp only [agF]; rw [if_neg (by rw [hal]; decide), hag]) hwb (by omega)
  refine k_lve (lv' := [(12, .int (nI 0)), (11, .int (-1000000000 : Int32)), (10, .int (1000000000 : Int32)), (8, .long (0 : Int64)), (7, .int (bI false)), (6, .int (nI 0)), (0, .ref m), (1, .int (nI t)), (2, .int (nI f0)), (3, .int st), (4, .int (nI w)), (5, .int (nI e))]) rfl ?_
  refine k_sub [0, 5, 4, 3, 2, 1, 6, 7, 8, 9, 10, 11] (lv' := [(12, .int (nI 0)), (6, .int (nI 0)), (7, .int (bI false)), (8, .long (0 : Int64)), (10, .int (1000000000 : Int32)), (11, .int (-1000000000 : Int32)), (0, .ref m), (1, .int (nI t)), (2, .int (nI f0)), (3, .int st), (4, .int (nI w)), (5, .int (nI e))]) rfl ?_
  refine k_view (V1 := gv_up V wn (.inl (cI, 6, .inl fw))) (gv_id h_wn).symm ?_
  have ne13 : nq wv wn := gv_ne h_wn h_wv (by simp)
  refine k_view (V1 := gv_up (gv_up V wn (.inl (cI, 6, .inl fw))) wv (.inl (cI, 30, .inl fv))) (gv_id ((gv_up_n ne13).trans h_wv)).symm ?_
  exact L20 _ 0 0 0 0 1000000000 (-1000000000) false fw fv (Nat.lt_succ_self _)  (by omega) rfl rfl (by omega)
set_option maxHeartbeats 4000000 in
set_option maxRecDepth 100000 in
theorem c_X7_reckonGroup {zl : Launch} {D : va_G} {cI cN cR : ClassId} {base : Nat} {V : gv_V} {m wt wa wv wm wr wc wn ws wk wp nt ne nn sh : Nat} {kn : Int32} {fa fv fm fr fc fw : Nat → Int32} {to t n : Nat} {A : List Row} {E : Nat → Ex} {e w vv i0 : Nat} {st : Int32}  (h_m : V m = some (.inr (7, [.int (nI nt), .ref wt, .int (nI ne), .ref wa, .ref wv, .int (nI nn), .ref wm, .int kn, .ref wr, .ref wc, .ref wn, .int (nI sh), .ref ws, .ref wk, .ref wp]))) (h_wr : V wr = some (.inl (cI, 57600, .inl fr))) (h_wc : V wc = some (.inl (cI, 120, .inl fc))) (h_wn : V wn = some (.inl (cI, 6, .inl fw))) (h_wv : V wv = some (.inl (cI, 30, .inl fv))) (h_wa : V wa = some (.inl (cI, 90, .inl fa))) (h_wm : V wm = some (.inl (cI, 180, .inl fm))) (hto : to < 120) (hA : Tab A n (tbl fr t)) (hcA : fc t = nI n) (hta : ¬ t = to) (ht : t < 120) (hM : MA E ne fa) (he : e < ne) (hw : w < 4) (hvv : vv < 6) (hi0 : i0 < 30) (hm2 : fm (6 * i0 + 2) = st) (hm3 : fm (6 * i0 + 3) = nI w) (hm4 : fm (6 * i0 + 4) = nI e) (hm5 : fm (6 * i0 + 5) = nI vv) (hc0 : fc to = 0) : ct zl D [(cI, .int), (cN, .object "AlgebraTree$Node"), (cR, .object "AlgebraTree$Rows")] base yX7_reckonGroup cX7_reckonGroup 9 none 4 0 0 [.ref m, .int (nI to), .int (nI t), .int (nI (6 * i0))] V (fun zv zV => ∃ fr1 : Nat → Int32, ∃ fc1 : Nat → Int32, ∃ fw1 : Nat → Int32, ∃ fv1 : Nat → Int32, zv = none ∧ zV = gv_up (gv_up (gv_up (gv_up V wr (.inl (cI, 57600, .inl fr1))) wc (.inl (cI, 120, .inl fc1))) wn (.inl (cI, 6, .inl fw1))) wv (.inl (cI, 30, .inl fv1)) ∧ (MRep (groupL st (nI w) vv (fun x => ev E x e) A) (fc1 to) (tbl fr1 to)) ∧ (Kp to fc fr fc1 fr1)) := by
  refine ct_of "AlgebraTreeModel" rfl (by decide) (Nat.le_of_ble_eq_true rfl) ?_
  intro zp ze zs zm zargs zbelow zmeth zc C zr zlk znm
  refine k_pc (pc' := 0) (st' := []) rfl rfl ?_
  show K zp zl ze (gv_rm 4 0 0) zs zm zargs zbelow zmeth zc D base 9 (gv_E D [(cI, .int), (cN, .object "AlgebraTree$Node"), (cR, .object "AlgebraTree$Rows")] base zbelow zargs zs 0 0 (fun zv zV => ∃ fr1 : Nat → Int32, ∃ fc1 : Nat → Int32, ∃ fw1 : Nat → Int32, ∃ fv1 : Nat → Int32, zv = none ∧ zV = gv_up (gv_up (gv_up (gv_up V wr (.inl (cI, 57600, .inl fr1))) wc (.inl (cI, 120, .inl fc1))) wn (.inl (cI, 6, .inl fw1))) wv (.inl (cI, 30, .inl fv1)) ∧ (MRep (groupL st (nI w) vv (fun x => ev E x e) A) (fc1 to) (tbl fr1 to)) ∧ (Kp to fc fr fc1 fr1))) V 0 0 [(0, .ref m), (1, .int (nI to)), (2, .int (nI t)), (3, .int (nI (6 * i0)))] 0 []
  refine k_aload_n C dX7_reckonGroup_0 rfl 0 rfl ?_
  refine k_get (ci := 7) (k := 6) C fl_7_19 h_m rfl dX7_reckonGroup_1 ?_
  refine k_iload_n C dX7_reckonGroup_4 rfl 3 rfl ?_
  refine k_iconst (v := nI 2) C dX7_reckonGroup_5 rfl ?_
  refine k_iadd C dX7_reckonGroup_6 ?_
  refine k_val (y := nI ((6 * i0) + 2)) (nI_add (6 * i0) 2) ?_
  refine k_iald (v := fm ((6 * i0) + 2)) C 0 h_wm rfl (vp_in_nI (by omega) (by omega)) (by rw [nI_clamp (by omega)]) dX7_reckonGroup_7 ?_
  refine k_val (y := st) hm2 ?_
  refine k_istore (lv' := [(4, .int st), (0, .ref m), (1, .int (nI to)), (2, .int (nI t)), (3, .int (nI (6 * i0)))]) C dX7_reckonGroup_8 (by decide) rfl ?_
  refine k_iconst (v := nI 0) C dX7_reckonGroup_10 rfl ?_
  refine k_istore (lv' := [(5, .int (nI 0)), (4, .int st), (0, .ref m), (1, .int (nI to)), (2, .int (nI t)), (3, .int (nI (6 * i0)))]) C dX7_reckonGroup_11 (by decide) rfl ?_
  have L13 : ∀ (zn1 : Nat) (i : Nat) (fr1 : Nat → Int32) (fc1 : Nat → Int32) (fw1 : Nat → Int32) (fv1 : Nat → Int32), n + 1 - i < zn1 → (i ≤ n ∨ (n = 0 ∧ st = 0 ∧ i = 1)) → (MRep (grM st (fun y => gset vv (aggV st (nI w) (fun x => ev E x e) A y) y) A i) (fc1 to) (tbl fr1 to)) → (Kp to fc fr fc1 fr1) → K zp zl ze (gv_rm 4 0 0) zs zm zargs zbelow zmeth zc D base 9 (gv_E D [(cI, .int), (cN, .object "AlgebraTree$Node"), (cR, .object "AlgebraTree$Rows")] base zbelow zargs zs 0 0 (fun zv zV => ∃ fr1 : Nat → Int32, ∃ fc1 : Nat → Int32, ∃ fw1 : Nat → Int32, ∃ fv1 : Nat → Int32, zv = none ∧ zV = gv_up (gv_up (gv_up (gv_up V wr (.inl (cI, 57600, .inl fr1))) wc (.inl (cI, 120, .inl fc1))) wn (.inl (cI, 6, .inl fw1))) wv (.inl (cI, 30, .inl fv1)) ∧ (MRep (groupL st (nI w) vv (fun x => ev E x e) A) (fc1 to) (tbl fr1 to)) ∧ (Kp to fc fr fc1 fr1))) (gv_up (gv_up (gv_up (gv_up V wr (.inl (cI, 57600, .inl fr1))) wc (.inl (cI, 120, .inl fc1))) wn (.inl (cI, 6, .inl fw1))) wv (.inl (cI, 30, .inl fv1))) 0 0 [(5, .int (nI i)), (4, .int st), (0, .ref m), (1, .int (nI to)), (2, .int (nI t)), (3, .int (nI (6 * i0)))] 13 [] := by
    intro zn1
    induction zn1 with
    | zero => intro i fr1 fc1 fw1 fv1 hlt; exact absurd hlt (Nat.not_lt_zero _)
    | succ zn1 ih13 =>
      intro i fr1 fc1 fw1 fv1 hlt13  hi hR hK
      have hA2 := hA.2.1
      have hA3 := hA.1
      have hA1 := hA.kp hK hta
      have hc1 : fc1 t = nI n := (hK t hta).1.trans hcA
      have hne30 := hM.1
      have hi81 : i ≤ 81 := by omega
      refine k_iload C dX7_reckonGroup_13 0 rfl ?_
      refine k_aload_n C dX7_reckonGroup_15 rfl 2 rfl ?_
      have ne2 : nq m wr := gv_ne h_wr h_m (by simp)
      have ne3 : nq m wc := gv_ne h_wc h_m (by simp)
      have ne4 : nq m wn := gv_ne h_wn h_m (by simp)
      have ne5 : nq m wv := gv_ne h_wv h_m (by simp)
      refine k_get (ci := 7) (k := 9) C fl_7_26 ((gv_up_n ne5).trans ((gv_up_n ne4).trans ((gv_up_n ne3).trans ((gv_up_n ne2).trans h_m)))) rfl dX7_reckonGroup_16 ?_
      refine k_iload_n C dX7_reckonGroup_19 rfl 4 rfl ?_
      have ne6 : nq wc wn := gv_ne h_wn h_wc (by simp)
      have ne7 : nq wc wv := gv_ne h_wv h_wc (by simp)
      refine k_iald (v := fc1 t) C 0 ((gv_up_n ne7).trans ((gv_up_n ne6).trans gv_up_s)) rfl (vp_in_nI (by omega) (by omega)) (by rw [nI_clamp (by omega)]) dX7_reckonGroup_20 ?_
      refine k_val (y := nI n) hc1 ?_
      refine k_icmp_lt (tgt := 34) C dX7_reckonGroup_21 (by decide) (fun c21 => ?_) (fun c21 => ?_)
      · skip
        have b21 : i < n := (nI_ltI (a := i) (b := n) (by omega) (by omega)).mp c21
        refine k_iconst (v := nI 1) C dX7_reckonGroup_34 rfl ?_
        refine k_istore (lv' := [(6, .int (nI 1)), (5, .int (nI i)), (4, .int st), (0, .ref m), (1, .int (nI to)), (2, .int (nI t)), (3, .int (nI (6 * i0)))]) C dX7_reckonGroup_35 (by decide) rfl ?_
        refine k_iconst (v := nI 0) C dX7_reckonGroup_37 rfl ?_
        refine k_istore (lv' := [(7, .int (nI 0)), (6, .int (nI 1)), (5, .int (nI i)), (4, .int st), (0, .ref m), (1, .int (nI to)), (2, .int (nI t)), (3, .int (nI (6 * i0)))]) C dX7_reckonGroup_38 (by decide) rfl ?_
        have L40 : ∀ (zn8 : Nat) (j : Nat) (bg : Bool), i - j < zn8 → (j ≤ i) → (bg = al (fun j => !lik st (rowAt A i) (rowAt A j)) j) → K zp zl ze (gv_rm 4 0 0) zs zm zargs zbelow zmeth zc D base 9 (gv_E D [(cI, .int), (cN, .object "AlgebraTree$Node"), (cR, .object "AlgebraTree$Rows")] base zbelow zargs zs 0 0 (fun zv zV => ∃ fr1 : Nat → Int32, ∃ fc1 : Nat → Int32, ∃ fw1 : Nat → Int32, ∃ fv1 : Nat → Int32, zv = none ∧ zV = gv_up (gv_up (gv_up (gv_up V wr (.inl (cI, 57600, .inl fr1))) wc (.inl (cI, 120, .inl fc1))) wn (.inl (cI, 6, .inl fw1))) wv (.inl (cI, 30, .inl fv1)) ∧ (MRep (groupL st (nI w) vv (fun x => ev E x e) A) (fc1 to) (tbl fr1 to)) ∧ (Kp to fc fr fc1 fr1))) (gv_up (gv_up (gv_up (gv_up V wr (.inl (cI, 57600, .inl fr1))) wc (.inl (cI, 120, .inl fc1))) wn (.inl (cI, 6, .inl fw1))) wv (.inl (cI, 30, .inl fv1))) 0 0 [(7, .int (nI j)), (6, .int (bI bg)), (5, .int (nI i)), (4, .int st), (0, .ref m), (1, .int (nI to)), (2, .int (nI t)), (3, .int (nI (6 * i0)))] 40 [] := by
          intro zn8
          induction zn8 with
          | zero => intro j bg hlt; exact absurd hlt (Nat.not_lt_zero _)
          | succ zn8 ih40 =>
            intro j bg hlt40  hj hbg
            refine k_iload C dX7_reckonGroup_40 0 rfl ?_
            refine k_iload C dX7_reckonGroup_42 2 rfl ?_
            refine k_icmp_ge (tgt := 80) C dX7_reckonGroup_44 (by decide) (fun c44 => ?_) (fun c44 => ?_)
            · skip
              have b44 : i ≤ j := (nI_leI (a := i) (b := j) (by omega) (by omega)).mp c44
              have hnw : newR st A i = bg := by
                unfold newR
                cases hb : bg with
                | true => first | (rw [← hb, hbg, show j = i by omega]; done) | (rw [b49] at hb; cases hb)
                | false => exact al_ff (hbg.symm.trans hb) hj
              refine k_iload C dX7_reckonGroup_80 1 rfl ?_
              refine k_if_eq (tgt := 184) C dX7_reckonGroup_82 (by decide) (fun c82 => ?_) (fun c82 => ?_)
              · skip
                have b82 : bg = false := bI_0.mp c82
                have hnw := hnw.trans b82
                refine k_iinc (v := nI (i + 1)) (lv' := [(5, .int (nI (i + 1))), (7, .int (nI j)), (6, .int (bI bg)), (4, .int st), (0, .ref m), (1, .int (nI to)), (2, .int (nI t)), (3, .int (nI (6 * i0)))]) C dX7_reckonGroup_184 (k := 2) rfl (nI_add i 1) (by decide) rfl ?_
                refine k_goto (tgt := 13) C dX7_reckonGroup_187 (by decide) ?_
                refine k_sub [0, 3, 4, 5, 6, 7] (lv' := [(5, .int (nI (i + 1))), (4, .int st), (0, .ref m), (1, .int (nI to)), (2, .int (nI t)), (3, .int (nI (6 * i0)))]) rfl ?_
                exact ih13 (i + 1) fr1 fc1 fw1 fv1 (by omega)  (Or.inl (by omega)) (by rw [grM_n (by omega), if_neg (by rw [hnw]; decide), List.append_nil]; exact hR) hK
              · skip
                have b82 : bg = true := bI_n.mp c82
                have hnw := hnw.trans b82
                refine k_aload_n C dX7_reckonGroup_85 rfl 4 rfl ?_
                refine k_iload_n C dX7_reckonGroup_86 rfl 6 rfl ?_
                refine k_iload C dX7_reckonGroup_87 2 rfl ?_
                refine k_iload C dX7_reckonGroup_89 3 rfl ?_
                refine k_aload_n C dX7_reckonGroup_91 rfl 4 rfl ?_
                refine k_get (ci := 7) (k := 6) C fl_7_19 ((gv_up_n ne5).trans ((gv_up_n ne4).trans ((gv_up_n ne3).trans ((gv_up_n ne2).trans h_m)))) rfl dX7_reckonGroup_92 ?_
                refine k_iload_n C dX7_reckonGroup_95 rfl 7 rfl ?_
                refine k_iconst (v := nI 3) C dX7_reckonGroup_96 rfl ?_
                refine k_iadd C dX7_reckonGroup_97 ?_
                refine k_val (y := nI ((6 * i0) + 3)) (nI_add (6 * i0) 3) ?_
                have ne9 : nq wm wr := gv_ne h_wr h_wm (by simp)
                have ne10 : nq wm wc := gv_ne h_wc h_wm (by simp)
                have ne11 : nq wm wn := gv_ne h_wn h_wm (by simp)
                have ne12 : nq wm wv := gv_ne h_wv h_wm (by simp)
                refine k_iald (v := fm ((6 * i0) + 3)) C 0 ((gv_up_n ne12).trans ((gv_up_n ne11).trans ((gv_up_n ne10).trans ((gv_up_n ne9).trans h_wm)))) rfl (vp_in_nI (by omega) (by omega)) (by rw [nI_clamp (by omega)]) dX7_reckonGroup_98 ?_
                refine k_val (y := nI w) hm3 ?_
                refine k_aload_n C dX7_reckonGroup_99 rfl 4 rfl ?_
                refine k_get (ci := 7) (k := 6) C fl_7_19 ((gv_up_n ne5).trans ((gv_up_n ne4).trans ((gv_up_n ne3).trans ((gv_up_n ne2).trans h_m)))) rfl dX7_reckonGroup_100 ?_
                refine k_iload_n C dX7_reckonGroup_103 rfl 7 rfl ?_
                refine k_iconst (v := nI 4) C dX7_reckonGroup_104 rfl ?_
                refine k_iadd C dX7_reckonGroup_105 ?_
                refine k_val (y := nI ((6 * i0) + 4)) (nI_add (6 * i0) 4) ?_
                refine k_iald (v := fm ((6 * i0) + 4)) C 0 ((gv_up_n ne12).trans ((gv_up_n ne11).trans ((gv_up_n ne10).trans ((gv_up_n ne9).trans h_wm)))) rfl (vp_in_nI (by omega) (by omega)) (by rw [nI_clamp (by omega)]) dX7_reckonGroup_106 ?_
                refine k_val (y := nI e) hm4 ?_
                have ne13 : nq wr wc := gv_ne h_wc h_wr (by simp)
                have ne14 : nq wr wn := gv_ne h_wn h_wr (by simp)
                have ne15 : nq wr wv := gv_ne h_wv h_wr (by simp)
                have ne16 : nq wn wv := gv_ne h_wv h_wn (by simp)
                have ne17 : nq wa wr := gv_ne h_wr h_wa (by simp)
                have ne18 : nq wa wc := gv_ne h_wc h_wa (by simp)
                have ne19 : nq wa wn := gv_ne h_wn h_wa (by simp)
                have ne20 : nq wa wv := gv_ne h_wv h_wa (by simp)
                refine k_callV C mv_7_136 (c_X7_folded  ((gv_up_n ne5).trans ((gv_up_n ne4).trans ((gv_up_n ne3).trans ((gv_up_n ne2).trans h_m)))) ((gv_up_n ne15).trans ((gv_up_n ne14).trans ((gv_up_n ne13).trans gv_up_s))) ((gv_up_n ne7).trans ((gv_up_n ne6).trans gv_up_s)) ((gv_up_n ne16).trans gv_up_s) gv_up_s ((gv_up_n ne20).trans ((gv_up_n ne19).trans ((gv_up_n ne18).trans ((gv_up_n ne17).trans h_wa)))) hA1 hc1 (by first | assumption | omega) (by first | assumption | omega) hw hM he) ((gv_up_n ne5).trans ((gv_up_n ne4).trans ((gv_up_n ne3).trans ((gv_up_n ne2).trans h_m)))) rfl rfl (by simp [Value.category]) ⟨Nat.le_of_ble_eq_true rfl, Nat.le_of_ble_eq_true rfl⟩ ⟨(by decide), (by decide)⟩ dX7_reckonGroup_107 (fun zv zV zh => ?_)
                obtain ⟨fw1_w21, fv1_w21, rfl, rfl⟩ := zh
                refine k_pc (pc' := 110) (st' := .int (agR (nI w) (agF (fun z => lik st (rowAt A z) (rowAt A i)) (fun z => ev E (rowAt A z) e) n)) :: []) rfl rfl ?_
                refine k_view (V1 := gv_up (gv_up (gv_up (gv_up (gv_up V wr (.inl (cI, 57600, .inl fr1))) wc (.inl (cI, 120, .inl fc1))) wn (.inl (cI, 6, .inl fw1_w21))) wv (.inl (cI, 30, .inl fv1))) wv (.inl (cI, 30, .inl fv1_w21))) (congrArg (fun W => gv_up W wv (.inl (cI, 30, .inl fv1_w21))) ((gv_uc ne16).trans (congrArg (fun W => gv_up W wv (.inl (cI, 30, .inl fv1))) gv_uu))) ?_
                refine k_view (V1 := gv_up (gv_up (gv_up (gv_up V wr (.inl (cI, 57600, .inl fr1))) wc (.inl (cI, 120, .inl fc1))) wn (.inl (cI, 6, .inl fw1_w21))) wv (.inl (cI, 30, .inl fv1_w21))) gv_uu ?_
                refine k_istore (lv' := [(7, .int (agR (nI w) (agF (fun z => lik st (rowAt A z) (rowAt A i)) (fun z => ev E (rowAt A z) e) n))), (6, .int (bI bg)), (5, .int (nI i)), (4, .int st), (0, .ref m), (1, .int (nI to)), (2, .int (nI t)), (3, .int (nI (6 * i0)))]) C dX7_reckonGroup_110 (by decide) rfl ?_
                refine k_aload_n C dX7_reckonGroup_112 rfl 4 rfl ?_
                refine k_callV C mv_7_105 (c_X7_open  ((gv_up_n ne5).trans ((gv_up_n ne4).trans ((gv_up_n ne3).trans ((gv_up_n ne2).trans h_m)))) ((gv_up_n ne16).trans gv_up_s) ) ((gv_up_n ne5).trans ((gv_up_n ne4).trans ((gv_up_n ne3).trans ((gv_up_n ne2).trans h_m)))) rfl rfl (by simp [Value.category]) ⟨Nat.le_of_ble_eq_true rfl, Nat.le_of_ble_eq_true rfl⟩ ⟨(by decide), (by decide)⟩ dX7_reckonGroup_113 (fun zv zV zh => ?_)
                obtain ⟨fw1_w22, rfl, rfl, hw1_w22⟩ := zh
                refine k_pc (pc' := 116) (st' := []) rfl rfl ?_
                refine k_view (V1 := gv_up (gv_up (gv_up (gv_up V wr (.inl (cI, 57600, .inl fr1))) wc (.inl (cI, 120, .inl fc1))) wn (.inl (cI, 6, .inl fw1_w22))) wv (.inl (cI, 30, .inl fv1_w21))) ((gv_uc ne16).trans (congrArg (fun W => gv_up W wv (.inl (cI, 30, .inl fv1_w21))) gv_uu)) ?_
                refine k_iconst (v := nI 0) C dX7_reckonGroup_116 rfl ?_
                refine k_istore (lv' := [(8, .int (nI 0)), (7, .int (agR (nI w) (agF (fun z => lik st (rowAt A z) (rowAt A i)) (fun z => ev E (rowAt A z) e) n))), (6, .int (bI bg)), (5, .int (nI i)), (4, .int st), (0, .ref m), (1, .int (nI to)), (2, .int (nI t)), (3, .int (nI (6 * i0)))]) C dX7_reckonGroup_117 (by decide) rfl ?_
                have L119 : ∀ (zn23 : Nat) (k : Nat) (fw2 : Nat → Int32), 6 - k < zn23 → (k ≤ 6) → (∀ z, z < k → fw2 z = (prj st (rowAt A i)) z) → K zp zl ze (gv_rm 4 0 0) zs zm zargs zbelow zmeth zc D base 9 (gv_E D [(cI, .int), (cN, .object "AlgebraTree$Node"), (cR, .object "AlgebraTree$Rows")] base zbelow zargs zs 0 0 (fun zv zV => ∃ fr1 : Nat → Int32, ∃ fc1 : Nat → Int32, ∃ fw1 : Nat → Int32, ∃ fv1 : Nat → Int32, zv = none ∧ zV = gv_up (gv_up (gv_up (gv_up V wr (.inl (cI, 57600, .inl fr1))) wc (.inl (cI, 120, .inl fc1))) wn (.inl (cI, 6, .inl fw1))) wv (.inl (cI, 30, .inl fv1)) ∧ (MRep (groupL st (nI w) vv (fun x => ev E x e) A) (fc1 to) (tbl fr1 to)) ∧ (Kp to fc fr fc1 fr1))) (gv_up (gv_up (gv_up (gv_up V wr (.inl (cI, 57600, .inl fr1))) wc (.inl (cI, 120, .inl fc1))) wn (.inl (cI, 6, .inl fw2))) wv (.inl (cI, 30, .inl fv1_w21))) 0 0 [(8, .int (nI k)), (7, .int (agR (nI w) (agF (fun z => lik st (rowAt A z) (rowAt A i)) (fun z => ev E (rowAt A z) e) n))), (6, .int (bI bg)), (5, .int (nI i)), (4, .int st), (0, .ref m), (1, .int (nI to)), (2, .int (nI t)), (3, .int (nI (6 * i0)))] 119 [] := by
                  intro zn23
                  induction zn23 with
                  | zero => intro k fw2 hlt; exact absurd hlt (Nat.not_lt_zero _)
                  | succ zn23 ih119 =>
                    intro k fw2 hlt119  hk hal
                    refine k_iload C dX7_reckonGroup_119 0 rfl ?_
                    refine k_bipush (v := nI 6) C dX7_reckonGroup_121 rfl ?_
                    refine k_icmp_ge (tgt := 164) C dX7_reckonGroup_123 (by decide) (fun c123 => ?_) (fun c123 => ?_)
                    · skip
                      have b123 : 6 ≤ k := (nI_leI (a := 6) (b := k) (by omega) (by omega)).mp c123
                      refine k_aload_n C dX7_reckonGroup_164 rfl 5 rfl ?_
                      refine k_get (ci := 7) (k := 10) C fl_7_29 ((gv_up_n ne5).trans ((gv_up_n ne4).trans ((gv_up_n ne3).trans ((gv_up_n ne2).trans h_m)))) rfl dX7_reckonGroup_165 ?_
                      refine k_aload_n C dX7_reckonGroup_168 rfl 5 rfl ?_
                      refine k_get (ci := 7) (k := 6) C fl_7_19 ((gv_up_n ne5).trans ((gv_up_n ne4).trans ((gv_up_n ne3).trans ((gv_up_n ne2).trans h_m)))) rfl dX7_reckonGroup_169 ?_
                      refine k_iload_n C dX7_reckonGroup_172 rfl 8 rfl ?_
                      refine k_iconst (v := nI 5) C dX7_reckonGroup_173 rfl ?_
                      refine k_iadd C dX7_reckonGroup_174 ?_
                      refine k_val (y := nI ((6 * i0) + 5)) (nI_add (6 * i0) 5) ?_
                      refine k_iald (v := fm ((6 * i0) + 5)) C 0 ((gv_up_n ne12).trans ((gv_up_n ne11).trans ((gv_up_n ne10).trans ((gv_up_n ne9).trans h_wm)))) rfl (vp_in_nI (by omega) (by omega)) (by rw [nI_clamp (by omega)]) dX7_reckonGroup_175 ?_
                      refine k_val (y := nI vv) hm5 ?_
                      refine k_iload C dX7_reckonGroup_176 1 rfl ?_
                      refine k_iast (f' := upd fw2 vv (agR (nI w) (agF (fun z => lik st (rowAt A z) (rowAt A i)) (fun z => ev E (rowAt A z) e) n))) C 0 ((gv_up_n ne16).trans gv_up_s) rfl (vp_in_nI (by omega) (by omega)) (by rw [nI_clamp (by omega)]) dX7_reckonGroup_178 ?_
                      refine k_view (V1 := gv_up (gv_up (gv_up (gv_up V wr (.inl (cI, 57600, .inl fr1))) wc (.inl (cI, 120, .inl fc1))) wn (.inl (cI, 6, .inl (upd fw2 vv (agR (nI w) (agF (fun z => lik st (rowAt A z) (rowAt A i)) (fun z => ev E (rowAt A z) e) n)))))) wv (.inl (cI, 30, .inl fv1_w21))) ((gv_uc ne16).trans (congrArg (fun W => gv_up W wv (.inl (cI, 30, .inl fv1_w21))) gv_uu)) ?_
                      refine k_aload_n C dX7_reckonGroup_179 rfl 5 rfl ?_
                      refine k_iload_n C dX7_reckonGroup_180 rfl 6 rfl ?_
                      have hagg : agR (nI w) (agF (fun z => lik st (rowAt A z) (rowAt A i)) (fun z => ev E (rowAt A z) e) n) = aggV st (nI w) (fun x => ev E x e) A (prj st (rowAt A i)) := (by rw [hA3]; exact agg_m (kk := fun x => ev E x e) (fun z hz => by rw [lik_prj, lik_sym]))
                      refine k_callV C mv_7_112 (c_X7_add (r := gset vv (aggV st (nI w) (fun x => ev E x e) A (prj st (rowAt A i))) (prj st (rowAt A i))) ((gv_up_n ne5).trans ((gv_up_n ne4).trans ((gv_up_n ne3).trans ((gv_up_n ne2).trans h_m)))) ((gv_up_n ne15).trans ((gv_up_n ne14).trans ((gv_up_n ne13).trans gv_up_s))) ((gv_up_n ne7).trans ((gv_up_n ne6).trans gv_up_s)) ((gv_up_n ne16).trans gv_up_s) (by first | assumption | omega) hR (gset_w (r := (prj st (rowAt A i))) (fun z hz => hal z (by omega)) hagg)) ((gv_up_n ne5).trans ((gv_up_n ne4).trans ((gv_up_n ne3).trans ((gv_up_n ne2).trans h_m)))) rfl rfl (by simp [Value.category]) ⟨Nat.le_of_ble_eq_true rfl, Nat.le_of_ble_eq_true rfl⟩ ⟨(by decide), (by decide)⟩ dX7_reckonGroup_181 (fun zv zV zh => ?_)
                      obtain ⟨fc1_w24, fr1_w24, rfl, rfl, hR1_w24, hk1_w24⟩ := zh
                      refine k_pc (pc' := 184) (st' := []) rfl rfl ?_
                      refine k_view (V1 := gv_up (gv_up (gv_up (gv_up (gv_up V wr (.inl (cI, 57600, .inl fr1_w24))) wc (.inl (cI, 120, .inl fc1))) wn (.inl (cI, 6, .inl (upd fw2 vv (agR (nI w) (agF (fun z => lik st (rowAt A z) (rowAt A i)) (fun z => ev E (rowAt A z) e) n)))))) wv (.inl (cI, 30, .inl fv1_w21))) wc (.inl (cI, 120, .inl fc1_w24))) (congrArg (fun W => gv_up W wc (.inl (cI, 120, .inl fc1_w24))) ((gv_uc ne15).trans (congrArg (fun W => gv_up W wv (.inl (cI, 30, .inl fv1_w21))) ((gv_uc ne14).trans (congrArg (fun W => gv_up W wn (.inl (cI, 6, .inl (upd fw2 vv (agR (nI w) (agF (fun z => lik st (rowAt A z) (rowAt A i)) (fun z => ev E (rowAt A z) e) n)))))) ((gv_uc ne13).trans (congrArg (fun W => gv_up W wc (.inl (cI, 120, .inl fc1))) gv_uu))))))) ?_
                      refine k_view (V1 := gv_up (gv_up (gv_up (gv_up V wr (.inl (cI, 57600, .inl fr1_w24))) wc (.inl (cI, 120, .inl fc1_w24))) wn (.inl (cI, 6, .inl (upd fw2 vv (agR (nI w) (agF (fun z => lik st (rowAt A z) (rowAt A i)) (fun z => ev E (rowAt A z) e) n)))))) wv (.inl (cI, 30, .inl fv1_w21))) ((gv_uc ne7).trans (congrArg (fun W => gv_up W wv (.inl (cI, 30, .inl fv1_w21))) ((gv_uc ne6).trans (congrArg (fun W => gv_up W wn (.inl (cI, 6, .inl (upd fw2 vv (agR (nI w) (agF (fun z => lik st (rowAt A z) (rowAt A i)) (fun z => ev E (rowAt A z) e) n)))))) gv_uu)))) ?_
                      refine k_iinc (v := nI (i + 1)) (lv' := [(5, .int (nI (i + 1))), (8, .int (nI k)), (7, .int (agR (nI w) (agF (fun z => lik st (rowAt A z) (rowAt A i)) (fun z => ev E (rowAt A z) e) n))), (6, .int (bI bg)), (4, .int st), (0, .ref m), (1, .int (nI to)), (2, .int (nI t)), (3, .int (nI (6 * i0)))]) C dX7_reckonGroup_184 (k := 3) rfl (nI_add i 1) (by decide) rfl ?_
                      refine k_goto (tgt := 13) C dX7_reckonGroup_187 (by decide) ?_
                      refine k_sub [0, 4, 5, 6, 7, 8] (lv' := [(5, .int (nI (i + 1))), (4, .int st), (0, .ref m), (1, .int (nI to)), (2, .int (nI t)), (3, .int (nI (6 * i0)))]) rfl ?_
                      exact ih13 (i + 1) fr1_w24 fc1_w24 (upd fw2 vv (agR (nI w) (agF (fun z => lik st (rowAt A z) (rowAt A i)) (fun z => ev E (rowAt A z) e) n))) fv1_w21 (by omega)  (Or.inl (by omega)) (by rw [grM_n (by omega), if_pos hnw]; exact hR1_w24) (hK.tr hk1_w24)
                    · skip
                      have b123 : ¬ 6 ≤ k := fun z => c123 ((nI_leI (a := 6) (b := k) (by omega) (by omega)).mpr z)
                      refine k_aload_n C dX7_reckonGroup_126 rfl 5 rfl ?_
                      refine k_get (ci := 7) (k := 10) C fl_7_29 ((gv_up_n ne5).trans ((gv_up_n ne4).trans ((gv_up_n ne3).trans ((gv_up_n ne2).trans h_m)))) rfl dX7_reckonGroup_127 ?_
                      refine k_iload C dX7_reckonGroup_130 0 rfl ?_
                      refine k_iload C dX7_reckonGroup_132 4 rfl ?_
                      refine k_iload C dX7_reckonGroup_134 0 rfl ?_
                      refine k_ishr C dX7_reckonGroup_136 ?_
                      refine k_iconst (v := nI 1) C dX7_reckonGroup_137 rfl ?_
                      refine k_iand C dX7_reckonGroup_138 ?_
                      refine k_iconst (v := nI 1) C dX7_reckonGroup_139 rfl ?_
                      refine k_icmp_ne (tgt := 155) C dX7_reckonGroup_140 (by decide) (fun c140 => ?_) (fun c140 => ?_)
                      · skip
                        refine k_ldc (v := (-2147483648)) C wd_784 dX7_reckonGroup_155 ?_
                        refine k_iast (f' := upd fw2 k (-2147483648 : Int32)) C 0 ((gv_up_n ne16).trans gv_up_s) rfl (vp_in_nI (by omega) (by omega)) (by rw [nI_clamp (by omega)]) dX7_reckonGroup_157 ?_
                        refine k_view (V1 := gv_up (gv_up (gv_up (gv_up V wr (.inl (cI, 57600, .inl fr1))) wc (.inl (cI, 120, .inl fc1))) wn (.inl (cI, 6, .inl (upd fw2 k (-2147483648 : Int32))))) wv (.inl (cI, 30, .inl fv1_w21))) ((gv_uc ne16).trans (congrArg (fun W => gv_up W wv (.inl (cI, 30, .inl fv1_w21))) gv_uu)) ?_
                        refine k_iinc (v := nI (k + 1)) (lv' := [(8, .int (nI (k + 1))), (7, .int (agR (nI w) (agF (fun z => lik st (rowAt A z) (rowAt A i)) (fun z => ev E (rowAt A z) e) n))), (6, .int (bI bg)), (5, .int (nI i)), (4, .int st), (0, .ref m), (1, .int (nI to)), (2, .int (nI t)), (3, .int (nI (6 * i0)))]) C dX7_reckonGroup_158 (k := 0) rfl (nI_add k 1) (by decide) rfl ?_
                        refine k_goto (tgt := 119) C dX7_reckonGroup_161 (by decide) ?_
                        exact ih119 (k + 1) (upd fw2 k (-2147483648 : Int32)) (by omega)  (by omega) (upd_nx hal (by simp only [prj]; rw [if_neg (fun h => c140 (inS_1.mpr h))]))
                      · skip
                        refine k_aload_n C dX7_reckonGroup_143 rfl 5 rfl ?_
                        refine k_iload_n C dX7_reckonGroup_144 rfl 7 rfl ?_
                        refine k_iload C dX7_reckonGroup_145 3 rfl ?_
                        refine k_iload C dX7_reckonGroup_147 0 rfl ?_
                        refine k_callV_pi C mv_7_98 (c_X7_cell  ((gv_up_n ne5).trans ((gv_up_n ne4).trans ((gv_up_n ne3).trans ((gv_up_n ne2).trans h_m)))) ((gv_up_n ne15).trans ((gv_up_n ne14).trans ((gv_up_n ne13).trans gv_up_s))) (by first | assumption | omega) (by first | assumption | omega) (by first | assumption | omega)) ((gv_up_n ne5).trans ((gv_up_n ne4).trans ((gv_up_n ne3).trans ((gv_up_n ne2).trans h_m)))) rfl rfl (by simp [Value.category]) ⟨Nat.le_of_ble_eq_true rfl, Nat.le_of_ble_eq_true rfl⟩ ⟨(by decide), (by decide)⟩ dX7_reckonGroup_149 ?_
                        refine k_goto (tgt := 157) C dX7_reckonGroup_152 (by decide) ?_
                        refine k_iast (f' := upd fw2 k (rwf (tbl fr1 t) i k)) C 0 ((gv_up_n ne16).trans gv_up_s) rfl (vp_in_nI (by omega) (by omega)) (by rw [nI_clamp (by omega)]) dX7_reckonGroup_157 ?_
                        refine k_view (V1 := gv_up (gv_up (gv_up (gv_up V wr (.inl (cI, 57600, .inl fr1))) wc (.inl (cI, 120, .inl fc1))) wn (.inl (cI, 6, .inl (upd fw2 k (rwf (tbl fr1 t) i k))))) wv (.inl (cI, 30, .inl fv1_w21))) ((gv_uc ne16).trans (congrArg (fun W => gv_up W wv (.inl (cI, 30, .inl fv1_w21))) gv_uu)) ?_
                        refine k_iinc (v := nI (k + 1)) (lv' := [(8, .int (nI (k + 1))), (7, .int (agR (nI w) (agF (fun z => lik st (rowAt A z) (rowAt A i)) (fun z => ev E (rowAt A z) e) n))), (6, .int (bI bg)), (5, .int (nI i)), (4, .int st), (0, .ref m), (1, .int (nI to)), (2, .int (nI t)), (3, .int (nI (6 * i0)))]) C dX7_reckonGroup_158 (k := 0) rfl (nI_add k 1) (by decide) rfl ?_
                        refine k_goto (tgt := 119) C dX7_reckonGroup_161 (by decide) ?_
                        exact ih119 (k + 1) (upd fw2 k (rwf (tbl fr1 t) i k)) (by omega)  (by omega) (upd_nx hal (by simp only [prj]; rw [if_pos (inS_1.mp c140)]; exact hA1.at (by omega) k (by omega)))
                exact L119 _ 0 fw1_w22 (Nat.lt_succ_self _)  (by omega) (fun _ h => absurd h (Nat.not_lt_zero _))
            · skip
              have b44 : ¬ i ≤ j := fun z => c44 ((nI_leI (a := i) (b := j) (by omega) (by omega)).mpr z)
              refine k_iload C dX7_reckonGroup_47 1 rfl ?_
              refine k_if_eq (tgt := 80) C dX7_reckonGroup_49 (by decide) (fun c49 => ?_) (fun c49 => ?_)
              · skip
                have b49 : bg = false := bI_0.mp c49
                have hnw : newR st A i = bg := by
                  unfold newR
                  cases hb : bg with
                  | true => first | (rw [← hb, hbg, show j = i by omega]; done) | (rw [b49] at hb; cases hb)
                  | false => exact al_ff (hbg.symm.trans hb) hj
                refine k_iload C dX7_reckonGroup_80 1 rfl ?_
                refine k_if_eq (tgt := 184) C dX7_reckonGroup_82 (by decide) (fun c82 => ?_) (fun c82 => ?_)
                · skip
                  have b82 : bg = false := bI_0.mp c82
                  have hnw := hnw.trans b82
                  refine k_iinc (v := nI (i + 1)) (lv' := [(5, .int (nI (i + 1))), (7, .int (nI j)), (6, .int (bI bg)), (4, .int st), (0, .ref m), (1, .int (nI to)), (2, .int (nI t)), (3, .int (nI (6 * i0)))]) C dX7_reckonGroup_184 (k := 2) rfl (nI_add i 1) (by decide) rfl ?_
                  refine k_goto (tgt := 13) C dX7_reckonGroup_187 (by decide) ?_
                  refine k_sub [0, 3, 4, 5, 6, 7] (lv' := [(5, .int (nI (i + 1))), (4, .int st), (0, .ref m), (1, .int (nI to)), (2, .int (nI t)), (3, .int (nI (6 * i0)))]) rfl ?_
                  exact ih13 (i + 1) fr1 fc1 fw1 fv1 (by omega)  (Or.inl (by omega)) (by rw [grM_n (by omega), if_neg (by rw [hnw]; decide), List.append_nil]; exact hR) hK
                · skip
                  have b82 : bg = true := bI_n.mp c82
                  have hnw := hnw.trans b82
                  refine k_aload_n C dX7_reckonGroup_85 rfl 4 rfl ?_
                  refine k_iload_n C dX7_reckonGroup_86 rfl 6 rfl ?_
                  refine k_iload C dX7_reckonGroup_87 2 rfl ?_
                  refine k_iload C dX7_reckonGroup_89 3 rfl ?_
                  refine k_aload_n C dX7_reckonGroup_91 rfl 4 rfl ?_
                  refine k_get (ci := 7) (k := 6) C fl_7_19 ((gv_up_n ne5).trans ((gv_up_n ne4).trans ((gv_up_n ne3).trans ((gv_up_n ne2).trans h_m)))) rfl dX7_reckonGroup_92 ?_
                  refine k_iload_n C dX7_reckonGroup_95 rfl 7 rfl ?_
                  refine k_iconst (v := nI 3) C dX7_reckonGroup_96 rfl ?_
                  refine k_iadd C dX7_reckonGroup_97 ?_
                  refine k_val (y := nI ((6 * i0) + 3)) (nI_add (6 * i0) 3) ?_
                  have ne25 : nq wm wr := gv_ne h_wr h_wm (by simp)
                  have ne26 : nq wm wc := gv_ne h_wc h_wm (by simp)
                  have ne27 : nq wm wn := gv_ne h_wn h_wm (by simp)
                  have ne28 : nq wm wv := gv_ne h_wv h_wm (by simp)
                  refine k_iald (v := fm ((6 * i0) + 3)) C 0 ((gv_up_n ne28).trans ((gv_up_n ne27).trans ((gv_up_n ne26).trans ((gv_up_n ne25).trans h_wm)))) rfl (vp_in_nI (by omega) (by omega)) (by rw [nI_clamp (by omega)]) dX7_reckonGroup_98 ?_
                  refine k_val (y := nI w) hm3 ?_
                  refine k_aload_n C dX7_reckonGroup_99 rfl 4 rfl ?_
                  refine k_get (ci := 7) (k := 6) C fl_7_19 ((gv_up_n ne5).trans ((gv_up_n ne4).trans ((gv_up_n ne3).trans ((gv_up_n ne2).trans h_m)))) rfl dX7_reckonGroup_100 ?_
                  refine k_iload_n C dX7_reckonGroup_103 rfl 7 rfl ?_
                  refine k_iconst (v := nI 4) C dX7_reckonGroup_104 rfl ?_
                  refine k_iadd C dX7_reckonGroup_105 ?_
                  refine k_val (y := nI ((6 * i0) + 4)) (nI_add (6 * i0) 4) ?_
                  refine k_iald (v := fm ((6 * i0) + 4)) C 0 ((gv_up_n ne28).trans ((gv_up_n ne27).trans ((gv_up_n ne26).trans ((gv_up_n ne25).trans h_wm)))) rfl (vp_in_nI (by omega) (by omega)) (by rw [nI_clamp (by omega)]) dX7_reckonGroup_106 ?_
                  refine k_val (y := nI e) hm4 ?_
                  have ne29 : nq wr wc := gv_ne h_wc h_wr (by simp)
                  have ne30 : nq wr wn := gv_ne h_wn h_wr (by simp)
                  have ne31 : nq wr wv := gv_ne h_wv h_wr (by simp)
                  have ne32 : nq wn wv := gv_ne h_wv h_wn (by simp)
                  have ne33 : nq wa wr := gv_ne h_wr h_wa (by simp)
                  have ne34 : nq wa wc := gv_ne h_wc h_wa (by simp)
                  have ne35 : nq wa wn := gv_ne h_wn h_wa (by simp)
                  have ne36 : nq wa wv := gv_ne h_wv h_wa (by simp)
                  refine k_callV C mv_7_136 (c_X7_folded  ((gv_up_n ne5).trans ((gv_up_n ne4).trans ((gv_up_n ne3).trans ((gv_up_n ne2).trans h_m)))) ((gv_up_n ne31).trans ((gv_up_n ne30).trans ((gv_up_n ne29).trans gv_up_s))) ((gv_up_n ne7).trans ((gv_up_n ne6).trans gv_up_s)) ((gv_up_n ne32).trans gv_up_s) gv_up_s ((gv_up_n ne36).trans ((gv_up_n ne35).trans ((gv_up_n ne34).trans ((gv_up_n ne33).trans h_wa)))) hA1 hc1 (by first | assumption | omega) (by first | assumption | omega) hw hM he) ((gv_up_n ne5).trans ((gv_up_n ne4).trans ((gv_up_n ne3).trans ((gv_up_n ne2).trans h_m)))) rfl rfl (by simp [Value.category]) ⟨Nat.le_of_ble_eq_true rfl, Nat.le_of_ble_eq_true rfl⟩ ⟨(by decide), (by decide)⟩ dX7_reckonGroup_107 (fun zv zV zh => ?_)
                  obtain ⟨fw1_w37, fv1_w37, rfl, rfl⟩ := zh
                  refine k_pc (pc' := 110) (st' := .int (agR (nI w) (agF (fun z => lik st (rowAt A z) (rowAt A i)) (fun z => ev E (rowAt A z) e) n)) :: []) rfl rfl ?_
                  refine k_view (V1 := gv_up (gv_up (gv_up (gv_up (gv_up V wr (.inl (cI, 57600, .inl fr1))) wc (.inl (cI, 120, .inl fc1))) wn (.inl (cI, 6, .inl fw1_w37))) wv (.inl (cI, 30, .inl fv1))) wv (.inl (cI, 30, .inl fv1_w37))) (congrArg (fun W => gv_up W wv (.inl (cI, 30, .inl fv1_w37))) ((gv_uc ne32).trans (congrArg (fun W => gv_up W wv (.inl (cI, 30, .inl fv1))) gv_uu))) ?_
                  refine k_view (V1 := gv_up (gv_up (gv_up (gv_up V wr (.inl (cI, 57600, .inl fr1))) wc (.inl (cI, 120, .inl fc1))) wn (.inl (cI, 6, .inl fw1_w37))) wv (.inl (cI, 30, .inl fv1_w37))) gv_uu ?_
                  refine k_istore (lv' := [(7, .int (agR (nI w) (agF (fun z => lik st (rowAt A z) (rowAt A i)) (fun z => ev E (rowAt A z) e) n))), (6, .int (bI bg)), (5, .int (nI i)), (4, .int st), (0, .ref m), (1, .int (nI to)), (2, .int (nI t)), (3, .int (nI (6 * i0)))]) C dX7_reckonGroup_110 (by decide) rfl ?_
                  refine k_aload_n C dX7_reckonGroup_112 rfl 4 rfl ?_
                  refine k_callV C mv_7_105 (c_X7_open  ((gv_up_n ne5).trans ((gv_up_n ne4).trans ((gv_up_n ne3).trans ((gv_up_n ne2).trans h_m)))) ((gv_up_n ne32).trans gv_up_s) ) ((gv_up_n ne5).trans ((gv_up_n ne4).trans ((gv_up_n ne3).trans ((gv_up_n ne2).trans h_m)))) rfl rfl (by simp [Value.category]) ⟨Nat.le_of_ble_eq_true rfl, Nat.le_of_ble_eq_true rfl⟩ ⟨(by decide), (by decide)⟩ dX7_reckonGroup_113 (fun zv zV zh => ?_)
                  obtain ⟨fw1_w38, rfl, rfl, hw1_w38⟩ := zh
                  refine k_pc (pc' := 116) (st' := []) rfl rfl ?_
                  refine k_view (V1 := gv_up (gv_up (gv_up (gv_up V wr (.inl (cI, 57600, .inl fr1))) wc (.inl (cI, 120, .inl fc1))) wn (.inl (cI, 6, .inl fw1_w38))) wv (.inl (cI, 30, .inl fv1_w37))) ((gv_uc ne32).trans (congrArg (fun W => gv_up W wv (.inl (cI, 30, .inl fv1_w37))) gv_uu)) ?_
                  refine k_iconst (v := nI 0) C dX7_reckonGroup_116 rfl ?_
                  refine k_istore (lv' := [(8, .int (nI 0)), (7, .int (agR (nI w) (agF (fun z => lik st (rowAt A z) (rowAt A i)) (fun z => ev E (rowAt A z) e) n))), (6, .int (bI bg)), (5, .int (nI i)), (4, .int st), (0, .ref m), (1, .int (nI to)), (2, .int (nI t)), (3, .int (nI (6 * i0)))]) C dX7_reckonGroup_117 (by decide) rfl ?_
                  have L119 : ∀ (zn39 : Nat) (k : Nat) (fw2 : Nat → Int32), 6 - k < zn39 → (k ≤ 6) → (∀ z, z < k → fw2 z = (prj st (rowAt A i)) z) → K zp zl ze (gv_rm 4 0 0) zs zm zargs zbelow zmeth zc D base 9 (gv_E D [(cI, .int), (cN, .object "AlgebraTree$Node"), (cR, .object "AlgebraTree$Rows")] base zbelow zargs zs 0 0 (fun zv zV => ∃ fr1 : Nat → Int32, ∃ fc1 : Nat → Int32, ∃ fw1 : Nat → Int32, ∃ fv1 : Nat → Int32, zv = none ∧ zV = gv_up (gv_up (gv_up (gv_up V wr (.inl (cI, 57600, .inl fr1))) wc (.inl (cI, 120, .inl fc1))) wn (.inl (cI, 6, .inl fw1))) wv (.inl (cI, 30, .inl fv1)) ∧ (MRep (groupL st (nI w) vv (fun x => ev E x e) A) (fc1 to) (tbl fr1 to)) ∧ (Kp to fc fr fc1 fr1))) (gv_up (gv_up (gv_up (gv_up V wr (.inl (cI, 57600, .inl fr1))) wc (.inl (cI, 120, .inl fc1))) wn (.inl (cI, 6, .inl fw2))) wv (.inl (cI, 30, .inl fv1_w37))) 0 0 [(8, .int (nI k)), (7, .int (agR (nI w) (agF (fun z => lik st (rowAt A z) (rowAt A i)) (fun z => ev E (rowAt A z) e) n))), (6, .int (bI bg)), (5, .int (nI i)), (4, .int st), (0, .ref m), (1, .int (nI to)), (2, .int (nI t)), (3, .int (nI (6 * i0)))] 119 [] := by
                    intro zn39
                    induction zn39 with
                    | zero => intro k fw2 hlt; exact absurd hlt (Nat.not_lt_zero _)
                    | succ zn39 ih119 =>
                      intro k fw2 hlt119  hk hal
                      refine k_iload C dX7_reckonGroup_119 0 rfl ?_
                      refine k_bipush (v := nI 6) C dX7_reckonGroup_121 rfl ?_
                      refine k_icmp_ge (tgt := 164) C dX7_reckonGroup_123 (by decide) (fun c123 => ?_) (fun c123 => ?_)
                      · skip
                        have b123 : 6 ≤ k := (nI_leI (a := 6) (b := k) (by omega) (by omega)).mp c123
                        refine k_aload_n C dX7_reckonGroup_164 rfl 5 rfl ?_
                        refine k_get (ci := 7) (k := 10) C fl_7_29 ((gv_up_n ne5).trans ((gv_up_n ne4).trans ((gv_up_n ne3).trans ((gv_up_n ne2).trans h_m)))) rfl dX7_reckonGroup_165 ?_
                        refine k_aload_n C dX7_reckonGroup_168 rfl 5 rfl ?_
                        refine k_get (ci := 7) (k := 6) C fl_7_19 ((gv_up_n ne5).trans ((gv_up_n ne4).trans ((gv_up_n ne3).trans ((gv_up_n ne2).trans h_m)))) rfl dX7_reckonGroup_169 ?_
                        refine k_iload_n C dX7_reckonGroup_172 rfl 8 rfl ?_
                        refine k_iconst (v := nI 5) C dX7_reckonGroup_173 rfl ?_
                        refine k_iadd C dX7_reckonGroup_174 ?_
                        refine k_val (y := nI ((6 * i0) + 5)) (nI_add (6 * i0) 5) ?_
                        refine k_iald (v := fm ((6 * i0) + 5)) C 0 ((gv_up_n ne28).trans ((gv_up_n ne27).trans ((gv_up_n ne26).trans ((gv_up_n ne25).trans h_wm)))) rfl (vp_in_nI (by omega) (by omega)) (by rw [nI_clamp (by omega)]) dX7_reckonGroup_175 ?_
                        refine k_val (y := nI vv) hm5 ?_
                        refine k_iload C dX7_reckonGroup_176 1 rfl ?_
                        refine k_iast (f' := upd fw2 vv (agR (nI w) (agF (fun z => lik st (rowAt A z) (rowAt A i)) (fun z => ev E (rowAt A z) e) n))) C 0 ((gv_up_n ne32).trans gv_up_s) rfl (vp_in_nI (by omega) (by omega)) (by rw [nI_clamp (by omega)]) dX7_reckonGroup_178 ?_
                        refine k_view (V1 := gv_up (gv_up (gv_up (gv_up V wr (.inl (cI, 57600, .inl fr1))) wc (.inl (cI, 120, .inl fc1))) wn (.inl (cI, 6, .inl (upd fw2 vv (agR (nI w) (agF (fun z => lik st (rowAt A z) (rowAt A i)) (fun z => ev E (rowAt A z) e) n)))))) wv (.inl (cI, 30, .inl fv1_w37))) ((gv_uc ne32).trans (congrArg (fun W => gv_up W wv (.inl (cI, 30, .inl fv1_w37))) gv_uu)) ?_
                        refine k_aload_n C dX7_reckonGroup_179 rfl 5 rfl ?_
                        refine k_iload_n C dX7_reckonGroup_180 rfl 6 rfl ?_
                        have hagg : agR (nI w) (agF (fun z => lik st (rowAt A z) (rowAt A i)) (fun z => ev E (rowAt A z) e) n) = aggV st (nI w) (fun x => ev E x e) A (prj st (rowAt A i)) := (by rw [hA3]; exact agg_m (kk := fun x => ev E x e) (fun z hz => by rw [lik_prj, lik_sym]))
                        refine k_callV C mv_7_112 (c_X7_add (r := gset vv (aggV st (nI w) (fun x => ev E x e) A (prj st (rowAt A i))) (prj st (rowAt A i))) ((gv_up_n ne5).trans ((gv_up_n ne4).trans ((gv_up_n ne3).trans ((gv_up_n ne2).trans h_m)))) ((gv_up_n ne31).trans ((gv_up_n ne30).trans ((gv_up_n ne29).trans gv_up_s))) ((gv_up_n ne7).trans ((gv_up_n ne6).trans gv_up_s)) ((gv_up_n ne32).trans gv_up_s) (by first | assumption | omega) hR (gset_w (r := (prj st (rowAt A i))) (fun z hz => hal z (by omega)) hagg)) ((gv_up_n ne5).trans ((gv_up_n ne4).trans ((gv_up_n ne3).trans ((gv_up_n ne2).trans h_m)))) rfl rfl (by simp [Value.category]) ⟨Nat.le_of_ble_eq_true rfl, Nat.le_of_ble_eq_true rfl⟩ ⟨(by decide), (by decide)⟩ dX7_reckonGroup_181 (fun zv zV zh => ?_)
                        obtain ⟨fc1_w40, fr1_w40, rfl, rfl, hR1_w40, hk1_w40⟩ := zh
                        refine k_pc (pc' := 184) (st' := []) rfl rfl ?_
                        refine k_view (V1 := gv_up (gv_up (gv_up (gv_up (gv_up V wr (.inl (cI, 57600, .inl fr1_w40))) wc (.inl (cI, 120, .inl fc1))) wn (.inl (cI, 6, .inl (upd fw2 vv (agR (nI w) (agF (fun z => lik st (rowAt A z) (rowAt A i)) (fun z => ev E (rowAt A z) e) n)))))) wv (.inl (cI, 30, .inl fv1_w37))) wc (.inl (cI, 120, .inl fc1_w40))) (congrArg (fun W => gv_up W wc (.inl (cI, 120, .inl fc1_w40))) ((gv_uc ne31).trans (congrArg (fun W => gv_up W wv (.inl (cI, 30, .inl fv1_w37))) ((gv_uc ne30).trans (congrArg (fun W => gv_up W wn (.inl (cI, 6, .inl (upd fw2 vv (agR (nI w) (agF (fun z => lik st (rowAt A z) (rowAt A i)) (fun z => ev E (rowAt A z) e) n)))))) ((gv_uc ne29).trans (congrArg (fun W => gv_up W wc (.inl (cI, 120, .inl fc1))) gv_uu))))))) ?_
                        refine k_view (V1 := gv_up (gv_up (gv_up (gv_up V wr (.inl (cI, 57600, .inl fr1_w40))) wc (.inl (cI, 120, .inl fc1_w40))) wn (.inl (cI, 6, .inl (upd fw2 vv (agR (nI w) (agF (fun z => lik st (rowAt A z) (rowAt A i)) (fun z => ev E (rowAt A z) e) n)))))) wv (.inl (cI, 30, .inl fv1_w37))) ((gv_uc ne7).trans (congrArg (fun W => gv_up W wv (.inl (cI, 30, .inl fv1_w37))) ((gv_uc ne6).trans (congrArg (fun W => gv_up W wn (.inl (cI, 6, .inl (upd fw2 vv (agR (nI w) (agF (fun z => lik st (rowAt A z) (rowAt A i)) (fun z => ev E (rowAt A z) e) n)))))) gv_uu)))) ?_
                        refine k_iinc (v := nI (i + 1)) (lv' := [(5, .int (nI (i + 1))), (8, .int (nI k)), (7, .int (agR (nI w) (agF (fun z => lik st (rowAt A z) (rowAt A i)) (fun z => ev E (rowAt A z) e) n))), (6, .int (bI bg)), (4, .int st), (0, .ref m), (1, .int (nI to)), (2, .int (nI t)), (3, .int (nI (6 * i0)))]) C dX7_reckonGroup_184 (k := 3) rfl (nI_add i 1) (by decide) rfl ?_
                        refine k_goto (tgt := 13) C dX7_reckonGroup_187 (by decide) ?_
                        refine k_sub [0, 4, 5, 6, 7, 8] (lv' := [(5, .int (nI (i + 1))), (4, .int st), (0, .ref m), (1, .int (nI to)), (2, .int (nI t)), (3, .int (nI (6 * i0)))]) rfl ?_
                        exact ih13 (i + 1) fr1_w40 fc1_w40 (upd fw2 vv (agR (nI w) (agF (fun z => lik st (rowAt A z) (rowAt A i)) (fun z => ev E (rowAt A z) e) n))) fv1_w37 (by omega)  (Or.inl (by omega)) (by rw [grM_n (by omega), if_pos hnw]; exact hR1_w40) (hK.tr hk1_w40)
                      · skip
                        have b123 : ¬ 6 ≤ k := fun z => c123 ((nI_leI (a := 6) (b := k) (by omega) (by omega)).mpr z)
                        refine k_aload_n C dX7_reckonGroup_126 rfl 5 rfl ?_
                        refine k_get (ci := 7) (k := 10) C fl_7_29 ((gv_up_n ne5).trans ((gv_up_n ne4).trans ((gv_up_n ne3).trans ((gv_up_n ne2).trans h_m)))) rfl dX7_reckonGroup_127 ?_
                        refine k_iload C dX7_reckonGroup_130 0 rfl ?_
                        refine k_iload C dX7_reckonGroup_132 4 rfl ?_
                        refine k_iload C dX7_reckonGroup_134 0 rfl ?_
                        refine k_ishr C dX7_reckonGroup_136 ?_
                        refine k_iconst (v := nI 1) C dX7_reckonGroup_137 rfl ?_
                        refine k_iand C dX7_reckonGroup_138 ?_
                        refine k_iconst (v := nI 1) C dX7_reckonGroup_139 rfl ?_
                        refine k_icmp_ne (tgt := 155) C dX7_reckonGroup_140 (by decide) (fun c140 => ?_) (fun c140 => ?_)
                        · skip
                          refine k_ldc (v := (-2147483648)) C wd_784 dX7_reckonGroup_155 ?_
                          refine k_iast (f' := upd fw2 k (-2147483648 : Int32)) C 0 ((gv_up_n ne32).trans gv_up_s) rfl (vp_in_nI (by omega) (by omega)) (by rw [nI_clamp (by omega)]) dX7_reckonGroup_157 ?_
                          refine k_view (V1 := gv_up (gv_up (gv_up (gv_up V wr (.inl (cI, 57600, .inl fr1))) wc (.inl (cI, 120, .inl fc1))) wn (.inl (cI, 6, .inl (upd fw2 k (-2147483648 : Int32))))) wv (.inl (cI, 30, .inl fv1_w37))) ((gv_uc ne32).trans (congrArg (fun W => gv_up W wv (.inl (cI, 30, .inl fv1_w37))) gv_uu)) ?_
                          refine k_iinc (v := nI (k + 1)) (lv' := [(8, .int (nI (k + 1))), (7, .int (agR (nI w) (agF (fun z => lik st (rowAt A z) (rowAt A i)) (fun z => ev E (rowAt A z) e) n))), (6, .int (bI bg)), (5, .int (nI i)), (4, .int st), (0, .ref m), (1, .int (nI to)), (2, .int (nI t)), (3, .int (nI (6 * i0)))]) C dX7_reckonGroup_158 (k := 0) rfl (nI_add k 1) (by decide) rfl ?_
                          refine k_goto (tgt := 119) C dX7_reckonGroup_161 (by decide) ?_
                          exact ih119 (k + 1) (upd fw2 k (-2147483648 : Int32)) (by omega)  (by omega) (upd_nx hal (by simp only [prj]; rw [if_neg (fun h => c140 (inS_1.mpr h))]))
                        · skip
                          refine k_aload_n C dX7_reckonGroup_143 rfl 5 rfl ?_
                          refine k_iload_n C dX7_reckonGroup_144 rfl 7 rfl ?_
                          refine k_iload C dX7_reckonGroup_145 3 rfl ?_
                          refine k_iload C dX7_reckonGroup_147 0 rfl ?_
                          refine k_callV_pi C mv_7_98 (c_X7_cell  ((gv_up_n ne5).trans ((gv_up_n ne4).trans ((gv_up_n ne3).trans ((gv_up_n ne2).trans h_m)))) ((gv_up_n ne31).trans ((gv_up_n ne30).trans ((gv_up_n ne29).trans gv_up_s))) (by first | assumption | omega) (by first | assumption | omega) (by first | assumption | omega)) ((gv_up_n ne5).trans ((gv_up_n ne4).trans ((gv_up_n ne3).trans ((gv_up_n ne2).trans h_m)))) rfl rfl (by simp [Value.category]) ⟨Nat.le_of_ble_eq_true rfl, Nat.le_of_ble_eq_true rfl⟩ ⟨(by decide), (by decide)⟩ dX7_reckonGroup_149 ?_
                          refine k_goto (tgt := 157) C dX7_reckonGroup_152 (by decide) ?_
                          refine k_iast (f' := upd fw2 k (rwf (tbl fr1 t) i k)) C 0 ((gv_up_n ne32).trans gv_up_s) rfl (vp_in_nI (by omega) (by omega)) (by rw [nI_clamp (by omega)]) dX7_reckonGroup_157 ?_
                          refine k_view (V1 := gv_up (gv_up (gv_up (gv_up V wr (.inl (cI, 57600, .inl fr1))) wc (.inl (cI, 120, .inl fc1))) wn (.inl (cI, 6, .inl (upd fw2 k (rwf (tbl fr1 t) i k))))) wv (.inl (cI, 30, .inl fv1_w37))) ((gv_uc ne32).trans (congrArg (fun W => gv_up W wv (.inl (cI, 30, .inl fv1_w37))) gv_uu)) ?_
                          refine k_iinc (v := nI (k + 1)) (lv' := [(8, .int (nI (k + 1))), (7, .int (agR (nI w) (agF (fun z => lik st (rowAt A z) (rowAt A i)) (fun z => ev E (rowAt A z) e) n))), (6, .int (bI bg)), (5, .int (nI i)), (4, .int st), (0, .ref m), (1, .int (nI to)), (2, .int (nI t)), (3, .int (nI (6 * i0)))]) C dX7_reckonGroup_158 (k := 0) rfl (nI_add k 1) (by decide) rfl ?_
                          refine k_goto (tgt := 119) C dX7_reckonGroup_161 (by decide) ?_
                          exact ih119 (k + 1) (upd fw2 k (rwf (tbl fr1 t) i k)) (by omega)  (by omega) (upd_nx hal (by simp only [prj]; rw [if_pos (inS_1.mp c140)]; exact hA1.at (by omega) k (by omega)))
                  exact L119 _ 0 fw1_w38 (Nat.lt_succ_self _)  (by omega) (fun _ h => absurd h (Nat.not_lt_zero _))
              · skip
                have b49 : bg = true := bI_n.mp c49
                refine k_aload_n C dX7_reckonGroup_52 rfl 4 rfl ?_
                refine k_iload_n C dX7_reckonGroup_53 rfl 6 rfl ?_
                refine k_iload C dX7_reckonGroup_54 2 rfl ?_
                refine k_iload_n C dX7_reckonGroup_56 rfl 6 rfl ?_
                refine k_iload C dX7_reckonGroup_57 0 rfl ?_
                refine k_iload C dX7_reckonGroup_59 3 rfl ?_
                have ne41 : nq wr wc := gv_ne h_wc h_wr (by simp)
                have ne42 : nq wr wn := gv_ne h_wn h_wr (by simp)
                have ne43 : nq wr wv := gv_ne h_wv h_wr (by simp)
                refine k_callV_pi C mv_7_130 (c_X7_alike  ((gv_up_n ne5).trans ((gv_up_n ne4).trans ((gv_up_n ne3).trans ((gv_up_n ne2).trans h_m)))) ((gv_up_n ne43).trans ((gv_up_n ne42).trans ((gv_up_n ne41).trans gv_up_s))) (by first | assumption | omega) (by omega) (by first | assumption | omega) (by omega)) ((gv_up_n ne5).trans ((gv_up_n ne4).trans ((gv_up_n ne3).trans ((gv_up_n ne2).trans h_m)))) rfl rfl (by simp [Value.category]) ⟨Nat.le_of_ble_eq_true rfl, Nat.le_of_ble_eq_true rfl⟩ ⟨(by decide), (by decide)⟩ dX7_reckonGroup_61 ?_
                refine k_if_ne (tgt := 71) C dX7_reckonGroup_64 (by decide) (fun c64 => ?_) (fun c64 => ?_)
                · skip
                  have b64 : (lik st (rwf (tbl fr1 t) i) (rwf (tbl fr1 t) j)) = true := bI_n.mp c64
                  refine k_iconst (v := nI 0) C dX7_reckonGroup_71 rfl ?_
                  refine k_istore (lv' := [(6, .int (nI 0)), (7, .int (nI j)), (5, .int (nI i)), (4, .int st), (0, .ref m), (1, .int (nI to)), (2, .int (nI t)), (3, .int (nI (6 * i0)))]) C dX7_reckonGroup_72 (by decide) rfl ?_
                  refine k_iinc (v := nI (j + 1)) (lv' := [(7, .int (nI (j + 1))), (6, .int (nI 0)), (5, .int (nI i)), (4, .int st), (0, .ref m), (1, .int (nI to)), (2, .int (nI t)), (3, .int (nI (6 * i0)))]) C dX7_reckonGroup_74 (k := 1) rfl (nI_add j 1) (by decide) rfl ?_
                  refine k_goto (tgt := 40) C dX7_reckonGroup_77 (by decide) ?_
                  refine k_lve (lv' := [(7, .int (nI (j + 1))), (6, .int (bI false)), (5, .int (nI i)), (4, .int st), (0, .ref m), (1, .int (nI to)), (2, .int (nI t)), (3, .int (nI (6 * i0)))]) rfl ?_
                  exact ih40 (j + 1) false (by omega)  (by omega) (by rw [← al_k (P := fun j => !lik st (rowAt A i) (rowAt A j)) hbg, ← lik_c (hA1.at (by omega)) (hA1.at (by omega)), b64]; simp)
                · skip
                  have b64 : (lik st (rwf (tbl fr1 t) i) (rwf (tbl fr1 t) j)) = false := bI_0.mp c64
                  refine k_iconst (v := nI 1) C dX7_reckonGroup_67 rfl ?_
                  refine k_goto (tgt := 72) C dX7_reckonGroup_68 (by decide) ?_
                  refine k_istore (lv' := [(6, .int (nI 1)), (7, .int (nI j)), (5, .int (nI i)), (4, .int st), (0, .ref m), (1, .int (nI to)), (2, .int (nI t)), (3, .int (nI (6 * i0)))]) C dX7_reckonGroup_72 (by decide) rfl ?_
                  refine k_iinc (v := nI (j + 1)) (lv' := [(7, .int (nI (j + 1))), (6, .int (nI 1)), (5, .int (nI i)), (4, .int st), (0, .ref m), (1, .int (nI to)), (2, .int (nI t)), (3, .int (nI (6 * i0)))]) C dX7_reckonGroup_74 (k := 1) rfl (nI_add j 1) (by decide) rfl ?_
                  refine k_goto (tgt := 40) C dX7_reckonGroup_77 (by decide) ?_
                  refine k_lve (lv' := [(7, .int (nI (j + 1))), (6, .int (bI true)), (5, .int (nI i)), (4, .int st), (0, .ref m), (1, .int (nI to)), (2, .int (nI t)), (3, .int (nI (6 * i0)))]) rfl ?_
                  exact ih40 (j + 1) true (by omega)  (by omega) (by rw [← al_k (P := fun j => !lik st (rowAt A i) (rowAt A j)) hbg, b49, ← lik_c (hA1.at (by omega)) (hA1.at (by omega)), b64]; rfl)
        refine k_lve (lv' := [(7, .int (nI 0)), (6, .int (bI true)), (5, .int (nI i)), (4, .int st), (0, .ref m), (1, .int (nI to)), (2, .int (nI t)), (3, .int (nI (6 * i0)))]) rfl ?_
        exact L40 _ 0 true (Nat.lt_succ_self _)  (by omega) rfl
      · skip
        have b21 : ¬ i < n := fun z => c21 ((nI_ltI (a := i) (b := n) (by omega) (by omega)).mpr z)
        refine k_iload C dX7_reckonGroup_24 0 rfl ?_
        refine k_if_ne (tgt := 190) C dX7_reckonGroup_26 (by decide) (fun c26 => ?_) (fun c26 => ?_)
        · skip
          have b26 : ¬ i = 0 := fun z => c26 ((nI_eq (a := i) (b := 0) (by omega) (by omega)).mpr z)
          exact k_vret C zr zlk ⟨fr1, fc1, fw1, fv1, rfl, rfl, (by rw [← grM_fin (i := i) (Or.inr ⟨by omega, by first | exact Or.inl b26 | exact Or.inr c31⟩)]; exact hR), hK⟩ (Nat.le_refl _) (Nat.le_refl _) dX7_reckonGroup_190
        · skip
          have b26 : i = 0 := (nI_eq (a := i) (b := 0) (by omega) (by omega)).mp c26
          refine k_iload C dX7_reckonGroup_29 1 rfl ?_
          refine k_if_ne (tgt := 190) C dX7_reckonGroup_31 (by decide) (fun c31 => ?_) (fun c31 => ?_)
          · skip
            exact k_vret C zr zlk ⟨fr1, fc1, fw1, fv1, rfl, rfl, (by rw [← grM_fin (i := i) (Or.inr ⟨by omega, by first | exact Or.inl b26 | exact Or.inr c31⟩)]; exact hR), hK⟩ (Nat.le_refl _) (Nat.le_refl _) dX7_reckonGroup_190
          · skip
            have hst0 : st = 0 := c31
            refine k_iconst (v := nI 1) C dX7_reckonGroup_34 rfl ?_
            refine k_istore (lv' := [(6, .int (nI 1)), (5, .int (nI i)), (4, .int st), (0, .ref m), (1, .int (nI to)), (2, .int (nI t)), (3, .int (nI (6 * i0)))]) C dX7_reckonGroup_35 (by decide) rfl ?_
            refine k_iconst (v := nI 0) C dX7_reckonGroup_37 rfl ?_
            refine k_istore (lv' := [(7, .int (nI 0)), (6, .int (nI 1)), (5, .int (nI i)), (4, .int st), (0, .ref m), (1, .int (nI to)), (2, .int (nI t)), (3, .int (nI (6 * i0)))]) C dX7_reckonGroup_38 (by decide) rfl ?_
            have L40 : ∀ (zn44 : Nat) (j : Nat) (bg : Bool), i - j < zn44 → (j ≤ i) → (bg = al (fun j => !lik st (rowAt A i) (rowAt A j)) j) → K zp zl ze (gv_rm 4 0 0) zs zm zargs zbelow zmeth zc D base 9 (gv_E D [(cI, .int), (cN, .object "AlgebraTree$Node"), (cR, .object "AlgebraTree$Rows")] base zbelow zargs zs 0 0 (fun zv zV => ∃ fr1 : Nat → Int32, ∃ fc1 : Nat → Int32, ∃ fw1 : Nat → Int32, ∃ fv1 : Nat → Int32, zv = none ∧ zV = gv_up (gv_up (gv_up (gv_up V wr (.inl (cI, 57600, .inl fr1))) wc (.inl (cI, 120, .inl fc1))) wn (.inl (cI, 6, .inl fw1))) wv (.inl (cI, 30, .inl fv1)) ∧ (MRep (groupL st (nI w) vv (fun x => ev E x e) A) (fc1 to) (tbl fr1 to)) ∧ (Kp to fc fr fc1 fr1))) (gv_up (gv_up (gv_up (gv_up V wr (.inl (cI, 57600, .inl fr1))) wc (.inl (cI, 120, .inl fc1))) wn (.inl (cI, 6, .inl fw1))) wv (.inl (cI, 30, .inl fv1))) 0 0 [(7, .int (nI j)), (6, .int (bI bg)), (5, .int (nI i)), (4, .int st), (0, .ref m), (1, .int (nI to)), (2, .int (nI t)), (3, .int (nI (6 * i0)))] 40 [] := by
              intro zn44
              induction zn44 with
              | zero => intro j bg hlt; exact absurd hlt (Nat.not_lt_zero _)
              | succ zn44 ih40 =>
                intro j bg hlt40  hj hbg
                refine k_iload C dX7_reckonGroup_40 0 rfl ?_
                refine k_iload C dX7_reckonGroup_42 2 rfl ?_
                refine k_icmp_ge (tgt := 80) C dX7_reckonGroup_44 (by decide) (fun c44 => ?_) (fun c44 => ?_)
                · skip
                  have b44 : i ≤ j := (nI_leI (a := i) (b := j) (by omega) (by omega)).mp c44
                  have hnw : newR st A i = bg := by
                    unfold newR
                    cases hb : bg with
                    | true => first | (rw [← hb, hbg, show j = i by omega]; done) | (rw [b49] at hb; cases hb)
                    | false => exact al_ff (hbg.symm.trans hb) hj
                  refine k_iload C dX7_reckonGroup_80 1 rfl ?_
                  refine k_if_eq (tgt := 184) C dX7_reckonGroup_82 (by decide) (fun c82 => ?_) (fun c82 => ?_)
                  · skip
                    exact absurd (hnw.trans (bI_0.mp c82)) (by rw [show i = 0 by omega]; simp [newR, al])
                  · skip
                    have b82 : bg = true := bI_n.mp c82
                    have hnw := hnw.trans b82
                    refine k_aload_n C dX7_reckonGroup_85 rfl 4 rfl ?_
                    refine k_iload_n C dX7_reckonGroup_86 rfl 6 rfl ?_
                    refine k_iload C dX7_reckonGroup_87 2 rfl ?_
                    refine k_iload C dX7_reckonGroup_89 3 rfl ?_
                    refine k_aload_n C dX7_reckonGroup_91 rfl 4 rfl ?_
                    refine k_get (ci := 7) (k := 6) C fl_7_19 ((gv_up_n ne5).trans ((gv_up_n ne4).trans ((gv_up_n ne3).trans ((gv_up_n ne2).trans h_m)))) rfl dX7_reckonGroup_92 ?_
                    refine k_iload_n C dX7_reckonGroup_95 rfl 7 rfl ?_
                    refine k_iconst (v := nI 3) C dX7_reckonGroup_96 rfl ?_
                    refine k_iadd C dX7_reckonGroup_97 ?_
                    refine k_val (y := nI ((6 * i0) + 3)) (nI_add (6 * i0) 3) ?_
                    have ne45 : nq wm wr := gv_ne h_wr h_wm (by simp)
                    have ne46 : nq wm wc := gv_ne h_wc h_wm (by simp)
                    have ne47 : nq wm wn := gv_ne h_wn h_wm (by simp)
                    have ne48 : nq wm wv := gv_ne h_wv h_wm (by simp)
                    refine k_iald (v := fm ((6 * i0) + 3)) C 0 ((gv_up_n ne48).trans ((gv_up_n ne47).trans ((gv_up_n ne46).trans ((gv_up_n ne45).trans h_wm)))) rfl (vp_in_nI (by omega) (by omega)) (by rw [nI_clamp (by omega)]) dX7_reckonGroup_98 ?_
                    refine k_val (y := nI w) hm3 ?_
                    refine k_aload_n C dX7_reckonGroup_99 rfl 4 rfl ?_
                    refine k_get (ci := 7) (k := 6) C fl_7_19 ((gv_up_n ne5).trans ((gv_up_n ne4).trans ((gv_up_n ne3).trans ((gv_up_n ne2).trans h_m)))) rfl dX7_reckonGroup_100 ?_
                    refine k_iload_n C dX7_reckonGroup_103 rfl 7 rfl ?_
                    refine k_iconst (v := nI 4) C dX7_reckonGroup_104 rfl ?_
                    refine k_iadd C dX7_reckonGroup_105 ?_
                    refine k_val (y := nI ((6 * i0) + 4)) (nI_add (6 * i0) 4) ?_
                    refine k_iald (v := fm ((6 * i0) + 4)) C 0 ((gv_up_n ne48).trans ((gv_up_n ne47).trans ((gv_up_n ne46).trans ((gv_up_n ne45).trans h_wm)))) rfl (vp_in_nI (by omega) (by omega)) (by rw [nI_clamp (by omega)]) dX7_reckonGroup_106 ?_
                    refine k_val (y := nI e) hm4 ?_
                    have ne49 : nq wr wc := gv_ne h_wc h_wr (by simp)
                    have ne50 : nq wr wn := gv_ne h_wn h_wr (by simp)
                    have ne51 : nq wr wv := gv_ne h_wv h_wr (by simp)
                    have ne52 : nq wn wv := gv_ne h_wv h_wn (by simp)
                    have ne53 : nq wa wr := gv_ne h_wr h_wa (by simp)
                    have ne54 : nq wa wc := gv_ne h_wc h_wa (by simp)
                    have ne55 : nq wa wn := gv_ne h_wn h_wa (by simp)
                    have ne56 : nq wa wv := gv_ne h_wv h_wa (by simp)
                    refine k_callV C mv_7_136 (c_X7_folded  ((gv_up_n ne5).trans ((gv_up_n ne4).trans ((gv_up_n ne3).trans ((gv_up_n ne2).trans h_m)))) ((gv_up_n ne51).trans ((gv_up_n ne50).trans ((gv_up_n ne49).trans gv_up_s))) ((gv_up_n ne7).trans ((gv_up_n ne6).trans gv_up_s)) ((gv_up_n ne52).trans gv_up_s) gv_up_s ((gv_up_n ne56).trans ((gv_up_n ne55).trans ((gv_up_n ne54).trans ((gv_up_n ne53).trans h_wa)))) hA1 hc1 (by first | assumption | omega) (by first | assumption | omega) hw hM he) ((gv_up_n ne5).trans ((gv_up_n ne4).trans ((gv_up_n ne3).trans ((gv_up_n ne2).trans h_m)))) rfl rfl (by simp [Value.category]) ⟨Nat.le_of_ble_eq_true rfl, Nat.le_of_ble_eq_true rfl⟩ ⟨(by decide), (by decide)⟩ dX7_reckonGroup_107 (fun zv zV zh => ?_)
                    obtain ⟨fw1_w57, fv1_w57, rfl, rfl⟩ := zh
                    refine k_pc (pc' := 110) (st' := .int (agR (nI w) (agF (fun z => lik st (rowAt A z) (rowAt A i)) (fun z => ev E (rowAt A z) e) n)) :: []) rfl rfl ?_
                    refine k_view (V1 := gv_up (gv_up (gv_up (gv_up (gv_up V wr (.inl (cI, 57600, .inl fr1))) wc (.inl (cI, 120, .inl fc1))) wn (.inl (cI, 6, .inl fw1_w57))) wv (.inl (cI, 30, .inl fv1))) wv (.inl (cI, 30, .inl fv1_w57))) (congrArg (fun W => gv_up W wv (.inl (cI, 30, .inl fv1_w57))) ((gv_uc ne52).trans (congrArg (fun W => gv_up W wv (.inl (cI, 30, .inl fv1))) gv_uu))) ?_
                    refine k_view (V1 := gv_up (gv_up (gv_up (gv_up V wr (.inl (cI, 57600, .inl fr1))) wc (.inl (cI, 120, .inl fc1))) wn (.inl (cI, 6, .inl fw1_w57))) wv (.inl (cI, 30, .inl fv1_w57))) gv_uu ?_
                    refine k_istore (lv' := [(7, .int (agR (nI w) (agF (fun z => lik st (rowAt A z) (rowAt A i)) (fun z => ev E (rowAt A z) e) n))), (6, .int (bI bg)), (5, .int (nI i)), (4, .int st), (0, .ref m), (1, .int (nI to)), (2, .int (nI t)), (3, .int (nI (6 * i0)))]) C dX7_reckonGroup_110 (by decide) rfl ?_
                    refine k_aload_n C dX7_reckonGroup_112 rfl 4 rfl ?_
                    refine k_callV C mv_7_105 (c_X7_open  ((gv_up_n ne5).trans ((gv_up_n ne4).trans ((gv_up_n ne3).trans ((gv_up_n ne2).trans h_m)))) ((gv_up_n ne52).trans gv_up_s) ) ((gv_up_n ne5).trans ((gv_up_n ne4).trans ((gv_up_n ne3).trans ((gv_up_n ne2).trans h_m)))) rfl rfl (by simp [Value.category]) ⟨Nat.le_of_ble_eq_true rfl, Nat.le_of_ble_eq_true rfl⟩ ⟨(by decide), (by decide)⟩ dX7_reckonGroup_113 (fun zv zV zh => ?_)
                    obtain ⟨fw1_w58, rfl, rfl, hw1_w58⟩ := zh
                    refine k_pc (pc' := 116) (st' := []) rfl rfl ?_
                    refine k_view (V1 := gv_up (gv_up (gv_up (gv_up V wr (.inl (cI, 57600, .inl fr1))) wc (.inl (cI, 120, .inl fc1))) wn (.inl (cI, 6, .inl fw1_w58))) wv (.inl (cI, 30, .inl fv1_w57))) ((gv_uc ne52).trans (congrArg (fun W => gv_up W wv (.inl (cI, 30, .inl fv1_w57))) gv_uu)) ?_
                    refine k_iconst (v := nI 0) C dX7_reckonGroup_116 rfl ?_
                    refine k_istore (lv' := [(8, .int (nI 0)), (7, .int (agR (nI w) (agF (fun z => lik st (rowAt A z) (rowAt A i)) (fun z => ev E (rowAt A z) e) n))), (6, .int (bI bg)), (5, .int (nI i)), (4, .int st), (0, .ref m), (1, .int (nI to)), (2, .int (nI t)), (3, .int (nI (6 * i0)))]) C dX7_reckonGroup_117 (by decide) rfl ?_
                    have L119 : ∀ (zn59 : Nat) (k : Nat) (fw2 : Nat → Int32), 6 - k < zn59 → (k ≤ 6) → (∀ z, z < k → fw2 z = opn z) → K zp zl ze (gv_rm 4 0 0) zs zm zargs zbelow zmeth zc D base 9 (gv_E D [(cI, .int), (cN, .object "AlgebraTree$Node"), (cR, .object "AlgebraTree$Rows")] base zbelow zargs zs 0 0 (fun zv zV => ∃ fr1 : Nat → Int32, ∃ fc1 : Nat → Int32, ∃ fw1 : Nat → Int32, ∃ fv1 : Nat → Int32, zv = none ∧ zV = gv_up (gv_up (gv_up (gv_up V wr (.inl (cI, 57600, .inl fr1))) wc (.inl (cI, 120, .inl fc1))) wn (.inl (cI, 6, .inl fw1))) wv (.inl (cI, 30, .inl fv1)) ∧ (MRep (groupL st (nI w) vv (fun x => ev E x e) A) (fc1 to) (tbl fr1 to)) ∧ (Kp to fc fr fc1 fr1))) (gv_up (gv_up (gv_up (gv_up V wr (.inl (cI, 57600, .inl fr1))) wc (.inl (cI, 120, .inl fc1))) wn (.inl (cI, 6, .inl fw2))) wv (.inl (cI, 30, .inl fv1_w57))) 0 0 [(8, .int (nI k)), (7, .int (agR (nI w) (agF (fun z => lik st (rowAt A z) (rowAt A i)) (fun z => ev E (rowAt A z) e) n))), (6, .int (bI bg)), (5, .int (nI i)), (4, .int st), (0, .ref m), (1, .int (nI to)), (2, .int (nI t)), (3, .int (nI (6 * i0)))] 119 [] := by
                      intro zn59
                      induction zn59 with
                      | zero => intro k fw2 hlt; exact absurd hlt (Nat.not_lt_zero _)
                      | succ zn59 ih119 =>
                        intro k fw2 hlt119  hk hal
                        refine k_iload C dX7_reckonGroup_119 0 rfl ?_
                        refine k_bipush (v := nI 6) C dX7_reckonGroup_121 rfl ?_
                        refine k_icmp_ge (tgt := 164) C dX7_reckonGroup_123 (by decide) (fun c123 => ?_) (fun c123 => ?_)
                        · skip
                          have b123 : 6 ≤ k := (nI_leI (a := 6) (b := k) (by omega) (by omega)).mp c123
                          refine k_aload_n C dX7_reckonGroup_164 rfl 5 rfl ?_
                          refine k_get (ci := 7) (k := 10) C fl_7_29 ((gv_up_n ne5).trans ((gv_up_n ne4).trans ((gv_up_n ne3).trans ((gv_up_n ne2).trans h_m)))) rfl dX7_reckonGroup_165 ?_
                          refine k_aload_n C dX7_reckonGroup_168 rfl 5 rfl ?_
                          refine k_get (ci := 7) (k := 6) C fl_7_19 ((gv_up_n ne5).trans ((gv_up_n ne4).trans ((gv_up_n ne3).trans ((gv_up_n ne2).trans h_m)))) rfl dX7_reckonGroup_169 ?_
                          refine k_iload_n C dX7_reckonGroup_172 rfl 8 rfl ?_
                          refine k_iconst (v := nI 5) C dX7_reckonGroup_173 rfl ?_
                          refine k_iadd C dX7_reckonGroup_174 ?_
                          refine k_val (y := nI ((6 * i0) + 5)) (nI_add (6 * i0) 5) ?_
                          refine k_iald (v := fm ((6 * i0) + 5)) C 0 ((gv_up_n ne48).trans ((gv_up_n ne47).trans ((gv_up_n ne46).trans ((gv_up_n ne45).trans h_wm)))) rfl (vp_in_nI (by omega) (by omega)) (by rw [nI_clamp (by omega)]) dX7_reckonGroup_175 ?_
                          refine k_val (y := nI vv) hm5 ?_
                          refine k_iload C dX7_reckonGroup_176 1 rfl ?_
                          refine k_iast (f' := upd fw2 vv (agR (nI w) (agF (fun z => lik st (rowAt A z) (rowAt A i)) (fun z => ev E (rowAt A z) e) n))) C 0 ((gv_up_n ne52).trans gv_up_s) rfl (vp_in_nI (by omega) (by omega)) (by rw [nI_clamp (by omega)]) dX7_reckonGroup_178 ?_
                          refine k_view (V1 := gv_up (gv_up (gv_up (gv_up V wr (.inl (cI, 57600, .inl fr1))) wc (.inl (cI, 120, .inl fc1))) wn (.inl (cI, 6, .inl (upd fw2 vv (agR (nI w) (agF (fun z => lik st (rowAt A z) (rowAt A i)) (fun z => ev E (rowAt A z) e) n)))))) wv (.inl (cI, 30, .inl fv1_w57))) ((gv_uc ne52).trans (congrArg (fun W => gv_up W wv (.inl (cI, 30, .inl fv1_w57))) gv_uu)) ?_
                          refine k_aload_n C dX7_reckonGroup_179 rfl 5 rfl ?_
                          refine k_iload_n C dX7_reckonGroup_180 rfl 6 rfl ?_
                          have hagg : agR (nI w) (agF (fun z => lik st (rowAt A z) (rowAt A i)) (fun z => ev E (rowAt A z) e) n) = aggV st (nI w) (fun x => ev E x e) A opn := (by rw [hA3]; exact agg_m (kk := fun x => ev E x e) (fun z hz => absurd hz (by omega)))
                          refine k_callV C mv_7_112 (c_X7_add (r := gset vv (aggV st (nI w) (fun x => ev E x e) A opn) opn) ((gv_up_n ne5).trans ((gv_up_n ne4).trans ((gv_up_n ne3).trans ((gv_up_n ne2).trans h_m)))) ((gv_up_n ne51).trans ((gv_up_n ne50).trans ((gv_up_n ne49).trans gv_up_s))) ((gv_up_n ne7).trans ((gv_up_n ne6).trans gv_up_s)) ((gv_up_n ne52).trans gv_up_s) (by first | assumption | omega) hR (gset_w (r := opn) (fun z hz => hal z (by omega)) hagg)) ((gv_up_n ne5).trans ((gv_up_n ne4).trans ((gv_up_n ne3).trans ((gv_up_n ne2).trans h_m)))) rfl rfl (by simp [Value.category]) ⟨Nat.le_of_ble_eq_true rfl, Nat.le_of_ble_eq_true rfl⟩ ⟨(by decide), (by decide)⟩ dX7_reckonGroup_181 (fun zv zV zh => ?_)
                          obtain ⟨fc1_w60, fr1_w60, rfl, rfl, hR1_w60, hk1_w60⟩ := zh
                          refine k_pc (pc' := 184) (st' := []) rfl rfl ?_
                          refine k_view (V1 := gv_up (gv_up (gv_up (gv_up (gv_up V wr (.inl (cI, 57600, .inl fr1_w60))) wc (.inl (cI, 120, .inl fc1))) wn (.inl (cI, 6, .inl (upd fw2 vv (agR (nI w) (agF (fun z => lik st (rowAt A z) (rowAt A i)) (fun z => ev E (rowAt A z) e) n)))))) wv (.inl (cI, 30, .inl fv1_w57))) wc (.inl (cI, 120, .inl fc1_w60))) (congrArg (fun W => gv_up W wc (.inl (cI, 120, .inl fc1_w60))) ((gv_uc ne51).trans (congrArg (fun W => gv_up W wv (.inl (cI, 30, .inl fv1_w57))) ((gv_uc ne50).trans (congrArg (fun W => gv_up W wn (.inl (cI, 6, .inl (upd fw2 vv (agR (nI w) (agF (fun z => lik st (rowAt A z) (rowAt A i)) (fun z => ev E (rowAt A z) e) n)))))) ((gv_uc ne49).trans (congrArg (fun W => gv_up W wc (.inl (cI, 120, .inl fc1))) gv_uu))))))) ?_
                          refine k_view (V1 := gv_up (gv_up (gv_up (gv_up V wr (.inl (cI, 57600, .inl fr1_w60))) wc (.inl (cI, 120, .inl fc1_w60))) wn (.inl (cI, 6, .inl (upd fw2 vv (agR (nI w) (agF (fun z => lik st (rowAt A z) (rowAt A i)) (fun z => ev E (rowAt A z) e) n)))))) wv (.inl (cI, 30, .inl fv1_w57))) ((gv_uc ne7).trans (congrArg (fun W => gv_up W wv (.inl (cI, 30, .inl fv1_w57))) ((gv_uc ne6).trans (congrArg (fun W => gv_up W wn (.inl (cI, 6, .inl (upd fw2 vv (agR (nI w) (agF (fun z => lik st (rowAt A z) (rowAt A i)) (fun z => ev E (rowAt A z) e) n)))))) gv_uu)))) ?_
                          refine k_iinc (v := nI (i + 1)) (lv' := [(5, .int (nI (i + 1))), (8, .int (nI k)), (7, .int (agR (nI w) (agF (fun z => lik st (rowAt A z) (rowAt A i)) (fun z => ev E (rowAt A z) e) n))), (6, .int (bI bg)), (4, .int st), (0, .ref m), (1, .int (nI to)), (2, .int (nI t)), (3, .int (nI (6 * i0)))]) C dX7_reckonGroup_184 (k := 3) rfl (nI_add i 1) (by decide) rfl ?_
                          refine k_goto (tgt := 13) C dX7_reckonGroup_187 (by decide) ?_
                          refine k_sub [0, 4, 5, 6, 7, 8] (lv' := [(5, .int (nI (i + 1))), (4, .int st), (0, .ref m), (1, .int (nI to)), (2, .int (nI t)), (3, .int (nI (6 * i0)))]) rfl ?_
                          exact ih13 (i + 1) fr1_w60 fc1_w60 (upd fw2 vv (agR (nI w) (agF (fun z => lik st (rowAt A z) (rowAt A i)) (fun z => ev E (rowAt A z) e) n))) fv1_w57 (by omega)  (Or.inr ⟨by omega, hst0, by omega⟩) (by
                            have e0 : i = 0 := by omega
                            subst e0
                            rw [grM_z (by omega) hst0]
                            exact hR1_w60) (hK.tr hk1_w60)
                        · skip
                          have b123 : ¬ 6 ≤ k := fun z => c123 ((nI_leI (a := 6) (b := k) (by omega) (by omega)).mpr z)
                          refine k_aload_n C dX7_reckonGroup_126 rfl 5 rfl ?_
                          refine k_get (ci := 7) (k := 10) C fl_7_29 ((gv_up_n ne5).trans ((gv_up_n ne4).trans ((gv_up_n ne3).trans ((gv_up_n ne2).trans h_m)))) rfl dX7_reckonGroup_127 ?_
                          refine k_iload C dX7_reckonGroup_130 0 rfl ?_
                          refine k_iload C dX7_reckonGroup_132 4 rfl ?_
                          refine k_iload C dX7_reckonGroup_134 0 rfl ?_
                          refine k_ishr C dX7_reckonGroup_136 ?_
                          refine k_iconst (v := nI 1) C dX7_reckonGroup_137 rfl ?_
                          refine k_iand C dX7_reckonGroup_138 ?_
                          refine k_iconst (v := nI 1) C dX7_reckonGroup_139 rfl ?_
                          refine k_icmp_ne (tgt := 155) C dX7_reckonGroup_140 (by decide) (fun c140 => ?_) (fun c140 => ?_)
                          · skip
                            refine k_ldc (v := (-2147483648)) C wd_784 dX7_reckonGroup_155 ?_
                            refine k_iast (f' := upd fw2 k (-2147483648 : Int32)) C 0 ((gv_up_n ne52).trans gv_up_s) rfl (vp_in_nI (by omega) (by omega)) (by rw [nI_clamp (by omega)]) dX7_reckonGroup_157 ?_
                            refine k_view (V1 := gv_up (gv_up (gv_up (gv_up V wr (.inl (cI, 57600, .inl fr1))) wc (.inl (cI, 120, .inl fc1))) wn (.inl (cI, 6, .inl (upd fw2 k (-2147483648 : Int32))))) wv (.inl (cI, 30, .inl fv1_w57))) ((gv_uc ne52).trans (congrArg (fun W => gv_up W wv (.inl (cI, 30, .inl fv1_w57))) gv_uu)) ?_
                            refine k_iinc (v := nI (k + 1)) (lv' := [(8, .int (nI (k + 1))), (7, .int (agR (nI w) (agF (fun z => lik st (rowAt A z) (rowAt A i)) (fun z => ev E (rowAt A z) e) n))), (6, .int (bI bg)), (5, .int (nI i)), (4, .int st), (0, .ref m), (1, .int (nI to)), (2, .int (nI t)), (3, .int (nI (6 * i0)))]) C dX7_reckonGroup_158 (k := 0) rfl (nI_add k 1) (by decide) rfl ?_
                            refine k_goto (tgt := 119) C dX7_reckonGroup_161 (by decide) ?_
                            exact ih119 (k + 1) (upd fw2 k (-2147483648 : Int32)) (by omega)  (by omega) (upd_nx hal rfl)
                          · skip
                            exact absurd (inS_1.mp c140) (by rw [hst0, inS_0 (by omega)]; decide)
                    exact L119 _ 0 fw1_w58 (Nat.lt_succ_self _)  (by omega) (fun _ h => absurd h (Nat.not_lt_zero _))
                · skip
                  exact absurd ((nI_leI (by omega) (by omega)).mpr (by omega)) c44
            refine k_lve (lv' := [(7, .int (nI 0)), (6, .int (bI true)), (5, .int (nI i)), (4, .int st), (0, .ref m), (1, .int (nI to)), (2, .int (nI t)), (3, .int (nI (6 * i0)))]) rfl ?_
            exact L40 _ 0 true (Nat.lt_succ_self _)  (by omega) rfl
  refine k_view (V1 := gv_up V wr (.inl (cI, 57600, .inl fr))) (gv_id h_wr).symm ?_
  have ne61 : nq wc wr := gv_ne h_wr h_wc (by simp)
  refine k_view (V1 := gv_up (gv_up V wr (.inl (cI, 57600, .inl fr))) wc (.inl (cI, 120, .inl fc))) (gv_id ((gv_up_n ne61).trans h_wc)).symm ?_
  have ne62 : nq wn wr := gv_ne h_wr h_wn (by simp)
  have ne63 : nq wn wc := gv_ne h_wc h_wn (by simp)
  refine k_view (V1 := gv_up (gv_up (gv_up V wr (.inl (cI, 57600, .inl fr))) wc (.inl (cI, 120, .inl fc))) wn (.inl (cI, 6, .inl fw))) (gv_id ((gv_up_n ne63).trans ((gv_up_n ne62).trans h_wn))).symm ?_
  have ne64 : nq wv wr := gv_ne h_wr h_wv (by simp)
  have ne65 : nq wv wc := gv_ne h_wc h_wv (by simp)
  have ne66 : nq wv wn := gv_ne h_wn h_wv (by simp)
  refine k_view (V1 := gv_up (gv_up (gv_up (gv_up V wr (.inl (cI, 57600, .inl fr))) wc (.inl (cI, 120, .inl fc))) wn (.inl (cI, 6, .inl fw))) wv (.inl (cI, 30, .inl fv))) (gv_id ((gv_up_n ne66).trans ((gv_up_n ne65).trans ((gv_up_n ne64).trans h_wv)))).symm ?_
  exact L13 _ 0 fr fc fw fv (Nat.lt_succ_self _)  (Or.inl (by omega)) (by rw [grM_0]; exact MRep.nil hc0) Kp.rf
