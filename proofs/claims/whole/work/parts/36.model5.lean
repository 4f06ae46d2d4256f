theorem lik_iff {set : Int32} {x y : Row} : lik set x y = true ↔ ∀ v, v < 6 → inS set (nI v) = true → x v = y v := by
  unfold lik
  rw [al_iff]
  constructor
  · intro h v hv hs
    have h2 := h v hv
    simp only [lkP, hs, Bool.not_true, Bool.false_or, beq_iff_eq] at h2
    exact h2
  · intro h v hv
    simp only [lkP]
    cases hs : inS set (nI v) with
    | false => rfl
    | true => rw [h v hv hs]; simp
theorem lik_bool {set : Int32} {x y x' y' : Row} (h : lik set x y = true ↔ lik set x' y' = true) : lik set x y = lik set x' y' := by
  cases h1 : lik set x y <;> cases h2 : lik set x' y' <;> simp_all
theorem lik_sym {set : Int32} {x y : Row} : lik set x y = lik set y x := lik_bool (by
  rw [lik_iff, lik_iff]
  exact ⟨fun h v hv hs => (h v hv hs).symm, fun h v hv hs => (h v hv hs).symm⟩)
theorem lik_tr {set : Int32} {x y z : Row} (h : lik set x y = true) (h2 : lik set y z = true) : lik set x z = true := lik_iff.mpr (fun v hv hs => (lik_iff.mp h v hv hs).trans (lik_iff.mp h2 v hv hs))
theorem lik_prj {set : Int32} {x y : Row} : lik set (prj set x) y = lik set x y := lik_bool (by
  rw [lik_iff, lik_iff]
  refine ⟨fun h v hv hs => ?_, fun h v hv hs => ?_⟩
  · have h2 := h v hv hs
    simp only [prj, hs, if_pos] at h2
    exact h2
  · simp only [prj, hs, if_pos]
    exact h v hv hs)
theorem dist_any {set : Int32} {x : Row} : ∀ (L acc : List Row), (L.foldl (dstS set) acc).any (fun y => lik set y x) = (acc.any (fun y => lik set y x) || L.any (fun y => lik set y x))
  | [], acc => by simp
  | y :: L, acc => by
    rw [List.foldl_cons, dist_any L, List.any_cons]
    unfold dstS
    by_cases h : acc.any (fun z => lik set z y) = true
    · rw [if_pos h]
      cases hy : lik set y x with
      | false => simp
      | true =>
        obtain ⟨z, hz, hzy⟩ := List.any_eq_true.mp h
        have h3 : acc.any (fun y => lik set y x) = true := List.any_eq_true.mpr ⟨z, hz, lik_tr hzy hy⟩
        rw [h3]; simp
    · rw [if_neg h, List.any_append]
      simp only [List.any_cons, List.any_nil, Bool.or_false, lik_prj, Bool.or_assoc]
/-- no row before is like it -/
def newR (set : Int32) (A : List Row) (i : Nat) : Bool := al (fun j => !lik set (rowAt A i) (rowAt A j)) i
theorem any_al {p : Row → Bool} {A : List Row} : ∀ {i : Nat}, i ≤ A.length → (A.take i).any p = !al (fun j => !p (rowAt A j)) i
  | 0, _ => by simp [al]
  | i + 1, h => by
    rw [any_s (by omega), any_al (by omega)]
    simp only [al]
    cases al (fun j => !p (rowAt A j)) i <;> simp
theorem dist_n {set : Int32} {A : List Row} {i : Nat} (h : i < A.length) : distL set (A.take (i + 1)) = distL set (A.take i) ++ if newR set A i = true then [prj set (rowAt A i)] else [] := by
  rw [dist_s h]
  unfold dstS
  have e : (distL set (A.take i)).any (fun y => lik set y (rowAt A i)) = !newR set A i := by
    unfold distL newR
    rw [dist_any, List.any_nil, Bool.false_or, any_al (by omega)]
    congr 1
    exact al_c (fun j hj => by rw [lik_sym])
  rw [e]
  cases newR set A i <;> simp
theorem al_k {P : Nat → Bool} {b : Bool} {j : Nat} (h : b = al P j) : (b && P j) = al P (j + 1) := by rw [h]; rfl
theorem extR_w {x w : Row} {v z : Nat} {e : Int32} (h : eq6 w x) (hv : v < 6) (hz : z < 6) : upd w v (if w v = oE then e else w v) z = extR v e x z := by
  simp only [upd, extR]
  by_cases hzv : z = v
  · subst hzv
    rw [if_pos rfl, h z hz]
    by_cases ho : x z = oE
    · rw [if_pos ho, if_pos ⟨rfl, ho⟩]
    · rw [if_neg ho, if_neg (fun q => ho q.2)]
  · rw [if_neg hzv, h z hz]
    have e2 : (if z = v ∧ x z = oE then e else x z) = x z := if_neg (fun q => hzv q.1)
    exact e2.symm
theorem slice_y {A : List Row} {u0 u1 i : Nat} (h : i < A.length) (h1 : u0 ≤ i) (h2 : i - u0 < u1) : ((A.take (i + 1)).drop u0).take u1 = ((A.take i).drop u0).take u1 ++ [rowAt A i] := by
  rw [take_s h, List.drop_append_of_le_length (by rw [List.length_take]; omega), List.take_of_length_le (l := (A.take i).drop u0 ++ [rowAt A i]) (by simp; omega), List.take_of_length_le (l := (A.take i).drop u0) (by simp; omega)]
theorem slice_n {A : List Row} {u0 u1 i : Nat} (h : i < A.length) (h1 : i < u0 ∨ u1 ≤ i - u0) : ((A.take (i + 1)).drop u0).take u1 = ((A.take i).drop u0).take u1 := by
  rcases Nat.lt_or_ge i u0 with h2 | h2
  · rw [List.drop_of_length_le (by rw [List.length_take]; omega), List.drop_of_length_le (by rw [List.length_take]; omega)]
  · rw [take_s h, List.drop_append_of_le_length (by rw [List.length_take]; omega), List.take_append_of_le_length (by simp; omega)]
theorem gr_w {x w : Row} {v g : Nat} (h : eq6 w x) (hv : v < 6) (hg : grX v g x = true) : eq6 (upd w v (nI g)) (extR v (nI g) x) := fun z hz => by
  simp only [upd, extR]
  unfold grX at hg
  by_cases hzv : z = v
  · subst hzv
    rw [if_pos rfl]
    by_cases ho : x z = oE
    · rw [if_pos ⟨rfl, ho⟩]
    · rw [if_neg (fun q => ho q.2)]
      simp only [Bool.or_eq_true, beq_iff_eq] at hg
      exact (hg.resolve_left ho).symm
  · rw [if_neg hzv, h z hz]
    have e2 : (if z = v ∧ x z = oE then nI g else x z) = x z := if_neg (fun q => hzv q.1)
    exact e2.symm
set_option maxHeartbeats 4000000 in
set_option maxRecDepth 100000 in
theorem c_each2 {zl : Launch} {D : va_G} {cI cN cR : ClassId} {base : Nat} {V : gv_V} {m wt wa wv wm wr wc wn ws wk wp nt ne nn sh : Nat} {kn : Int32} {fr fc fw : Nat → Int32} {to t n : Nat} {A : List Row} {M0 : List Row} {x y : Int32}  (h_m : V m = some (.inr (7, [.int (nI nt), .ref wt, .int (nI ne), .ref wa, .ref wv, .int (nI nn), .ref wm, .int kn, .ref wr, .ref wc, .ref wn, .int (nI sh), .ref ws, .ref wk, .ref wp]))) (h_wr : V wr = some (.inl (cI, 57600, .inl fr))) (h_wc : V wc = some (.inl (cI, 120, .inl fc))) (h_wn : V wn = some (.inl (cI, 6, .inl fw))) (hto : to < 120) (hA : Tab A n (tbl fr t)) (hcA : fc t = nI n) (hta : ¬ t = to) (ht : t < 120) (hR0 : MRep M0 (fc to) (tbl fr to)) : ct zl D [(cI, .int), (cN, .object "AlgebraTree$Node"), (cR, .object "AlgebraTree$Rows")] base yX7_reckonEach cX7_reckonEach 9 none 4 0 0 [.ref m, .int (nI to), .int (nI t), .int (nI 2), .int x, .int y] V (fun zv zV => ∃ fr1 : Nat → Int32, ∃ fc1 : Nat → Int32, ∃ fw1 : Nat → Int32, zv = none ∧ zV = gv_up (gv_up (gv_up V wr (.inl (cI, 57600, .inl fr1))) wc (.inl (cI, 120, .inl fc1))) wn (.inl (cI, 6, .inl fw1)) ∧ (MRep (M0 ++ A) (fc1 to) (tbl fr1 to)) ∧ (Kp to fc fr fc1 fr1)) := by
  refine ct_of "AlgebraTreeModel" rfl (by decide) (Nat.le_of_ble_eq_true rfl) ?_
  intro zp ze zs zm zargs zbelow zmeth zc C zr zlk znm
  refine k_pc (pc' := 0) (st' := []) rfl rfl ?_
  show K zp zl ze (gv_rm 4 0 0) zs zm zargs zbelow zmeth zc D base 9 (gv_E D [(cI, .int), (cN, .object "AlgebraTree$Node"), (cR, .object "AlgebraTree$Rows")] base zbelow zargs zs 0 0 (fun zv zV => ∃ fr1 : Nat → Int32, ∃ fc1 : Nat → Int32, ∃ fw1 : Nat → Int32, zv = none ∧ zV = gv_up (gv_up (gv_up V wr (.inl (cI, 57600, .inl fr1))) wc (.inl (cI, 120, .inl fc1))) wn (.inl (cI, 6, .inl fw1)) ∧ (MRep (M0 ++ A) (fc1 to) (tbl fr1 to)) ∧ (Kp to fc fr fc1 fr1))) V 0 0 [(0, .ref m), (1, .int (nI to)), (2, .int (nI t)), (3, .int (nI 2)), (4, .int x), (5, .int y)] 0 []
  refine k_iconst (v := nI 0) C dX7_reckonEach_0 rfl ?_
  refine k_istore (lv' := [(6, .int (nI 0)), (0, .ref m), (1, .int (nI to)), (2, .int (nI t)), (3, .int (nI 2)), (4, .int x), (5, .int y)]) C dX7_reckonEach_1 (by decide) rfl ?_
  have L3 : ∀ (zn1 : Nat) (i : Nat) (fr1 : Nat → Int32) (fc1 : Nat → Int32) (fw1 : Nat → Int32), n - i < zn1 → (i ≤ n) → (MRep (M0 ++ (A.take i)) (fc1 to) (tbl fr1 to)) → (Kp to fc fr fc1 fr1) → K zp zl ze (gv_rm 4 0 0) zs zm zargs zbelow zmeth zc D base 9 (gv_E D [(cI, .int), (cN, .object "AlgebraTree$Node"), (cR, .object "AlgebraTree$Rows")] base zbelow zargs zs 0 0 (fun zv zV => ∃ fr1 : Nat → Int32, ∃ fc1 : Nat → Int32, ∃ fw1 : Nat → Int32, zv = none ∧ zV = gv_up (gv_up (gv_up V wr (.inl (cI, 57600, .inl fr1))) wc (.inl (cI, 120, .inl fc1))) wn (.inl (cI, 6, .inl fw1)) ∧ (MRep (M0 ++ A) (fc1 to) (tbl fr1 to)) ∧ (Kp to fc fr fc1 fr1))) (gv_up (gv_up (gv_up V wr (.inl (cI, 57600, .inl fr1))) wc (.inl (cI, 120, .inl fc1))) wn (.inl (cI, 6, .inl fw1))) 0 0 [(6, .int (nI i)), (0, .ref m), (1, .int (nI to)), (2, .int (nI t)), (3, .int (nI 2)), (4, .int x), (5, .int y)] 3 [] := by
    intro zn1
    induction zn1 with
    | zero => intro i fr1 fc1 fw1 hlt; exact absurd hlt (Nat.not_lt_zero _)
    | succ zn1 ih3 =>
      intro i fr1 fc1 fw1 hlt3  hi hR hK
      have hA2 := hA.2.1
      have hA3 := hA.1
      have hA1 := hA.kp hK hta
      have hc1 : fc1 t = nI n := (hK t hta).1.trans hcA
      refine k_iload C dX7_reckonEach_3 0 rfl ?_
      refine k_aload_n C dX7_reckonEach_5 rfl 1 rfl ?_
      have ne2 : nq m wr := gv_ne h_wr h_m (by simp)
      have ne3 : nq m wc := gv_ne h_wc h_m (by simp)
      have ne4 : nq m wn := gv_ne h_wn h_m (by simp)
      refine k_get (ci := 7) (k := 9) C fl_7_26 ((gv_up_n ne4).trans ((gv_up_n ne3).trans ((gv_up_n ne2).trans h_m))) rfl dX7_reckonEach_6 ?_
      refine k_iload_n C dX7_reckonEach_9 rfl 3 rfl ?_
      have ne5 : nq wc wn := gv_ne h_wn h_wc (by simp)
      refine k_iald (v := fc1 t) C 0 ((gv_up_n ne5).trans gv_up_s) rfl (vp_in_nI (by omega) (by omega)) (by rw [nI_clamp (by omega)]) dX7_reckonEach_10 ?_
      refine k_val (y := nI n) hc1 ?_
      refine k_icmp_ge (tgt := 241) C dX7_reckonEach_11 (by decide) (fun c11 => ?_) (fun c11 => ?_)
      · skip
        have b11 : n ≤ i := (nI_leI (a := n) (b := i) (by omega) (by omega)).mp c11
        exact k_vret C zr zlk ⟨fr1, fc1, fw1, rfl, rfl, (by rw [take_all (M := A) hA3 (by omega)] at hR; exact hR), hK⟩ (Nat.le_refl _) (Nat.le_refl _) dX7_reckonEach_241
      · skip
        have b11 : ¬ n ≤ i := fun z => c11 ((nI_leI (a := n) (b := i) (by omega) (by omega)).mpr z)
        refine k_aload_n C dX7_reckonEach_14 rfl 1 rfl ?_
        refine k_iload_n C dX7_reckonEach_15 rfl 3 rfl ?_
        refine k_iload C dX7_reckonEach_16 0 rfl ?_
        have ne6 : nq wr wc := gv_ne h_wc h_wr (by simp)
        have ne7 : nq wr wn := gv_ne h_wn h_wr (by simp)
        refine k_callV C mv_7_101 (c_X7_take  ((gv_up_n ne4).trans ((gv_up_n ne3).trans ((gv_up_n ne2).trans h_m))) ((gv_up_n ne7).trans ((gv_up_n ne6).trans gv_up_s)) gv_up_s (by first | assumption | omega) (by omega)) ((gv_up_n ne4).trans ((gv_up_n ne3).trans ((gv_up_n ne2).trans h_m))) rfl rfl (by simp [Value.category]) ⟨Nat.le_of_ble_eq_true rfl, Nat.le_of_ble_eq_true rfl⟩ ⟨(by decide), (by decide)⟩ dX7_reckonEach_18 (fun zv zV zh => ?_)
        obtain ⟨fw1_w8, rfl, rfl, hw1_w8⟩ := zh
        refine k_pc (pc' := 21) (st' := []) rfl rfl ?_
        refine k_view (V1 := gv_up (gv_up (gv_up V wr (.inl (cI, 57600, .inl fr1))) wc (.inl (cI, 120, .inl fc1))) wn (.inl (cI, 6, .inl fw1_w8))) gv_uu ?_
        have htk := hw1_w8.tr (hA1.at (i := i) (by omega))
        refine k_iconst (v := nI 1) C dX7_reckonEach_21 rfl ?_
        refine k_istore (lv' := [(7, .int (nI 1)), (6, .int (nI i)), (0, .ref m), (1, .int (nI to)), (2, .int (nI t)), (3, .int (nI 2)), (4, .int x), (5, .int y)]) C dX7_reckonEach_22 (by decide) rfl ?_
        refine k_iload_n C dX7_reckonEach_24 rfl 5 rfl ?_
        refine k_iconst (v := nI 5) C dX7_reckonEach_25 rfl ?_
        refine k_icmp_ne (tgt := 40) C dX7_reckonEach_26 (by decide) (fun c26 => ?_) (fun c26 => ?_)
        · skip
          have b26 : ¬ 2 = 5 := fun z => c26 ((nI_eq (a := 2) (b := 5) (by omega) (by omega)).mpr z)
          refine k_iload_n C dX7_reckonEach_40 rfl 5 rfl ?_
          refine k_bipush (v := nI 6) C dX7_reckonEach_41 rfl ?_
          refine k_icmp_ne (tgt := 88) C dX7_reckonEach_43 (by decide) (fun c43 => ?_) (fun c43 => ?_)
          · skip
            have b43 : ¬ 2 = 6 := fun z => c43 ((nI_eq (a := 2) (b := 6) (by omega) (by omega)).mpr z)
            refine k_iload_n C dX7_reckonEach_88 rfl 5 rfl ?_
            refine k_bipush (v := nI 7) C dX7_reckonEach_89 rfl ?_
            refine k_icmp_ne (tgt := 143) C dX7_reckonEach_91 (by decide) (fun c91 => ?_) (fun c91 => ?_)
            · skip
              have b91 : ¬ 2 = 7 := fun z => c91 ((nI_eq (a := 2) (b := 7) (by omega) (by omega)).mpr z)
              refine k_iload_n C dX7_reckonEach_143 rfl 5 rfl ?_
              refine k_bipush (v := nI 8) C dX7_reckonEach_144 rfl ?_
              refine k_icmp_ne (tgt := 195) C dX7_reckonEach_146 (by decide) (fun c146 => ?_) (fun c146 => ?_)
              · skip
                have b146 : ¬ 2 = 8 := fun z => c146 ((nI_eq (a := 2) (b := 8) (by omega) (by omega)).mpr z)
                refine k_iload_n C dX7_reckonEach_195 rfl 5 rfl ?_
                refine k_bipush (v := nI 9) C dX7_reckonEach_196 rfl ?_
                refine k_icmp_ne (tgt := 225) C dX7_reckonEach_198 (by decide) (fun c198 => ?_) (fun c198 => ?_)
                · skip
                  have b198 : ¬ 2 = 9 := fun z => c198 ((nI_eq (a := 2) (b := 9) (by omega) (by omega)).mpr z)
                  refine k_iload C dX7_reckonEach_225 0 rfl ?_
                  refine k_if_eq (tgt := 235) C dX7_reckonEach_227 (by decide) (fun c227 => ?_) (fun c227 => ?_)
                  · exact absurd c227 (by decide)
                  · skip
                    have b227 : ¬ 1 = 0 := fun z => c227 ((nI_eq (a := 1) (b := 0) (by omega) (by omega)).mpr z)
                    refine k_aload_n C dX7_reckonEach_230 rfl 2 rfl ?_
                    refine k_iload_n C dX7_reckonEach_231 rfl 3 rfl ?_
                    refine k_callV C mv_7_112 (c_X7_add  ((gv_up_n ne4).trans ((gv_up_n ne3).trans ((gv_up_n ne2).trans h_m))) ((gv_up_n ne7).trans ((gv_up_n ne6).trans gv_up_s)) ((gv_up_n ne5).trans gv_up_s) gv_up_s (by first | assumption | omega) hR htk) ((gv_up_n ne4).trans ((gv_up_n ne3).trans ((gv_up_n ne2).trans h_m))) rfl rfl (by simp [Value.category]) ⟨Nat.le_of_ble_eq_true rfl, Nat.le_of_ble_eq_true rfl⟩ ⟨(by decide), (by decide)⟩ dX7_reckonEach_232 (fun zv zV zh => ?_)
                    obtain ⟨fc1_w9, fr1_w9, rfl, rfl, hR1_w9, hk1_w9⟩ := zh
                    refine k_pc (pc' := 235) (st' := []) rfl rfl ?_
                    refine k_view (V1 := gv_up (gv_up (gv_up (gv_up V wr (.inl (cI, 57600, .inl fr1_w9))) wc (.inl (cI, 120, .inl fc1))) wn (.inl (cI, 6, .inl fw1_w8))) wc (.inl (cI, 120, .inl fc1_w9))) (congrArg (fun W => gv_up W wc (.inl (cI, 120, .inl fc1_w9))) ((gv_uc ne7).trans (congrArg (fun W => gv_up W wn (.inl (cI, 6, .inl fw1_w8))) ((gv_uc ne6).trans (congrArg (fun W => gv_up W wc (.inl (cI, 120, .inl fc1))) gv_uu))))) ?_
                    refine k_view (V1 := gv_up (gv_up (gv_up V wr (.inl (cI, 57600, .inl fr1_w9))) wc (.inl (cI, 120, .inl fc1_w9))) wn (.inl (cI, 6, .inl fw1_w8))) ((gv_uc ne5).trans (congrArg (fun W => gv_up W wn (.inl (cI, 6, .inl fw1_w8))) gv_uu)) ?_
                    refine k_iinc (v := nI (i + 1)) (lv' := [(6, .int (nI (i + 1))), (7, .int (nI 1)), (0, .ref m), (1, .int (nI to)), (2, .int (nI t)), (3, .int (nI 2)), (4, .int x), (5, .int y)]) C dX7_reckonEach_235 (k := 1) rfl (nI_add i 1) (by decide) rfl ?_
                    refine k_goto (tgt := 3) C dX7_reckonEach_238 (by decide) ?_
                    refine k_sub [0, 2, 3, 4, 5, 6, 7] (lv' := [(6, .int (nI (i + 1))), (0, .ref m), (1, .int (nI to)), (2, .int (nI t)), (3, .int (nI 2)), (4, .int x), (5, .int y)]) rfl ?_
                    exact ih3 (i + 1) fr1_w9 fc1_w9 fw1_w8 (by omega)  (by omega) (by rw [take_s (by omega), ← List.append_assoc]; exact hR1_w9) (hK.tr hk1_w9)
                · exact absurd c198 (by decide)
              · exact absurd c146 (by decide)
            · exact absurd c91 (by decide)
          · exact absurd c43 (by decide)
        · exact absurd c26 (by decide)
  refine k_view (V1 := gv_up V wr (.inl (cI, 57600, .inl fr))) (gv_id h_wr).symm ?_
  have ne10 : nq wc wr := gv_ne h_wr h_wc (by simp)
  refine k_view (V1 := gv_up (gv_up V wr (.inl (cI, 57600, .inl fr))) wc (.inl (cI, 120, .inl fc))) (gv_id ((gv_up_n ne10).trans h_wc)).symm ?_
  have ne11 : nq wn wr := gv_ne h_wr h_wn (by simp)
  have ne12 : nq wn wc := gv_ne h_wc h_wn (by simp)
  refine k_view (V1 := gv_up (gv_up (gv_up V wr (.inl (cI, 57600, .inl fr))) wc (.inl (cI, 120, .inl fc))) wn (.inl (cI, 6, .inl fw))) (gv_id ((gv_up_n ne12).trans ((gv_up_n ne11).trans h_wn))).symm ?_
  exact L3 _ 0 fr fc fw (Nat.lt_succ_self _)  (by omega) (by rw [List.take_zero, List.append_nil]; exact hR0) Kp.rf
set_option maxHeartbeats 4000000 in
set_option maxRecDepth 100000 in
theorem c_each12 {zl : Launch} {D : va_G} {cI cN cR : ClassId} {base : Nat} {V : gv_V} {m wt wa wv wm wr wc wn ws wk wp nt ne nn sh : Nat} {kn : Int32} {fr fc fw : Nat → Int32} {to t n : Nat} {A : List Row} {M0 : List Row} {x y : Int32}  (h_m : V m = some (.inr (7, [.int (nI nt), .ref wt, .int (nI ne), .ref wa, .ref wv, .int (nI nn), .ref wm, .int kn, .ref wr, .ref wc, .ref wn, .int (nI sh), .ref ws, .ref wk, .ref wp]))) (h_wr : V wr = some (.inl (cI, 57600, .inl fr))) (h_wc : V wc = some (.inl (cI, 120, .inl fc))) (h_wn : V wn = some (.inl (cI, 6, .inl fw))) (hto : to < 120) (hA : Tab A n (tbl fr t)) (hcA : fc t = nI n) (hta : ¬ t = to) (ht : t < 120) (hR0 : MRep M0 (fc to) (tbl fr to)) : ct zl D [(cI, .int), (cN, .object "AlgebraTree$Node"), (cR, .object "AlgebraTree$Rows")] base yX7_reckonEach cX7_reckonEach 9 none 4 0 0 [.ref m, .int (nI to), .int (nI t), .int (nI 12), .int x, .int y] V (fun zv zV => ∃ fr1 : Nat → Int32, ∃ fc1 : Nat → Int32, ∃ fw1 : Nat → Int32, zv = none ∧ zV = gv_up (gv_up (gv_up V wr (.inl (cI, 57600, .inl fr1))) wc (.inl (cI, 120, .inl fc1))) wn (.inl (cI, 6, .inl fw1)) ∧ (MRep (M0 ++ A) (fc1 to) (tbl fr1 to)) ∧ (Kp to fc fr fc1 fr1)) := by
  refine ct_of "AlgebraTreeModel" rfl (by decide) (Nat.le_of_ble_eq_true rfl) ?_
  intro zp ze zs zm zargs zbelow zmeth zc C zr zlk znm
  refine k_pc (pc' := 0) (st' := []) rfl rfl ?_
  show K zp zl ze (gv_rm 4 0 0) zs zm zargs zbelow zmeth zc D base 9 (gv_E D [(cI, .int), (cN, .object "AlgebraTree$Node"), (cR, .object "AlgebraTree$Rows")] base zbelow zargs zs 0 0 (fun zv zV => ∃ fr1 : Nat → Int32, ∃ fc1 : Nat → Int32, ∃ fw1 : Nat → Int32, zv = none ∧ zV = gv_up (gv_up (gv_up V wr (.inl (cI, 57600, .inl fr1))) wc (.inl (cI, 120, .inl fc1))) wn (.inl (cI, 6, .inl fw1)) ∧ (MRep (M0 ++ A) (fc1 to) (tbl fr1 to)) ∧ (Kp to fc fr fc1 fr1))) V 0 0 [(0, .ref m), (1, .int (nI to)), (2, .int (nI t)), (3, .int (nI 12)), (4, .int x), (5, .int y)] 0 []
  refine k_iconst (v := nI 0) C dX7_reckonEach_0 rfl ?_
  refine k_istore (lv' := [(6, .int (nI 0)), (0, .ref m), (1, .int (nI to)), (2, .int (nI t)), (3, .int (nI 12)), (4, .int x), (5, .int y)]) C dX7_reckonEach_1 (by decide) rfl ?_
  have L3 : ∀ (zn1 : Nat) (i : Nat) (fr1 : Nat → Int32) (fc1 : Nat → Int32) (fw1 : Nat → Int32), n - i < zn1 → (i ≤ n) → (MRep (M0 ++ (A.take i)) (fc1 to) (tbl fr1 to)) → (Kp to fc fr fc1 fr1) → K zp zl ze (gv_rm 4 0 0) zs zm zargs zbelow zmeth zc D base 9 (gv_E D [(cI, .int), (cN, .object "AlgebraTree$Node"), (cR, .object "AlgebraTree$Rows")] base zbelow zargs zs 0 0 (fun zv zV => ∃ fr1 : Nat → Int32, ∃ fc1 : Nat → Int32, ∃ fw1 : Nat → Int32, zv = none ∧ zV = gv_up (gv_up (gv_up V wr (.inl (cI, 57600, .inl fr1))) wc (.inl (cI, 120, .inl fc1))) wn (.inl (cI, 6, .inl fw1)) ∧ (MRep (M0 ++ A) (fc1 to) (tbl fr1 to)) ∧ (Kp to fc fr fc1 fr1))) (gv_up (gv_up (gv_up V wr (.inl (cI, 57600, .inl fr1))) wc (.inl (cI, 120, .inl fc1))) wn (.inl (cI, 6, .inl fw1))) 0 0 [(6, .int (nI i)), (0, .ref m), (1, .int (nI to)), (2, .int (nI t)), (3, .int (nI 12)), (4, .int x), (5, .int y)] 3 [] := by
    intro zn1
    induction zn1 with
    | zero => intro i fr1 fc1 fw1 hlt; exact absurd hlt (Nat.not_lt_zero _)
    | succ zn1 ih3 =>
      intro i fr1 fc1 fw1 hlt3  hi hR hK
      have hA2 := hA.2.1
      have hA3 := hA.1
      have hA1 := hA.kp hK hta
      have hc1 : fc1 t = nI n := (hK t hta).1.trans hcA
      refine k_iload C dX7_reckonEach_3 0 rfl ?_
      refine k_aload_n C dX7_reckonEach_5 rfl 1 rfl ?_
      have ne2 : nq m wr := gv_ne h_wr h_m (by simp)
      have ne3 : nq m wc := gv_ne h_wc h_m (by simp)
      have ne4 : nq m wn := gv_ne h_wn h_m (by simp)
      refine k_get (ci := 7) (k := 9) C fl_7_26 ((gv_up_n ne4).trans ((gv_up_n ne3).trans ((gv_up_n ne2).trans h_m))) rfl dX7_reckonEach_6 ?_
      refine k_iload_n C dX7_reckonEach_9 rfl 3 rfl ?_
      have ne5 : nq wc wn := gv_ne h_wn h_wc (by simp)
      refine k_iald (v := fc1 t) C 0 ((gv_up_n ne5).trans gv_up_s) rfl (vp_in_nI (by omega) (by omega)) (by rw [nI_clamp (by omega)]) dX7_reckonEach_10 ?_
      refine k_val (y := nI n) hc1 ?_
      refine k_icmp_ge (tgt := 241) C dX7_reckonEach_11 (by decide) (fun c11 => ?_) (fun c11 => ?_)
      · skip
        have b11 : n ≤ i := (nI_leI (a := n) (b := i) (by omega) (by omega)).mp c11
        exact k_vret C zr zlk ⟨fr1, fc1, fw1, rfl, rfl, (by rw [take_all (M := A) hA3 (by omega)] at hR; exact hR), hK⟩ (Nat.le_refl _) (Nat.le_refl _) dX7_reckonEach_241
      · skip
        have b11 : ¬ n ≤ i := fun z => c11 ((nI_leI (a := n) (b := i) (by omega) (by omega)).mpr z)
        refine k_aload_n C dX7_reckonEach_14 rfl 1 rfl ?_
        refine k_iload_n C dX7_reckonEach_15 rfl 3 rfl ?_
        refine k_iload C dX7_reckonEach_16 0 rfl ?_
        have ne6 : nq wr wc := gv_ne h_wc h_wr (by simp)
        have ne7 : nq wr wn := gv_ne h_wn h_wr (by simp)
        refine k_callV C mv_7_101 (c_X7_take  ((gv_up_n ne4).trans ((gv_up_n ne3).trans ((gv_up_n ne2).trans h_m))) ((gv_up_n ne7).trans ((gv_up_n ne6).trans gv_up_s)) gv_up_s (by first | assumption | omega) (by omega)) ((gv_up_n ne4).trans ((gv_up_n ne3).trans ((gv_up_n ne2).trans h_m))) rfl rfl (by simp [Value.category]) ⟨Nat.le_of_ble_eq_true rfl, Nat.le_of_ble_eq_true rfl⟩ ⟨(by decide), (by decide)⟩ dX7_reckonEach_18 (fun zv zV zh => ?_)
        obtain ⟨fw1_w8, rfl, rfl, hw1_w8⟩ := zh
        refine k_pc (pc' := 21) (st' := []) rfl rfl ?_
        refine k_view (V1 := gv_up (gv_up (gv_up V wr (.inl (cI, 57600, .inl fr1))) wc (.inl (cI, 120, .inl fc1))) wn (.inl (cI, 6, .inl fw1_w8))) gv_uu ?_
        have htk := hw1_w8.tr (hA1.at (i := i) (by omega))
        refine k_iconst (v := nI 1) C dX7_reckonEach_21 rfl ?_
        refine k_istore (lv' := [(7, .int (nI 1)), (6, .int (nI i)), (0, .ref m), (1, .int (nI to)), (2, .int (nI t)), (3, .int (nI 12)), (4, .int x), (5, .int y)]) C dX7_reckonEach_22 (by decide) rfl ?_
        refine k_iload_n C dX7_reckonEach_24 rfl 5 rfl ?_
        refine k_iconst (v := nI 5) C dX7_reckonEach_25 rfl ?_
        refine k_icmp_ne (tgt := 40) C dX7_reckonEach_26 (by decide) (fun c26 => ?_) (fun c26 => ?_)
        · skip
          have b26 : ¬ 12 = 5 := fun z => c26 ((nI_eq (a := 12) (b := 5) (by omega) (by omega)).mpr z)
          refine k_iload_n C dX7_reckonEach_40 rfl 5 rfl ?_
          refine k_bipush (v := nI 6) C dX7_reckonEach_41 rfl ?_
          refine k_icmp_ne (tgt := 88) C dX7_reckonEach_43 (by decide) (fun c43 => ?_) (fun c43 => ?_)
          · skip
            have b43 : ¬ 12 = 6 := fun z => c43 ((nI_eq (a := 12) (b := 6) (by omega) (by omega)).mpr z)
            refine k_iload_n C dX7_reckonEach_88 rfl 5 rfl ?_
            refine k_bipush (v := nI 7) C dX7_reckonEach_89 rfl ?_
            refine k_icmp_ne (tgt := 143) C dX7_reckonEach_91 (by decide) (fun c91 => ?_) (fun c91 => ?_)
            · skip
              have b91 : ¬ 12 = 7 := fun z => c91 ((nI_eq (a := 12) (b := 7) (by omega) (by omega)).mpr z)
              refine k_iload_n C dX7_reckonEach_143 rfl 5 rfl ?_
              refine k_bipush (v := nI 8) C dX7_reckonEach_144 rfl ?_
              refine k_icmp_ne (tgt := 195) C dX7_reckonEach_146 (by decide) (fun c146 => ?_) (fun c146 => ?_)
              · skip
                have b146 : ¬ 12 = 8 := fun z => c146 ((nI_eq (a := 12) (b := 8) (by omega) (by omega)).mpr z)
                refine k_iload_n C dX7_reckonEach_195 rfl 5 rfl ?_
                refine k_bipush (v := nI 9) C dX7_reckonEach_196 rfl ?_
                refine k_icmp_ne (tgt := 225) C dX7_reckonEach_198 (by decide) (fun c198 => ?_) (fun c198 => ?_)
                · skip
                  have b198 : ¬ 12 = 9 := fun z => c198 ((nI_eq (a := 12) (b := 9) (by omega) (by omega)).mpr z)
                  refine k_iload C dX7_reckonEach_225 0 rfl ?_
                  refine k_if_eq (tgt := 235) C dX7_reckonEach_227 (by decide) (fun c227 => ?_) (fun c227 => ?_)
                  · exact absurd c227 (by decide)
                  · skip
                    have b227 : ¬ 1 = 0 := fun z => c227 ((nI_eq (a := 1) (b := 0) (by omega) (by omega)).mpr z)
                    refine k_aload_n C dX7_reckonEach_230 rfl 2 rfl ?_
                    refine k_iload_n C dX7_reckonEach_231 rfl 3 rfl ?_
                    refine k_callV C mv_7_112 (c_X7_add  ((gv_up_n ne4).trans ((gv_up_n ne3).trans ((gv_up_n ne2).trans h_m))) ((gv_up_n ne7).trans ((gv_up_n ne6).trans gv_up_s)) ((gv_up_n ne5).trans gv_up_s) gv_up_s (by first | assumption | omega) hR htk) ((gv_up_n ne4).trans ((gv_up_n ne3).trans ((gv_up_n ne2).trans h_m))) rfl rfl (by simp [Value.category]) ⟨Nat.le_of_ble_eq_true rfl, Nat.le_of_ble_eq_true rfl⟩ ⟨(by decide), (by decide)⟩ dX7_reckonEach_232 (fun zv zV zh => ?_)
                    obtain ⟨fc1_w9, fr1_w9, rfl, rfl, hR1_w9, hk1_w9⟩ := zh
                    refine k_pc (pc' := 235) (st' := []) rfl rfl ?_
                    refine k_view (V1 := gv_up (gv_up (gv_up (gv_up V wr (.inl (cI, 57600, .inl fr1_w9))) wc (.inl (cI, 120, .inl fc1))) wn (.inl (cI, 6, .inl fw1_w8))) wc (.inl (cI, 120, .inl fc1_w9))) (congrArg (fun W => gv_up W wc (.inl (cI, 120, .inl fc1_w9))) ((gv_uc ne7).trans (congrArg (fun W => gv_up W wn (.inl (cI, 6, .inl fw1_w8))) ((gv_uc ne6).trans (congrArg (fun W => gv_up W wc (.inl (cI, 120, .inl fc1))) gv_uu))))) ?_
                    refine k_view (V1 := gv_up (gv_up (gv_up V wr (.inl (cI, 57600, .inl fr1_w9))) wc (.inl (cI, 120, .inl fc1_w9))) wn (.inl (cI, 6, .inl fw1_w8))) ((gv_uc ne5).trans (congrArg (fun W => gv_up W wn (.inl (cI, 6, .inl fw1_w8))) gv_uu)) ?_
                    refine k_iinc (v := nI (i + 1)) (lv' := [(6, .int (nI (i + 1))), (7, .int (nI 1)), (0, .ref m), (1, .int (nI to)), (2, .int (nI t)), (3, .int (nI 12)), (4, .int x), (5, .int y)]) C dX7_reckonEach_235 (k := 1) rfl (nI_add i 1) (by decide) rfl ?_
                    refine k_goto (tgt := 3) C dX7_reckonEach_238 (by decide) ?_
                    refine k_sub [0, 2, 3, 4, 5, 6, 7] (lv' := [(6, .int (nI (i + 1))), (0, .ref m), (1, .int (nI to)), (2, .int (nI t)), (3, .int (nI 12)), (4, .int x), (5, .int y)]) rfl ?_
                    exact ih3 (i + 1) fr1_w9 fc1_w9 fw1_w8 (by omega)  (by omega) (by rw [take_s (by omega), ← List.append_assoc]; exact hR1_w9) (hK.tr hk1_w9)
                · exact absurd c198 (by decide)
              · exact absurd c146 (by decide)
            · exact absurd c91 (by decide)
          · exact absurd c43 (by decide)
        · exact absurd c26 (by decide)
  refine k_view (V1 := gv_up V wr (.inl (cI, 57600, .inl fr))) (gv_id h_wr).symm ?_
  have ne10 : nq wc wr := gv_ne h_wr h_wc (by simp)
  refine k_view (V1 := gv_up (gv_up V wr (.inl (cI, 57600, .inl fr))) wc (.inl (cI, 120, .inl fc))) (gv_id ((gv_up_n ne10).trans h_wc)).symm ?_
  have ne11 : nq wn wr := gv_ne h_wr h_wn (by simp)
  have ne12 : nq wn wc := gv_ne h_wc h_wn (by simp)
  refine k_view (V1 := gv_up (gv_up (gv_up V wr (.inl (cI, 57600, .inl fr))) wc (.inl (cI, 120, .inl fc))) wn (.inl (cI, 6, .inl fw))) (gv_id ((gv_up_n ne12).trans ((gv_up_n ne11).trans h_wn))).symm ?_
  exact L3 _ 0 fr fc fw (Nat.lt_succ_self _)  (by omega) (by rw [List.take_zero, List.append_nil]; exact hR0) Kp.rf
set_option maxHeartbeats 4000000 in
set_option maxRecDepth 100000 in
theorem c_each5 {zl : Launch} {D : va_G} {cI cN cR : ClassId} {base : Nat} {V : gv_V} {m wt wa wv wm wr wc wn ws wk wp nt ne nn sh : Nat} {kn : Int32} {fa fv fr fc fw : Nat → Int32} {to t n : Nat} {A : List Row} {M0 : List Row} {E : Nat → Ex} {e : Nat} {y : Int32}  (h_m : V m = some (.inr (7, [.int (nI nt), .ref wt, .int (nI ne), .ref wa, .ref wv, .int (nI nn), .ref wm, .int kn, .ref wr, .ref wc, .ref wn, .int (nI sh), .ref ws, .ref wk, .ref wp]))) (h_wr : V wr = some (.inl (cI, 57600, .inl fr))) (h_wc : V wc = some (.inl (cI, 120, .inl fc))) (h_wn : V wn = some (.inl (cI, 6, .inl fw))) (h_wv : V wv = some (.inl (cI, 30, .inl fv))) (h_wa : V wa = some (.inl (cI, 90, .inl fa))) (hto : to < 120) (hA : Tab A n (tbl fr t)) (hcA : fc t = nI n) (hta : ¬ t = to) (ht : t < 120) (hR0 : MRep M0 (fc to) (tbl fr to)) (hM : MA E ne fa) (he : e < ne) : ct zl D [(cI, .int), (cN, .object "AlgebraTree$Node"), (cR, .object "AlgebraTree$Rows")] base yX7_reckonEach cX7_reckonEach 9 none 4 0 0 [.ref m, .int (nI to), .int (nI t), .int (nI 5), .int (nI e), .int y] V (fun zv zV => ∃ fr1 : Nat → Int32, ∃ fc1 : Nat → Int32, ∃ fw1 : Nat → Int32, ∃ fv1 : Nat → Int32, zv = none ∧ zV = gv_up (gv_up (gv_up (gv_up V wr (.inl (cI, 57600, .inl fr1))) wc (.inl (cI, 120, .inl fc1))) wn (.inl (cI, 6, .inl fw1))) wv (.inl (cI, 30, .inl fv1)) ∧ (MRep (M0 ++ A.filter (fun x => isT (ev E x e))) (fc1 to) (tbl fr1 to)) ∧ (Kp to fc fr fc1 fr1)) := by
  refine ct_of "AlgebraTreeModel" rfl (by decide) (Nat.le_of_ble_eq_true rfl) ?_
  intro zp ze zs zm zargs zbelow zmeth zc C zr zlk znm
  refine k_pc (pc' := 0) (st' := []) rfl rfl ?_
  show K zp zl ze (gv_rm 4 0 0) zs zm zargs zbelow zmeth zc D base 9 (gv_E D [(cI, .int), (cN, .object "AlgebraTree$Node"), (cR, .object "AlgebraTree$Rows")] base zbelow zargs zs 0 0 (fun zv zV => ∃ fr1 : Nat → Int32, ∃ fc1 : Nat → Int32, ∃ fw1 : Nat → Int32, ∃ fv1 : Nat → Int32, zv = none ∧ zV = gv_up (gv_up (gv_up (gv_up V wr (.inl (cI, 57600, .inl fr1))) wc (.inl (cI, 120, .inl fc1))) wn (.inl (cI, 6, .inl fw1))) wv (.inl (cI, 30, .inl fv1)) ∧ (MRep (M0 ++ A.filter (fun x => isT (ev E x e))) (fc1 to) (tbl fr1 to)) ∧ (Kp to fc fr fc1 fr1))) V 0 0 [(0, .ref m), (1, .int (nI to)), (2, .int (nI t)), (3, .int (nI 5)), (4, .int (nI e)), (5, .int y)] 0 []
  refine k_iconst (v := nI 0) C dX7_reckonEach_0 rfl ?_
  refine k_istore (lv' := [(6, .int (nI 0)), (0, .ref m), (1, .int (nI to)), (2, .int (nI t)), (3, .int (nI 5)), (4, .int (nI e)), (5, .int y)]) C dX7_reckonEach_1 (by decide) rfl ?_
  have L3 : ∀ (zn1 : Nat) (i : Nat) (fr1 : Nat → Int32) (fc1 : Nat → Int32) (fw1 : Nat → Int32) (fv1 : Nat → Int32), n - i < zn1 → (i ≤ n) → (MRep (M0 ++ (A.take i).filter (fun x => isT (ev E x e))) (fc1 to) (tbl fr1 to)) → (Kp to fc fr fc1 fr1) → K zp zl ze (gv_rm 4 0 0) zs zm zargs zbelow zmeth zc D base 9 (gv_E D [(cI, .int), (cN, .object "AlgebraTree$Node"), (cR, .object "AlgebraTree$Rows")] base zbelow zargs zs 0 0 (fun zv zV => ∃ fr1 : Nat → Int32, ∃ fc1 : Nat → Int32, ∃ fw1 : Nat → Int32, ∃ fv1 : Nat → Int32, zv = none ∧ zV = gv_up (gv_up (gv_up (gv_up V wr (.inl (cI, 57600, .inl fr1))) wc (.inl (cI, 120, .inl fc1))) wn (.inl (cI, 6, .inl fw1))) wv (.inl (cI, 30, .inl fv1)) ∧ (MRep (M0 ++ A.filter (fun x => isT (ev E x e))) (fc1 to) (tbl fr1 to)) ∧ (Kp to fc fr fc1 fr1))) (gv_up (gv_up (gv_up (gv_up V wr (.inl (cI, 57600, .inl fr1))) wc (.inl (cI, 120, .inl fc1))) wn (.inl (cI, 6, .inl fw1))) wv (.inl (cI, 30, .inl fv1))) 0 0 [(6, .int (nI i)), (0, .ref m), (1, .int (nI to)), (2, .int (nI t)), (3, .int (nI 5)), (4, .int (nI e)), (5, .int y)] 3 [] := by
    intro zn1
    induction zn1 with
    | zero => intro i fr1 fc1 fw1 fv1 hlt; exact absurd hlt (Nat.not_lt_zero _)
    | succ zn1 ih3 =>
      intro i fr1 fc1 fw1 fv1 hlt3  hi hR hK
      have hA2 := hA.2.1
      have hA3 := hA.1
      have hA1 := hA.kp hK hta
      have hc1 : fc1 t = nI n := (hK t hta).1.trans hcA
      have hne30 := hM.1
      refine k_iload C dX7_reckonEach_3 0 rfl ?_
      refine k_aload_n C dX7_reckonEach_5 rfl 1 rfl ?_
      have ne2 : nq m wr := gv_ne h_wr h_m (by simp)
      have ne3 : nq m wc := gv_ne h_wc h_m (by simp)
      have ne4 : nq m wn := gv_ne h_wn h_m (by simp)
      have ne5 : nq m wv := gv_ne h_wv h_m (by simp)
      refine k_get (ci := 7) (k := 9) C fl_7_26 ((gv_up_n ne5).trans ((gv_up_n ne4).trans ((gv_up_n ne3).trans ((gv_up_n ne2).trans h_m)))) rfl dX7_reckonEach_6 ?_
      refine k_iload_n C dX7_reckonEach_9 rfl 3 rfl ?_
      have ne6 : nq wc wn := gv_ne h_wn h_wc (by simp)
      have ne7 : nq wc wv := gv_ne h_wv h_wc (by simp)
      refine k_iald (v := fc1 t) C 0 ((gv_up_n ne7).trans ((gv_up_n ne6).trans gv_up_s)) rfl (vp_in_nI (by omega) (by omega)) (by rw [nI_clamp (by omega)]) dX7_reckonEach_10 ?_
      refine k_val (y := nI n) hc1 ?_
      refine k_icmp_ge (tgt := 241) C dX7_reckonEach_11 (by decide) (fun c11 => ?_) (fun c11 => ?_)
      · skip
        have b11 : n ≤ i := (nI_leI (a := n) (b := i) (by omega) (by omega)).mp c11
        exact k_vret C zr zlk ⟨fr1, fc1, fw1, fv1, rfl, rfl, (by rw [take_all (M := A) hA3 (by omega)] at hR; exact hR), hK⟩ (Nat.le_refl _) (Nat.le_refl _) dX7_reckonEach_241
      · skip
        have b11 : ¬ n ≤ i := fun z => c11 ((nI_leI (a := n) (b := i) (by omega) (by omega)).mpr z)
        refine k_aload_n C dX7_reckonEach_14 rfl 1 rfl ?_
        refine k_iload_n C dX7_reckonEach_15 rfl 3 rfl ?_
        refine k_iload C dX7_reckonEach_16 0 rfl ?_
        have ne8 : nq wr wc := gv_ne h_wc h_wr (by simp)
        have ne9 : nq wr wn := gv_ne h_wn h_wr (by simp)
        have ne10 : nq wr wv := gv_ne h_wv h_wr (by simp)
        have ne11 : nq wn wv := gv_ne h_wv h_wn (by simp)
        refine k_callV C mv_7_101 (c_X7_take  ((gv_up_n ne5).trans ((gv_up_n ne4).trans ((gv_up_n ne3).trans ((gv_up_n ne2).trans h_m)))) ((gv_up_n ne10).trans ((gv_up_n ne9).trans ((gv_up_n ne8).trans gv_up_s))) ((gv_up_n ne11).trans gv_up_s) (by first | assumption | omega) (by omega)) ((gv_up_n ne5).trans ((gv_up_n ne4).trans ((gv_up_n ne3).trans ((gv_up_n ne2).trans h_m)))) rfl rfl (by simp [Value.category]) ⟨Nat.le_of_ble_eq_true rfl, Nat.le_of_ble_eq_true rfl⟩ ⟨(by decide), (by decide)⟩ dX7_reckonEach_18 (fun zv zV zh => ?_)
        obtain ⟨fw1_w12, rfl, rfl, hw1_w12⟩ := zh
        refine k_pc (pc' := 21) (st' := []) rfl rfl ?_
        refine k_view (V1 := gv_up (gv_up (gv_up (gv_up V wr (.inl (cI, 57600, .inl fr1))) wc (.inl (cI, 120, .inl fc1))) wn (.inl (cI, 6, .inl fw1_w12))) wv (.inl (cI, 30, .inl fv1))) ((gv_uc ne11).trans (congrArg (fun W => gv_up W wv (.inl (cI, 30, .inl fv1))) gv_uu)) ?_
        have htk := hw1_w12.tr (hA1.at (i := i) (by omega))
        refine k_iconst (v := nI 1) C dX7_reckonEach_21 rfl ?_
        refine k_istore (lv' := [(7, .int (nI 1)), (6, .int (nI i)), (0, .ref m), (1, .int (nI to)), (2, .int (nI t)), (3, .int (nI 5)), (4, .int (nI e)), (5, .int y)]) C dX7_reckonEach_22 (by decide) rfl ?_
        refine k_iload_n C dX7_reckonEach_24 rfl 5 rfl ?_
        refine k_iconst (v := nI 5) C dX7_reckonEach_25 rfl ?_
        refine k_icmp_ne (tgt := 40) C dX7_reckonEach_26 (by decide) (fun c26 => ?_) (fun c26 => ?_)
        · exact absurd c26 (by decide)
        · skip
          have b26 : 5 = 5 := (nI_eq (a := 5) (b := 5) (by omega) (by omega)).mp c26
          refine k_aload_n C dX7_reckonEach_29 rfl 2 rfl ?_
          refine k_iload C dX7_reckonEach_30 6 rfl ?_
          have ne13 : nq wa wr := gv_ne h_wr h_wa (by simp)
          have ne14 : nq wa wc := gv_ne h_wc h_wa (by simp)
          have ne15 : nq wa wn := gv_ne h_wn h_wa (by simp)
          have ne16 : nq wa wv := gv_ne h_wv h_wa (by simp)
          refine k_callV C mv_7_124 (c_X7_isTrue  ((gv_up_n ne5).trans ((gv_up_n ne4).trans ((gv_up_n ne3).trans ((gv_up_n ne2).trans h_m)))) ((gv_up_n ne16).trans ((gv_up_n ne15).trans ((gv_up_n ne14).trans ((gv_up_n ne13).trans h_wa)))) gv_up_s ((gv_up_n ne11).trans gv_up_s) (by first | assumption | omega) (by first | assumption | omega)) ((gv_up_n ne5).trans ((gv_up_n ne4).trans ((gv_up_n ne3).trans ((gv_up_n ne2).trans h_m)))) rfl rfl (by simp [Value.category]) ⟨Nat.le_of_ble_eq_true rfl, Nat.le_of_ble_eq_true rfl⟩ ⟨(by decide), (by decide)⟩ dX7_reckonEach_32 (fun zv zV zh => ?_)
          obtain ⟨fv1_w17, rfl, rfl⟩ := zh
          refine k_pc (pc' := 35) (st' := .int (bI (isT (ev E fw1_w12 e))) :: []) rfl rfl ?_
          refine k_view (V1 := gv_up (gv_up (gv_up (gv_up V wr (.inl (cI, 57600, .inl fr1))) wc (.inl (cI, 120, .inl fc1))) wn (.inl (cI, 6, .inl fw1_w12))) wv (.inl (cI, 30, .inl fv1_w17))) gv_uu ?_
          refine k_istore (lv' := [(7, .int (bI (isT (ev E fw1_w12 e)))), (6, .int (nI i)), (0, .ref m), (1, .int (nI to)), (2, .int (nI t)), (3, .int (nI 5)), (4, .int (nI e)), (5, .int y)]) C dX7_reckonEach_35 (by decide) rfl ?_
          refine k_goto (tgt := 225) C dX7_reckonEach_37 (by decide) ?_
          refine k_iload C dX7_reckonEach_225 0 rfl ?_
          refine k_if_eq (tgt := 235) C dX7_reckonEach_227 (by decide) (fun c227 => ?_) (fun c227 => ?_)
          · skip
            have b227 : (isT (ev E fw1_w12 e)) = false := bI_0.mp c227
            have hco : isT (ev E (rowAt A i) e) = false := by rw [← hM.c he htk]; exact b227
            refine k_iinc (v := nI (i + 1)) (lv' := [(6, .int (nI (i + 1))), (7, .int (bI (isT (ev E fw1_w12 e)))), (0, .ref m), (1, .int (nI to)), (2, .int (nI t)), (3, .int (nI 5)), (4, .int (nI e)), (5, .int y)]) C dX7_reckonEach_235 (k := 1) rfl (nI_add i 1) (by decide) rfl ?_
            refine k_goto (tgt := 3) C dX7_reckonEach_238 (by decide) ?_
            refine k_sub [0, 2, 3, 4, 5, 6, 7] (lv' := [(6, .int (nI (i + 1))), (0, .ref m), (1, .int (nI to)), (2, .int (nI t)), (3, .int (nI 5)), (4, .int (nI e)), (5, .int y)]) rfl ?_
            exact ih3 (i + 1) fr1 fc1 fw1_w12 fv1_w17 (by omega)  (by omega) (by rw [filt_s (by omega), if_neg (by rw [hco]; decide), List.append_nil]; exact hR) hK
          · skip
            have b227 : (isT (ev E fw1_w12 e)) = true := bI_n.mp c227
            have hco : isT (ev E (rowAt A i) e) = true := by rw [← hM.c he htk]; exact b227
            refine k_aload_n C dX7_reckonEach_230 rfl 2 rfl ?_
            refine k_iload_n C dX7_reckonEach_231 rfl 3 rfl ?_
            refine k_callV C mv_7_112 (c_X7_add  ((gv_up_n ne5).trans ((gv_up_n ne4).trans ((gv_up_n ne3).trans ((gv_up_n ne2).trans h_m)))) ((gv_up_n ne10).trans ((gv_up_n ne9).trans ((gv_up_n ne8).trans gv_up_s))) ((gv_up_n ne7).trans ((gv_up_n ne6).trans gv_up_s)) ((gv_up_n ne11).trans gv_up_s) (by first | assumption | omega) hR htk) ((gv_up_n ne5).trans ((gv_up_n ne4).trans ((gv_up_n ne3).trans ((gv_up_n ne2).trans h_m)))) rfl rfl (by simp [Value.category]) ⟨Nat.le_of_ble_eq_true rfl, Nat.le_of_ble_eq_true rfl⟩ ⟨(by decide), (by decide)⟩ dX7_reckonEach_232 (fun zv zV zh => ?_)
            obtain ⟨fc1_w18, fr1_w18, rfl, rfl, hR1_w18, hk1_w18⟩ := zh
            refine k_pc (pc' := 235) (st' := []) rfl rfl ?_
            refine k_view (V1 := gv_up (gv_up (gv_up (gv_up (gv_up V wr (.inl (cI, 57600, .inl fr1_w18))) wc (.inl (cI, 120, .inl fc1))) wn (.inl (cI, 6, .inl fw1_w12))) wv (.inl (cI, 30, .inl fv1_w17))) wc (.inl (cI, 120, .inl fc1_w18))) (congrArg (fun W => gv_up W wc (.inl (cI, 120, .inl fc1_w18))) ((gv_uc ne10).trans (congrArg (fun W => gv_up W wv (.inl (cI, 30, .inl fv1_w17))) ((gv_uc ne9).trans (congrArg (fun W => gv_up W wn (.inl (cI, 6, .inl fw1_w12))) ((gv_uc ne8).trans (congrArg (fun W => gv_up W wc (.inl (cI, 120, .inl fc1))) gv_uu))))))) ?_
            refine k_view (V1 := gv_up (gv_up (gv_up (gv_up V wr (.inl (cI, 57600, .inl fr1_w18))) wc (.inl (cI, 120, .inl fc1_w18))) wn (.inl (cI, 6, .inl fw1_w12))) wv (.inl (cI, 30, .inl fv1_w17))) ((gv_uc ne7).trans (congrArg (fun W => gv_up W wv (.inl (cI, 30, .inl fv1_w17))) ((gv_uc ne6).trans (congrArg (fun W => gv_up W wn (.inl (cI, 6, .inl fw1_w12))) gv_uu)))) ?_
            refine k_iinc (v := nI (i + 1)) (lv' := [(6, .int (nI (i + 1))), (7, .int (bI (isT (ev E fw1_w12 e)))), (0, .ref m), (1, .int (nI to)), (2, .int (nI t)), (3, .int (nI 5)), (4, .int (nI e)), (5, .int y)]) C dX7_reckonEach_235 (k := 1) rfl (nI_add i 1) (by decide) rfl ?_
            refine k_goto (tgt := 3) C dX7_reckonEach_238 (by decide) ?_
            refine k_sub [0, 2, 3, 4, 5, 6, 7] (lv' := [(6, .int (nI (i + 1))), (0, .ref m), (1, .int (nI to)), (2, .int (nI t)), (3, .int (nI 5)), (4, .int (nI e)), (5, .int y)]) rfl ?_
            exact ih3 (i + 1) fr1_w18 fc1_w18 fw1_w12 fv1_w17 (by omega)  (by omega) (by rw [filt_s (by omega), if_pos hco, ← List.append_assoc]; exact hR1_w18) (hK.tr hk1_w18)
  refine k_view (V1 := gv_up V wr (.inl (cI, 57600, .inl fr))) (gv_id h_wr).symm ?_
  have ne19 : nq wc wr := gv_ne h_wr h_wc (by simp)
  refine k_view (V1 := gv_up (gv_up V wr (.inl (cI, 57600, .inl fr))) wc (.inl (cI, 120, .inl fc))) (gv_id ((gv_up_n ne19).trans h_wc)).symm ?_
  have ne20 : nq wn wr := gv_ne h_wr h_wn (by simp)
  have ne21 : nq wn wc := gv_ne h_wc h_wn (by simp)
  refine k_view (V1 := gv_up (gv_up (gv_up V wr (.inl (cI, 57600, .inl fr))) wc (.inl (cI, 120, .inl fc))) wn (.inl (cI, 6, .inl fw))) (gv_id ((gv_up_n ne21).trans ((gv_up_n ne20).trans h_wn))).symm ?_
  have ne22 : nq wv wr := gv_ne h_wr h_wv (by simp)
  have ne23 : nq wv wc := gv_ne h_wc h_wv (by simp)
  have ne24 : nq wv wn := gv_ne h_wn h_wv (by simp)
  refine k_view (V1 := gv_up (gv_up (gv_up (gv_up V wr (.inl (cI, 57600, .inl fr))) wc (.inl (cI, 120, .inl fc))) wn (.inl (cI, 6, .inl fw))) wv (.inl (cI, 30, .inl fv))) (gv_id ((gv_up_n ne24).trans ((gv_up_n ne23).trans ((gv_up_n ne22).trans h_wv)))).symm ?_
  exact L3 _ 0 fr fc fw fv (Nat.lt_succ_self _)  (by omega) (by rw [List.take_zero, List.filter_nil, List.append_nil]; exact hR0) Kp.rf
set_option maxHeartbeats 4000000 in
set_option maxRecDepth 100000 in
theorem c_each6 {zl : Launch} {D : va_G} {cI cN cR : ClassId} {base : Nat} {V : gv_V} {m wt wa wv wm wr wc wn ws wk wp nt ne nn sh : Nat} {kn : Int32} {fa fv fr fc fw : Nat → Int32} {to t n : Nat} {A : List Row} {M0 : List Row} {E : Nat → Ex} {e vv : Nat}  (h_m : V m = some (.inr (7, [.int (nI nt), .ref wt, .int (nI ne), .ref wa, .ref wv, .int (nI nn), .ref wm, .int kn, .ref wr, .ref wc, .ref wn, .int (nI sh), .ref ws, .ref wk, .ref wp]))) (h_wr : V wr = some (.inl (cI, 57600, .inl fr))) (h_wc : V wc = some (.inl (cI, 120, .inl fc))) (h_wn : V wn = some (.inl (cI, 6, .inl fw))) (h_wv : V wv = some (.inl (cI, 30, .inl fv))) (h_wa : V wa = some (.inl (cI, 90, .inl fa))) (hto : to < 120) (hA : Tab A n (tbl fr t)) (hcA : fc t = nI n) (hta : ¬ t = to) (ht : t < 120) (hR0 : MRep M0 (fc to) (tbl fr to)) (hM : MA E ne fa) (he : e < ne) (hvv : vv < 6) : ct zl D [(cI, .int), (cN, .object "AlgebraTree$Node"), (cR, .object "AlgebraTree$Rows")] base yX7_reckonEach cX7_reckonEach 9 none 4 0 0 [.ref m, .int (nI to), .int (nI t), .int (nI 6), .int (nI vv), .int (nI e)] V (fun zv zV => ∃ fr1 : Nat → Int32, ∃ fc1 : Nat → Int32, ∃ fw1 : Nat → Int32, ∃ fv1 : Nat → Int32, zv = none ∧ zV = gv_up (gv_up (gv_up (gv_up V wr (.inl (cI, 57600, .inl fr1))) wc (.inl (cI, 120, .inl fc1))) wn (.inl (cI, 6, .inl fw1))) wv (.inl (cI, 30, .inl fv1)) ∧ (MRep (M0 ++ A.map (fun x => extR vv (ev E x e) x)) (fc1 to) (tbl fr1 to)) ∧ (Kp to fc fr fc1 fr1)) := by
  refine ct_of "AlgebraTreeModel" rfl (by decide) (Nat.le_of_ble_eq_true rfl) ?_
  intro zp ze zs zm zargs zbelow zmeth zc C zr zlk znm
  refine k_pc (pc' := 0) (st' := []) rfl rfl ?_
  show K zp zl ze (gv_rm 4 0 0) zs zm zargs zbelow zmeth zc D base 9 (gv_E D [(cI, .int), (cN, .object "AlgebraTree$Node"), (cR, .object "AlgebraTree$Rows")] base zbelow zargs zs 0 0 (fun zv zV => ∃ fr1 : Nat → Int32, ∃ fc1 : Nat → Int32, ∃ fw1 : Nat → Int32, ∃ fv1 : Nat → Int32, zv = none ∧ zV = gv_up (gv_up (gv_up (gv_up V wr (.inl (cI, 57600, .inl fr1))) wc (.inl (cI, 120, .inl fc1))) wn (.inl (cI, 6, .inl fw1))) wv (.inl (cI, 30, .inl fv1)) ∧ (MRep (M0 ++ A.map (fun x => extR vv (ev E x e) x)) (fc1 to) (tbl fr1 to)) ∧ (Kp to fc fr fc1 fr1))) V 0 0 [(0, .ref m), (1, .int (nI to)), (2, .int (nI t)), (3, .int (nI 6)), (4, .int (nI vv)), (5, .int (nI e))] 0 []
  refine k_iconst (v := nI 0) C dX7_reckonEach_0 rfl ?_
  refine k_istore (lv' := [(6, .int (nI 0)), (0, .ref m), (1, .int (nI to)), (2, .int (nI t)), (3, .int (nI 6)), (4, .int (nI vv)), (5, .int (nI e))]) C dX7_reckonEach_1 (by decide) rfl ?_
  have L3 : ∀ (zn1 : Nat) (i : Nat) (fr1 : Nat → Int32) (fc1 : Nat → Int32) (fw1 : Nat → Int32) (fv1 : Nat → Int32), n - i < zn1 → (i ≤ n) → (MRep (M0 ++ (A.take i).map (fun x => extR vv (ev E x e) x)) (fc1 to) (tbl fr1 to)) → (Kp to fc fr fc1 fr1) → K zp zl ze (gv_rm 4 0 0) zs zm zargs zbelow zmeth zc D base 9 (gv_E D [(cI, .int), (cN, .object "AlgebraTree$Node"), (cR, .object "AlgebraTree$Rows")] base zbelow zargs zs 0 0 (fun zv zV => ∃ fr1 : Nat → Int32, ∃ fc1 : Nat → Int32, ∃ fw1 : Nat → Int32, ∃ fv1 : Nat → Int32, zv = none ∧ zV = gv_up (gv_up (gv_up (gv_up V wr (.inl (cI, 57600, .inl fr1))) wc (.inl (cI, 120, .inl fc1))) wn (.inl (cI, 6, .inl fw1))) wv (.inl (cI, 30, .inl fv1)) ∧ (MRep (M0 ++ A.map (fun x => extR vv (ev E x e) x)) (fc1 to) (tbl fr1 to)) ∧ (Kp to fc fr fc1 fr1))) (gv_up (gv_up (gv_up (gv_up V wr (.inl (cI, 57600, .inl fr1))) wc (.inl (cI, 120, .inl fc1))) wn (.inl (cI, 6, .inl fw1))) wv (.inl (cI, 30, .inl fv1))) 0 0 [(6, .int (nI i)), (0, .ref m), (1, .int (nI to)), (2, .int (nI t)), (3, .int (nI 6)), (4, .int (nI vv)), (5, .int (nI e))] 3 [] := by
    intro zn1
    induction zn1 with
    | zero => intro i fr1 fc1 fw1 fv1 hlt; exact absurd hlt (Nat.not_lt_zero _)
    | succ zn1 ih3 =>
      intro i fr1 fc1 fw1 fv1 hlt3  hi hR hK
      have hA2 := hA.2.1
      have hA3 := hA.1
      have hA1 := hA.kp hK hta
      have hc1 : fc1 t = nI n := (hK t hta).1.trans hcA
      have hne30 := hM.1
      refine k_iload C dX7_reckonEach_3 0 rfl ?_
      refine k_aload_n C dX7_reckonEach_5 rfl 1 rfl ?_
      have ne2 : nq m wr := gv_ne h_wr h_m (by simp)
      have ne3 : nq m wc := gv_ne h_wc h_m (by simp)
      have ne4 : nq m wn := gv_ne h_wn h_m (by simp)
      have ne5 : nq m wv := gv_ne h_wv h_m (by simp)
      refine k_get (ci := 7) (k := 9) C fl_7_26 ((gv_up_n ne5).trans ((gv_up_n ne4).trans ((gv_up_n ne3).trans ((gv_up_n ne2).trans h_m)))) rfl dX7_reckonEach_6 ?_
      refine k_iload_n C dX7_reckonEach_9 rfl 3 rfl ?_
      have ne6 : nq wc wn := gv_ne h_wn h_wc (by simp)
      have ne7 : nq wc wv := gv_ne h_wv h_wc (by simp)
      refine k_iald (v := fc1 t) C 0 ((gv_up_n ne7).trans ((gv_up_n ne6).trans gv_up_s)) rfl (vp_in_nI (by omega) (by omega)) (by rw [nI_clamp (by omega)]) dX7_reckonEach_10 ?_
      refine k_val (y := nI n) hc1 ?_
      refine k_icmp_ge (tgt := 241) C dX7_reckonEach_11 (by decide) (fun c11 => ?_) (fun c11 => ?_)
      · skip
        have b11 : n ≤ i := (nI_leI (a := n) (b := i) (by omega) (by omega)).mp c11
        exact k_vret C zr zlk ⟨fr1, fc1, fw1, fv1, rfl, rfl, (by rw [take_all (M := A) hA3 (by omega)] at hR; exact hR), hK⟩ (Nat.le_refl _) (Nat.le_refl _) dX7_reckonEach_241
      · skip
        have b11 : ¬ n ≤ i := fun z => c11 ((nI_leI (a := n) (b := i) (by omega) (by omega)).mpr z)
        refine k_aload_n C dX7_reckonEach_14 rfl 1 rfl ?_
        refine k_iload_n C dX7_reckonEach_15 rfl 3 rfl ?_
        refine k_iload C dX7_reckonEach_16 0 rfl ?_
        have ne8 : nq wr wc := gv_ne h_wc h_wr (by simp)
        have ne9 : nq wr wn := gv_ne h_wn h_wr (by simp)
        have ne10 : nq wr wv := gv_ne h_wv h_wr (by simp)
        have ne11 : nq wn wv := gv_ne h_wv h_wn (by simp)
        refine k_callV C mv_7_101 (c_X7_take  ((gv_up_n ne5).trans ((gv_up_n ne4).trans ((gv_up_n ne3).trans ((gv_up_n ne2).trans h_m)))) ((gv_up_n ne10).trans ((gv_up_n ne9).trans ((gv_up_n ne8).trans gv_up_s))) ((gv_up_n ne11).trans gv_up_s) (by first | assumption | omega) (by omega)) ((gv_up_n ne5).trans ((gv_up_n ne4).trans ((gv_up_n ne3).trans ((gv_up_n ne2).trans h_m)))) rfl rfl (by simp [Value.category]) ⟨Nat.le_of_ble_eq_true rfl, Nat.le_of_ble_eq_true rfl⟩ ⟨(by decide), (by decide)⟩ dX7_reckonEach_18 (fun zv zV zh => ?_)
        obtain ⟨fw1_w12, rfl, rfl, hw1_w12⟩ := zh
        refine k_pc (pc' := 21) (st' := []) rfl rfl ?_
        refine k_view (V1 := gv_up (gv_up (gv_up (gv_up V wr (.inl (cI, 57600, .inl fr1))) wc (.inl (cI, 120, .inl fc1))) wn (.inl (cI, 6, .inl fw1_w12))) wv (.inl (cI, 30, .inl fv1))) ((gv_uc ne11).trans (congrArg (fun W => gv_up W wv (.inl (cI, 30, .inl fv1))) gv_uu)) ?_
        have htk := hw1_w12.tr (hA1.at (i := i) (by omega))
        refine k_iconst (v := nI 1) C dX7_reckonEach_21 rfl ?_
        refine k_istore (lv' := [(7, .int (nI 1)), (6, .int (nI i)), (0, .ref m), (1, .int (nI to)), (2, .int (nI t)), (3, .int (nI 6)), (4, .int (nI vv)), (5, .int (nI e))]) C dX7_reckonEach_22 (by decide) rfl ?_
        refine k_iload_n C dX7_reckonEach_24 rfl 5 rfl ?_
        refine k_iconst (v := nI 5) C dX7_reckonEach_25 rfl ?_
        refine k_icmp_ne (tgt := 40) C dX7_reckonEach_26 (by decide) (fun c26 => ?_) (fun c26 => ?_)
        · skip
          have b26 : ¬ 6 = 5 := fun z => c26 ((nI_eq (a := 6) (b := 5) (by omega) (by omega)).mpr z)
          refine k_iload_n C dX7_reckonEach_40 rfl 5 rfl ?_
          refine k_bipush (v := nI 6) C dX7_reckonEach_41 rfl ?_
          refine k_icmp_ne (tgt := 88) C dX7_reckonEach_43 (by decide) (fun c43 => ?_) (fun c43 => ?_)
          · exact absurd c43 (by decide)
          · skip
            have b43 : 6 = 6 := (nI_eq (a := 6) (b := 6) (by omega) (by omega)).mp c43
            refine k_aload_n C dX7_reckonEach_46 rfl 2 rfl ?_
            refine k_iload C dX7_reckonEach_47 7 rfl ?_
            have ne13 : nq wa wr := gv_ne h_wr h_wa (by simp)
            have ne14 : nq wa wc := gv_ne h_wc h_wa (by simp)
            have ne15 : nq wa wn := gv_ne h_wn h_wa (by simp)
            have ne16 : nq wa wv := gv_ne h_wv h_wa (by simp)
            refine k_callV C mv_7_81 (c_X7_valueOf  ((gv_up_n ne5).trans ((gv_up_n ne4).trans ((gv_up_n ne3).trans ((gv_up_n ne2).trans h_m)))) ((gv_up_n ne16).trans ((gv_up_n ne15).trans ((gv_up_n ne14).trans ((gv_up_n ne13).trans h_wa)))) gv_up_s ((gv_up_n ne11).trans gv_up_s) (by first | assumption | omega) (by first | assumption | omega)) ((gv_up_n ne5).trans ((gv_up_n ne4).trans ((gv_up_n ne3).trans ((gv_up_n ne2).trans h_m)))) rfl rfl (by simp [Value.category]) ⟨Nat.le_of_ble_eq_true rfl, Nat.le_of_ble_eq_true rfl⟩ ⟨(by decide), (by decide)⟩ dX7_reckonEach_49 (fun zv zV zh => ?_)
            obtain ⟨fv1_w17, rfl, rfl⟩ := zh
            refine k_pc (pc' := 52) (st' := .int (ev E fw1_w12 e) :: []) rfl rfl ?_
            refine k_view (V1 := gv_up (gv_up (gv_up (gv_up V wr (.inl (cI, 57600, .inl fr1))) wc (.inl (cI, 120, .inl fc1))) wn (.inl (cI, 6, .inl fw1_w12))) wv (.inl (cI, 30, .inl fv1_w17))) gv_uu ?_
            refine k_istore (lv' := [(8, .int (ev E fw1_w12 e)), (7, .int (nI 1)), (6, .int (nI i)), (0, .ref m), (1, .int (nI to)), (2, .int (nI t)), (3, .int (nI 6)), (4, .int (nI vv)), (5, .int (nI e))]) C dX7_reckonEach_52 (by decide) rfl ?_
            refine k_aload_n C dX7_reckonEach_54 rfl 3 rfl ?_
            refine k_get (ci := 7) (k := 10) C fl_7_29 ((gv_up_n ne5).trans ((gv_up_n ne4).trans ((gv_up_n ne3).trans ((gv_up_n ne2).trans h_m)))) rfl dX7_reckonEach_55 ?_
            refine k_iload C dX7_reckonEach_58 7 rfl ?_
            refine k_aload_n C dX7_reckonEach_60 rfl 3 rfl ?_
            refine k_get (ci := 7) (k := 10) C fl_7_29 ((gv_up_n ne5).trans ((gv_up_n ne4).trans ((gv_up_n ne3).trans ((gv_up_n ne2).trans h_m)))) rfl dX7_reckonEach_61 ?_
            refine k_iload C dX7_reckonEach_64 7 rfl ?_
            refine k_iald (v := fw1_w12 vv) C 0 ((gv_up_n ne11).trans gv_up_s) rfl (vp_in_nI (by omega) (by omega)) (by rw [nI_clamp (by omega)]) dX7_reckonEach_66 ?_
            refine k_ldc (v := (-2147483648)) C wd_784 dX7_reckonEach_67 ?_
            refine k_icmp_ne (tgt := 77) C dX7_reckonEach_69 (by decide) (fun c69 => ?_) (fun c69 => ?_)
            · skip
              refine k_aload_n C dX7_reckonEach_77 rfl 3 rfl ?_
              refine k_get (ci := 7) (k := 10) C fl_7_29 ((gv_up_n ne5).trans ((gv_up_n ne4).trans ((gv_up_n ne3).trans ((gv_up_n ne2).trans h_m)))) rfl dX7_reckonEach_78 ?_
              refine k_iload C dX7_reckonEach_81 7 rfl ?_
              refine k_iald (v := fw1_w12 vv) C 0 ((gv_up_n ne11).trans gv_up_s) rfl (vp_in_nI (by omega) (by omega)) (by rw [nI_clamp (by omega)]) dX7_reckonEach_83 ?_
              refine k_iast (f' := upd fw1_w12 vv (fw1_w12 vv)) C 0 ((gv_up_n ne11).trans gv_up_s) rfl (vp_in_nI (by omega) (by omega)) (by rw [nI_clamp (by omega)]) dX7_reckonEach_84 ?_
              refine k_view (V1 := gv_up (gv_up (gv_up (gv_up V wr (.inl (cI, 57600, .inl fr1))) wc (.inl (cI, 120, .inl fc1))) wn (.inl (cI, 6, .inl (upd fw1_w12 vv (fw1_w12 vv))))) wv (.inl (cI, 30, .inl fv1_w17))) ((gv_uc ne11).trans (congrArg (fun W => gv_up W wv (.inl (cI, 30, .inl fv1_w17))) gv_uu)) ?_
              refine k_goto (tgt := 225) C dX7_reckonEach_85 (by decide) ?_
              refine k_iload C dX7_reckonEach_225 1 rfl ?_
              refine k_if_eq (tgt := 235) C dX7_reckonEach_227 (by decide) (fun c227 => ?_) (fun c227 => ?_)
              · exact absurd c227 (by decide)
              · skip
                have b227 : ¬ 1 = 0 := fun z => c227 ((nI_eq (a := 1) (b := 0) (by omega) (by omega)).mpr z)
                refine k_aload_n C dX7_reckonEach_230 rfl 3 rfl ?_
                refine k_iload_n C dX7_reckonEach_231 rfl 4 rfl ?_
                refine k_callV C mv_7_112 (c_X7_add  ((gv_up_n ne5).trans ((gv_up_n ne4).trans ((gv_up_n ne3).trans ((gv_up_n ne2).trans h_m)))) ((gv_up_n ne10).trans ((gv_up_n ne9).trans ((gv_up_n ne8).trans gv_up_s))) ((gv_up_n ne7).trans ((gv_up_n ne6).trans gv_up_s)) ((gv_up_n ne11).trans gv_up_s) (by first | assumption | omega) hR (show eq6 _ (extR vv (ev E (rowAt A i) e) (rowAt A i)) from fun z hz => by rw [← hM.c he htk, ← extR_w htk hvv hz]; first | rw [if_pos c69] | rw [if_neg c69])) ((gv_up_n ne5).trans ((gv_up_n ne4).trans ((gv_up_n ne3).trans ((gv_up_n ne2).trans h_m)))) rfl rfl (by simp [Value.category]) ⟨Nat.le_of_ble_eq_true rfl, Nat.le_of_ble_eq_true rfl⟩ ⟨(by decide), (by decide)⟩ dX7_reckonEach_232 (fun zv zV zh => ?_)
                obtain ⟨fc1_w18, fr1_w18, rfl, rfl, hR1_w18, hk1_w18⟩ := zh
                refine k_pc (pc' := 235) (st' := []) rfl rfl ?_
                refine k_view (V1 := gv_up (gv_up (gv_up (gv_up (gv_up V wr (.inl (cI, 57600, .inl fr1_w18))) wc (.inl (cI, 120, .inl fc1))) wn (.inl (cI, 6, .inl (upd fw1_w12 vv (fw1_w12 vv))))) wv (.inl (cI, 30, .inl fv1_w17))) wc (.inl (cI, 120, .inl fc1_w18))) (congrArg (fun W => gv_up W wc (.inl (cI, 120, .inl fc1_w18))) ((gv_uc ne10).trans (congrArg (fun W => gv_up W wv (.inl (cI, 30, .inl fv1_w17))) ((gv_uc ne9).trans (congrArg (fun W => gv_up W wn (.inl (cI, 6, .inl (upd fw1_w12 vv (fw1_w12 vv))))) ((gv_uc ne8).trans (congrArg (fun W => gv_up W wc (.inl (cI, 120, .inl fc1))) gv_uu))))))) ?_
                refine k_view (V1 := gv_up (gv_up (gv_up (gv_up V wr (.inl (cI, 57600, .inl fr1_w18))) wc (.inl (cI, 120, .inl fc1_w18))) wn (.inl (cI, 6, .inl (upd fw1_w12 vv (fw1_w12 vv))))) wv (.inl (cI, 30, .inl fv1_w17))) ((gv_uc ne7).trans (congrArg (fun W => gv_up W wv (.inl (cI, 30, .inl fv1_w17))) ((gv_uc ne6).trans (congrArg (fun W => gv_up W wn (.inl (cI, 6, .inl (upd fw1_w12 vv (fw1_w12 vv))))) gv_uu)))) ?_
                refine k_iinc (v := nI (i + 1)) (lv' := [(6, .int (nI (i + 1))), (8, .int (ev E fw1_w12 e)), (7, .int (nI 1)), (0, .ref m), (1, .int (nI to)), (2, .int (nI t)), (3, .int (nI 6)), (4, .int (nI vv)), (5, .int (nI e))]) C dX7_reckonEach_235 (k := 2) rfl (nI_add i 1) (by decide) rfl ?_
                refine k_goto (tgt := 3) C dX7_reckonEach_238 (by decide) ?_
                refine k_sub [0, 3, 4, 5, 6, 7, 8] (lv' := [(6, .int (nI (i + 1))), (0, .ref m), (1, .int (nI to)), (2, .int (nI t)), (3, .int (nI 6)), (4, .int (nI vv)), (5, .int (nI e))]) rfl ?_
                exact ih3 (i + 1) fr1_w18 fc1_w18 (upd fw1_w12 vv (fw1_w12 vv)) fv1_w17 (by omega)  (by omega) (by rw [map_s (by omega), ← List.append_assoc]; exact hR1_w18) (hK.tr hk1_w18)
            · skip
              refine k_iload C dX7_reckonEach_72 0 rfl ?_
              refine k_goto (tgt := 84) C dX7_reckonEach_74 (by decide) ?_
              refine k_iast (f' := upd fw1_w12 vv (ev E fw1_w12 e)) C 0 ((gv_up_n ne11).trans gv_up_s) rfl (vp_in_nI (by omega) (by omega)) (by rw [nI_clamp (by omega)]) dX7_reckonEach_84 ?_
              refine k_view (V1 := gv_up (gv_up (gv_up (gv_up V wr (.inl (cI, 57600, .inl fr1))) wc (.inl (cI, 120, .inl fc1))) wn (.inl (cI, 6, .inl (upd fw1_w12 vv (ev E fw1_w12 e))))) wv (.inl (cI, 30, .inl fv1_w17))) ((gv_uc ne11).trans (congrArg (fun W => gv_up W wv (.inl (cI, 30, .inl fv1_w17))) gv_uu)) ?_
              refine k_goto (tgt := 225) C dX7_reckonEach_85 (by decide) ?_
              refine k_iload C dX7_reckonEach_225 1 rfl ?_
              refine k_if_eq (tgt := 235) C dX7_reckonEach_227 (by decide) (fun c227 => ?_) (fun c227 => ?_)
              · exact absurd c227 (by decide)
              · skip
                have b227 : ¬ 1 = 0 := fun z => c227 ((nI_eq (a := 1) (b := 0) (by omega) (by omega)).mpr z)
                refine k_aload_n C dX7_reckonEach_230 rfl 3 rfl ?_
                refine k_iload_n C dX7_reckonEach_231 rfl 4 rfl ?_
                refine k_callV C mv_7_112 (c_X7_add  ((gv_up_n ne5).trans ((gv_up_n ne4).trans ((gv_up_n ne3).trans ((gv_up_n ne2).trans h_m)))) ((gv_up_n ne10).trans ((gv_up_n ne9).trans ((gv_up_n ne8).trans gv_up_s))) ((gv_up_n ne7).trans ((gv_up_n ne6).trans gv_up_s)) ((gv_up_n ne11).trans gv_up_s) (by first | assumption | omega) hR (show eq6 _ (extR vv (ev E (rowAt A i) e) (rowAt A i)) from fun z hz => by rw [← hM.c he htk, ← extR_w htk hvv hz]; first | rw [if_pos c69] | rw [if_neg c69])) ((gv_up_n ne5).trans ((gv_up_n ne4).trans ((gv_up_n ne3).trans ((gv_up_n ne2).trans h_m)))) rfl rfl (by simp [Value.category]) ⟨Nat.le_of_ble_eq_true rfl, Nat.le_of_ble_eq_true rfl⟩ ⟨(by decide), (by decide)⟩ dX7_reckonEach_232 (fun zv zV zh => ?_)
                obtain ⟨fc1_w19, fr1_w19, rfl, rfl, hR1_w19, hk1_w19⟩ := zh
                refine k_pc (pc' := 235) (st' := []) rfl rfl ?_
                refine k_view (V1 := gv_up (gv_up (gv_up (gv_up (gv_up V wr (.inl (cI, 57600, .inl fr1_w19))) wc (.inl (cI, 120, .inl fc1))) wn (.inl (cI, 6, .inl (upd fw1_w12 vv (ev E fw1_w12 e))))) wv (.inl (cI, 30, .inl fv1_w17))) wc (.inl (cI, 120, .inl fc1_w19))) (congrArg (fun W => gv_up W wc (.inl (cI, 120, .inl fc1_w19))) ((gv_uc ne10).trans (congrArg (fun W => gv_up W wv (.inl (cI, 30, .inl fv1_w17))) ((gv_uc ne9).trans (congrArg (fun W => gv_up W wn (.inl (cI, 6, .inl (upd fw1_w12 vv (ev E fw1_w12 e))))) ((gv_uc ne8).trans (congrArg (fun W => gv_up W wc (.inl (cI, 120, .inl fc1))) gv_uu))))))) ?_
                refine k_view (V1 := gv_up (gv_up (gv_up (gv_up V wr (.inl (cI, 57600, .inl fr1_w19))) wc (.inl (cI, 120, .inl fc1_w19))) wn (.inl (cI, 6, .inl (upd fw1_w12 vv (ev E fw1_w12 e))))) wv (.inl (cI, 30, .inl fv1_w17))) ((gv_uc ne7).trans (congrArg (fun W => gv_up W wv (.inl (cI, 30, .inl fv1_w17))) ((gv_uc ne6).trans (congrArg (fun W => gv_up W wn (.inl (cI, 6, .inl (upd fw1_w12 vv (ev E fw1_w12 e))))) gv_uu)))) ?_
                refine k_iinc (v := nI (i + 1)) (lv' := [(6, .int (nI (i + 1))), (8, .int (ev E fw1_w12 e)), (7, .int (nI 1)), (0, .ref m), (1, .int (nI to)), (2, .int (nI t)), (3, .int (nI 6)), (4, .int (nI vv)), (5, .int (nI e))]) C dX7_reckonEach_235 (k := 2) rfl (nI_add i 1) (by decide) rfl ?_
                refine k_goto (tgt := 3) C dX7_reckonEach_238 (by decide) ?_
                refine k_sub [0, 3, 4, 5, 6, 7, 8] (lv' := [(6, .int (nI (i + 1))), (0, .ref m), (1, .int (nI to)), (2, .int (nI t)), (3, .int (nI 6)), (4, .int (nI vv)), (5, .int (nI e))]) rfl ?_
                exact ih3 (i + 1) fr1_w19 fc1_w19 (upd fw1_w12 vv (ev E fw1_w12 e)) fv1_w17 (by omega)  (by omega) (by rw [map_s (by omega), ← List.append_assoc]; exact hR1_w19) (hK.tr hk1_w19)
        · exact absurd c26 (by decide)
  refine k_view (V1 := gv_up V wr (.inl (cI, 57600, .inl fr))) (gv_id h_wr).symm ?_
  have ne20 : nq wc wr := gv_ne h_wr h_wc (by simp)
  refine k_view (V1 := gv_up (gv_up V wr (.inl (cI, 57600, .inl fr))) wc (.inl (cI, 120, .inl fc))) (gv_id ((gv_up_n ne20).trans h_wc)).symm ?_
  have ne21 : nq wn wr := gv_ne h_wr h_wn (by simp)
  have ne22 : nq wn wc := gv_ne h_wc h_wn (by simp)
  refine k_view (V1 := gv_up (gv_up (gv_up V wr (.inl (cI, 57600, .inl fr))) wc (.inl (cI, 120, .inl fc))) wn (.inl (cI, 6, .inl fw))) (gv_id ((gv_up_n ne22).trans ((gv_up_n ne21).trans h_wn))).symm ?_
  have ne23 : nq wv wr := gv_ne h_wr h_wv (by simp)
  have ne24 : nq wv wc := gv_ne h_wc h_wv (by simp)
  have ne25 : nq wv wn := gv_ne h_wn h_wv (by simp)
  refine k_view (V1 := gv_up (gv_up (gv_up (gv_up V wr (.inl (cI, 57600, .inl fr))) wc (.inl (cI, 120, .inl fc))) wn (.inl (cI, 6, .inl fw))) wv (.inl (cI, 30, .inl fv))) (gv_id ((gv_up_n ne25).trans ((gv_up_n ne24).trans ((gv_up_n ne23).trans h_wv)))).symm ?_
  exact L3 _ 0 fr fc fw fv (Nat.lt_succ_self _)  (by omega) (by rw [List.take_zero, List.map_nil, List.append_nil]; exact hR0) Kp.rf
set_option maxHeartbeats 4000000 in
set_option maxRecDepth 100000 in
theorem c_each7 {zl : Launch} {D : va_G} {cI cN cR : ClassId} {base : Nat} {V : gv_V} {m wt wa wv wm wr wc wn ws wk wp nt ne nn sh : Nat} {kn : Int32} {fr fc fw : Nat → Int32} {to t n : Nat} {A : List Row} {M0 : List Row} {st y : Int32}  (h_m : V m = some (.inr (7, [.int (nI nt), .ref wt, .int (nI ne), .ref wa, .ref wv, .int (nI nn), .ref wm, .int kn, .ref wr, .ref wc, .ref wn, .int (nI sh), .ref ws, .ref wk, .ref wp]))) (h_wr : V wr = some (.inl (cI, 57600, .inl fr))) (h_wc : V wc = some (.inl (cI, 120, .inl fc))) (h_wn : V wn = some (.inl (cI, 6, .inl fw))) (hto : to < 120) (hA : Tab A n (tbl fr t)) (hcA : fc t = nI n) (hta : ¬ t = to) (ht : t < 120) (hR0 : MRep M0 (fc to) (tbl fr to)) : ct zl D [(cI, .int), (cN, .object "AlgebraTree$Node"), (cR, .object "AlgebraTree$Rows")] base yX7_reckonEach cX7_reckonEach 9 none 4 0 0 [.ref m, .int (nI to), .int (nI t), .int (nI 7), .int st, .int y] V (fun zv zV => ∃ fr1 : Nat → Int32, ∃ fc1 : Nat → Int32, ∃ fw1 : Nat → Int32, zv = none ∧ zV = gv_up (gv_up (gv_up V wr (.inl (cI, 57600, .inl fr1))) wc (.inl (cI, 120, .inl fc1))) wn (.inl (cI, 6, .inl fw1)) ∧ (MRep (M0 ++ A.map (prj st)) (fc1 to) (tbl fr1 to)) ∧ (Kp to fc fr fc1 fr1)) := by
  refine ct_of "AlgebraTreeModel" rfl (by decide) (Nat.le_of_ble_eq_true rfl) ?_
  intro zp ze zs zm zargs zbelow zmeth zc C zr zlk znm
  refine k_pc (pc' := 0) (st' := []) rfl rfl ?_
  show K zp zl ze (gv_rm 4 0 0) zs zm zargs zbelow zmeth zc D base 9 (gv_E D [(cI, .int), (cN, .object "AlgebraTree$Node"), (cR, .object "AlgebraTree$Rows")] base zbelow zargs zs 0 0 (fun zv zV => ∃ fr1 : Nat → Int32, ∃ fc1 : Nat → Int32, ∃ fw1 : Nat → Int32, zv = none ∧ zV = gv_up (gv_up (gv_up V wr (.inl (cI, 57600, .inl fr1))) wc (.inl (cI, 120, .inl fc1))) wn (.inl (cI, 6, .inl fw1)) ∧ (MRep (M0 ++ A.map (prj st)) (fc1 to) (tbl fr1 to)) ∧ (Kp to fc fr fc1 fr1))) V 0 0 [(0, .ref m), (1, .int (nI to)), (2, .int (nI t)), (3, .int (nI 7)), (4, .int st), (5, .int y)] 0 []
  refine k_iconst (v := nI 0) C dX7_reckonEach_0 rfl ?_
  refine k_istore (lv' := [(6, .int (nI 0)), (0, .ref m), (1, .int (nI to)), (2, .int (nI t)), (3, .int (nI 7)), (4, .int st), (5, .int y)]) C dX7_reckonEach_1 (by decide) rfl ?_
  have L3 : ∀ (zn1 : Nat) (i : Nat) (fr1 : Nat → Int32) (fc1 : Nat → Int32) (fw1 : Nat → Int32), n - i < zn1 → (i ≤ n) → (MRep (M0 ++ (A.take i).map (prj st)) (fc1 to) (tbl fr1 to)) → (Kp to fc fr fc1 fr1) → K zp zl ze (gv_rm 4 0 0) zs zm zargs zbelow zmeth zc D base 9 (gv_E D [(cI, .int), (cN, .object "AlgebraTree$Node"), (cR, .object "AlgebraTree$Rows")] base zbelow zargs zs 0 0 (fun zv zV => ∃ fr1 : Nat → Int32, ∃ fc1 : Nat → Int32, ∃ fw1 : Nat → Int32, zv = none ∧ zV = gv_up (gv_up (gv_up V wr (.inl (cI, 57600, .inl fr1))) wc (.inl (cI, 120, .inl fc1))) wn (.inl (cI, 6, .inl fw1)) ∧ (MRep (M0 ++ A.map (prj st)) (fc1 to) (tbl fr1 to)) ∧ (Kp to fc fr fc1 fr1))) (gv_up (gv_up (gv_up V wr (.inl (cI, 57600, .inl fr1))) wc (.inl (cI, 120, .inl fc1))) wn (.inl (cI, 6, .inl fw1))) 0 0 [(6, .int (nI i)), (0, .ref m), (1, .int (nI to)), (2, .int (nI t)), (3, .int (nI 7)), (4, .int st), (5, .int y)] 3 [] := by
    intro zn1
    induction zn1 with
    | zero => intro i fr1 fc1 fw1 hlt; exact absurd hlt (Nat.not_lt_zero _)
    | succ zn1 ih3 =>
      intro i fr1 fc1 fw1 hlt3  hi hR hK
      have hA2 := hA.2.1
      have hA3 := hA.1
      have hA1 := hA.kp hK hta
      have hc1 : fc1 t = nI n := (hK t hta).1.trans hcA
      refine k_iload C dX7_reckonEach_3 0 rfl ?_
      refine k_aload_n C dX7_reckonEach_5 rfl 1 rfl ?_
      have ne2 : nq m wr := gv_ne h_wr h_m (by simp)
      have ne3 : nq m wc := gv_ne h_wc h_m (by simp)
      have ne4 : nq m wn := gv_ne h_wn h_m (by simp)
      refine k_get (ci := 7) (k := 9) C fl_7_26 ((gv_up_n ne4).trans ((gv_up_n ne3).trans ((gv_up_n ne2).trans h_m))) rfl dX7_reckonEach_6 ?_
      refine k_iload_n C dX7_reckonEach_9 rfl 3 rfl ?_
      have ne5 : nq wc wn := gv_ne h_wn h_wc (by simp)
      refine k_iald (v := fc1 t) C 0 ((gv_up_n ne5).trans gv_up_s) rfl (vp_in_nI (by omega) (by omega)) (by rw [nI_clamp (by omega)]) dX7_reckonEach_10 ?_
      refine k_val (y := nI n) hc1 ?_
      refine k_icmp_ge (tgt := 241) C dX7_reckonEach_11 (by decide) (fun c11 => ?_) (fun c11 => ?_)
      · skip
        have b11 : n ≤ i := (nI_leI (a := n) (b := i) (by omega) (by omega)).mp c11
        exact k_vret C zr zlk ⟨fr1, fc1, fw1, rfl, rfl, (by rw [take_all (M := A) hA3 (by omega)] at hR; exact hR), hK⟩ (Nat.le_refl _) (Nat.le_refl _) dX7_reckonEach_241
      · skip
        have b11 : ¬ n ≤ i := fun z => c11 ((nI_leI (a := n) (b := i) (by omega) (by omega)).mpr z)
        refine k_aload_n C dX7_reckonEach_14 rfl 1 rfl ?_
        refine k_iload_n C dX7_reckonEach_15 rfl 3 rfl ?_
        refine k_iload C dX7_reckonEach_16 0 rfl ?_
        have ne6 : nq wr wc := gv_ne h_wc h_wr (by simp)
        have ne7 : nq wr wn := gv_ne h_wn h_wr (by simp)
        refine k_callV C mv_7_101 (c_X7_take  ((gv_up_n ne4).trans ((gv_up_n ne3).trans ((gv_up_n ne2).trans h_m))) ((gv_up_n ne7).trans ((gv_up_n ne6).trans gv_up_s)) gv_up_s (by first | assumption | omega) (by omega)) ((gv_up_n ne4).trans ((gv_up_n ne3).trans ((gv_up_n ne2).trans h_m))) rfl rfl (by simp [Value.category]) ⟨Nat.le_of_ble_eq_true rfl, Nat.le_of_ble_eq_true rfl⟩ ⟨(by decide), (by decide)⟩ dX7_reckonEach_18 (fun zv zV zh => ?_)
        obtain ⟨fw1_w8, rfl, rfl, hw1_w8⟩ := zh
        refine k_pc (pc' := 21) (st' := []) rfl rfl ?_
        refine k_view (V1 := gv_up (gv_up (gv_up V wr (.inl (cI, 57600, .inl fr1))) wc (.inl (cI, 120, .inl fc1))) wn (.inl (cI, 6, .inl fw1_w8))) gv_uu ?_
        have htk := hw1_w8.tr (hA1.at (i := i) (by omega))
        refine k_iconst (v := nI 1) C dX7_reckonEach_21 rfl ?_
        refine k_istore (lv' := [(7, .int (nI 1)), (6, .int (nI i)), (0, .ref m), (1, .int (nI to)), (2, .int (nI t)), (3, .int (nI 7)), (4, .int st), (5, .int y)]) C dX7_reckonEach_22 (by decide) rfl ?_
        refine k_iload_n C dX7_reckonEach_24 rfl 5 rfl ?_
        refine k_iconst (v := nI 5) C dX7_reckonEach_25 rfl ?_
        refine k_icmp_ne (tgt := 40) C dX7_reckonEach_26 (by decide) (fun c26 => ?_) (fun c26 => ?_)
        · skip
          have b26 : ¬ 7 = 5 := fun z => c26 ((nI_eq (a := 7) (b := 5) (by omega) (by omega)).mpr z)
          refine k_iload_n C dX7_reckonEach_40 rfl 5 rfl ?_
          refine k_bipush (v := nI 6) C dX7_reckonEach_41 rfl ?_
          refine k_icmp_ne (tgt := 88) C dX7_reckonEach_43 (by decide) (fun c43 => ?_) (fun c43 => ?_)
          · skip
            have b43 : ¬ 7 = 6 := fun z => c43 ((nI_eq (a := 7) (b := 6) (by omega) (by omega)).mpr z)
            refine k_iload_n C dX7_reckonEach_88 rfl 5 rfl ?_
            refine k_bipush (v := nI 7) C dX7_reckonEach_89 rfl ?_
            refine k_icmp_ne (tgt := 143) C dX7_reckonEach_91 (by decide) (fun c91 => ?_) (fun c91 => ?_)
            · exact absurd c91 (by decide)
            · skip
              have b91 : 7 = 7 := (nI_eq (a := 7) (b := 7) (by omega) (by omega)).mp c91
              refine k_iconst (v := nI 0) C dX7_reckonEach_94 rfl ?_
              refine k_istore (lv' := [(8, .int (nI 0)), (7, .int (nI 1)), (6, .int (nI i)), (0, .ref m), (1, .int (nI to)), (2, .int (nI t)), (3, .int (nI 7)), (4, .int st), (5, .int y)]) C dX7_reckonEach_95 (by decide) rfl ?_
              have L97 : ∀ (zn9 : Nat) (k : Nat) (fw2 : Nat → Int32), 6 - k < zn9 → (k ≤ 6) → (∀ z, z < k → fw2 z = prj st (rowAt A i) z) → (∀ z, k ≤ z → z < 6 → fw2 z = rowAt A i z) → K zp zl ze (gv_rm 4 0 0) zs zm zargs zbelow zmeth zc D base 9 (gv_E D [(cI, .int), (cN, .object "AlgebraTree$Node"), (cR, .object "AlgebraTree$Rows")] base zbelow zargs zs 0 0 (fun zv zV => ∃ fr1 : Nat → Int32, ∃ fc1 : Nat → Int32, ∃ fw1 : Nat → Int32, zv = none ∧ zV = gv_up (gv_up (gv_up V wr (.inl (cI, 57600, .inl fr1))) wc (.inl (cI, 120, .inl fc1))) wn (.inl (cI, 6, .inl fw1)) ∧ (MRep (M0 ++ A.map (prj st)) (fc1 to) (tbl fr1 to)) ∧ (Kp to fc fr fc1 fr1))) (gv_up (gv_up (gv_up V wr (.inl (cI, 57600, .inl fr1))) wc (.inl (cI, 120, .inl fc1))) wn (.inl (cI, 6, .inl fw2))) 0 0 [(8, .int (nI k)), (7, .int (nI 1)), (6, .int (nI i)), (0, .ref m), (1, .int (nI to)), (2, .int (nI t)), (3, .int (nI 7)), (4, .int st), (5, .int y)] 97 [] := by
                intro zn9
                induction zn9 with
                | zero => intro k fw2 hlt; exact absurd hlt (Nat.not_lt_zero _)
                | succ zn9 ih97 =>
                  intro k fw2 hlt97  hk hal hhi
                  refine k_iload C dX7_reckonEach_97 0 rfl ?_
                  refine k_bipush (v := nI 6) C dX7_reckonEach_99 rfl ?_
                  refine k_icmp_ge (tgt := 140) C dX7_reckonEach_101 (by decide) (fun c101 => ?_) (fun c101 => ?_)
                  · skip
                    have b101 : 6 ≤ k := (nI_leI (a := 6) (b := k) (by omega) (by omega)).mp c101
                    refine k_goto (tgt := 225) C dX7_reckonEach_140 (by decide) ?_
                    refine k_iload C dX7_reckonEach_225 1 rfl ?_
                    refine k_if_eq (tgt := 235) C dX7_reckonEach_227 (by decide) (fun c227 => ?_) (fun c227 => ?_)
                    · exact absurd c227 (by decide)
                    · skip
                      have b227 : ¬ 1 = 0 := fun z => c227 ((nI_eq (a := 1) (b := 0) (by omega) (by omega)).mpr z)
                      refine k_aload_n C dX7_reckonEach_230 rfl 3 rfl ?_
                      refine k_iload_n C dX7_reckonEach_231 rfl 4 rfl ?_
                      refine k_callV C mv_7_112 (c_X7_add  ((gv_up_n ne4).trans ((gv_up_n ne3).trans ((gv_up_n ne2).trans h_m))) ((gv_up_n ne7).trans ((gv_up_n ne6).trans gv_up_s)) ((gv_up_n ne5).trans gv_up_s) gv_up_s (by first | assumption | omega) hR (fun z hz => hal z (by omega))) ((gv_up_n ne4).trans ((gv_up_n ne3).trans ((gv_up_n ne2).trans h_m))) rfl rfl (by simp [Value.category]) ⟨Nat.le_of_ble_eq_true rfl, Nat.le_of_ble_eq_true rfl⟩ ⟨(by decide), (by decide)⟩ dX7_reckonEach_232 (fun zv zV zh => ?_)
                      obtain ⟨fc1_w10, fr1_w10, rfl, rfl, hR1_w10, hk1_w10⟩ := zh
                      refine k_pc (pc' := 235) (st' := []) rfl rfl ?_
                      refine k_view (V1 := gv_up (gv_up (gv_up (gv_up V wr (.inl (cI, 57600, .inl fr1_w10))) wc (.inl (cI, 120, .inl fc1))) wn (.inl (cI, 6, .inl fw2))) wc (.inl (cI, 120, .inl fc1_w10))) (congrArg (fun W => gv_up W wc (.inl (cI, 120, .inl fc1_w10))) ((gv_uc ne7).trans (congrArg (fun W => gv_up W wn (.inl (cI, 6, .inl fw2))) ((gv_uc ne6).trans (congrArg (fun W => gv_up W wc (.inl (cI, 120, .inl fc1))) gv_uu))))) ?_
                      refine k_view (V1 := gv_up (gv_up (gv_up V wr (.inl (cI, 57600, .inl fr1_w10))) wc (.inl (cI, 120, .inl fc1_w10))) wn (.inl (cI, 6, .inl fw2))) ((gv_uc ne5).trans (congrArg (fun W => gv_up W wn (.inl (cI, 6, .inl fw2))) gv_uu)) ?_
                      refine k_iinc (v := nI (i + 1)) (lv' := [(6, .int (nI (i + 1))), (8, .int (nI k)), (7, .int (nI 1)), (0, .ref m), (1, .int (nI to)), (2, .int (nI t)), (3, .int (nI 7)), (4, .int st), (5, .int y)]) C dX7_reckonEach_235 (k := 2) rfl (nI_add i 1) (by decide) rfl ?_
                      refine k_goto (tgt := 3) C dX7_reckonEach_238 (by decide) ?_
                      refine k_sub [0, 3, 4, 5, 6, 7, 8] (lv' := [(6, .int (nI (i + 1))), (0, .ref m), (1, .int (nI to)), (2, .int (nI t)), (3, .int (nI 7)), (4, .int st), (5, .int y)]) rfl ?_
                      exact ih3 (i + 1) fr1_w10 fc1_w10 fw2 (by omega)  (by omega) (by rw [map_s (by omega), ← List.append_assoc]; exact hR1_w10) (hK.tr hk1_w10)
                  · skip
                    have b101 : ¬ 6 ≤ k := fun z => c101 ((nI_leI (a := 6) (b := k) (by omega) (by omega)).mpr z)
                    refine k_aload_n C dX7_reckonEach_104 rfl 3 rfl ?_
                    refine k_get (ci := 7) (k := 10) C fl_7_29 ((gv_up_n ne4).trans ((gv_up_n ne3).trans ((gv_up_n ne2).trans h_m))) rfl dX7_reckonEach_105 ?_
                    refine k_iload C dX7_reckonEach_108 0 rfl ?_
                    refine k_iload C dX7_reckonEach_110 7 rfl ?_
                    refine k_iload C dX7_reckonEach_112 0 rfl ?_
                    refine k_ishr C dX7_reckonEach_114 ?_
                    refine k_iconst (v := nI 1) C dX7_reckonEach_115 rfl ?_
                    refine k_iand C dX7_reckonEach_116 ?_
                    refine k_iconst (v := nI 1) C dX7_reckonEach_117 rfl ?_
                    refine k_icmp_ne (tgt := 131) C dX7_reckonEach_118 (by decide) (fun c118 => ?_) (fun c118 => ?_)
                    · skip
                      refine k_ldc (v := (-2147483648)) C wd_784 dX7_reckonEach_131 ?_
                      refine k_iast (f' := upd fw2 k (-2147483648 : Int32)) C 0 gv_up_s rfl (vp_in_nI (by omega) (by omega)) (by rw [nI_clamp (by omega)]) dX7_reckonEach_133 ?_
                      refine k_view (V1 := gv_up (gv_up (gv_up V wr (.inl (cI, 57600, .inl fr1))) wc (.inl (cI, 120, .inl fc1))) wn (.inl (cI, 6, .inl (upd fw2 k (-2147483648 : Int32))))) gv_uu ?_
                      refine k_iinc (v := nI (k + 1)) (lv' := [(8, .int (nI (k + 1))), (7, .int (nI 1)), (6, .int (nI i)), (0, .ref m), (1, .int (nI to)), (2, .int (nI t)), (3, .int (nI 7)), (4, .int st), (5, .int y)]) C dX7_reckonEach_134 (k := 0) rfl (nI_add k 1) (by decide) rfl ?_
                      refine k_goto (tgt := 97) C dX7_reckonEach_137 (by decide) ?_
                      exact ih97 (k + 1) (upd fw2 k (-2147483648 : Int32)) (by omega)  (by omega) (upd_nx hal (by have h9 := hhi k (Nat.le_refl _) (by omega); simp only [prj]; first | (rw [if_pos (inS_1.mp c118)]; exact h9) | rw [if_neg (fun h => c118 (inS_1.mpr h))])) (fun z h1 h2 => by simp only [upd]; rw [if_neg (by omega)]; exact hhi z (by omega) h2)
                    · skip
                      refine k_aload_n C dX7_reckonEach_121 rfl 3 rfl ?_
                      refine k_get (ci := 7) (k := 10) C fl_7_29 ((gv_up_n ne4).trans ((gv_up_n ne3).trans ((gv_up_n ne2).trans h_m))) rfl dX7_reckonEach_122 ?_
                      refine k_iload C dX7_reckonEach_125 0 rfl ?_
                      refine k_iald (v := fw2 k) C 0 gv_up_s rfl (vp_in_nI (by omega) (by omega)) (by rw [nI_clamp (by omega)]) dX7_reckonEach_127 ?_
                      refine k_goto (tgt := 133) C dX7_reckonEach_128 (by decide) ?_
                      refine k_iast (f' := upd fw2 k (fw2 k)) C 0 gv_up_s rfl (vp_in_nI (by omega) (by omega)) (by rw [nI_clamp (by omega)]) dX7_reckonEach_133 ?_
                      refine k_view (V1 := gv_up (gv_up (gv_up V wr (.inl (cI, 57600, .inl fr1))) wc (.inl (cI, 120, .inl fc1))) wn (.inl (cI, 6, .inl (upd fw2 k (fw2 k))))) gv_uu ?_
                      refine k_iinc (v := nI (k + 1)) (lv' := [(8, .int (nI (k + 1))), (7, .int (nI 1)), (6, .int (nI i)), (0, .ref m), (1, .int (nI to)), (2, .int (nI t)), (3, .int (nI 7)), (4, .int st), (5, .int y)]) C dX7_reckonEach_134 (k := 0) rfl (nI_add k 1) (by decide) rfl ?_
                      refine k_goto (tgt := 97) C dX7_reckonEach_137 (by decide) ?_
                      exact ih97 (k + 1) (upd fw2 k (fw2 k)) (by omega)  (by omega) (upd_nx hal (by have h9 := hhi k (Nat.le_refl _) (by omega); simp only [prj]; first | (rw [if_pos (inS_1.mp c118)]; exact h9) | rw [if_neg (fun h => c118 (inS_1.mpr h))])) (fun z h1 h2 => by simp only [upd]; rw [if_neg (by omega)]; exact hhi z (by omega) h2)
              exact L97 _ 0 fw1_w8 (Nat.lt_succ_self _)  (by omega) (fun _ h => absurd h (Nat.not_lt_zero _)) (fun z _ hz => htk z hz)
          · exact absurd c43 (by decide)
        · exact absurd c26 (by decide)
  refine k_view (V1 := gv_up V wr (.inl (cI, 57600, .inl fr))) (gv_id h_wr).symm ?_
  have ne11 : nq wc wr := gv_ne h_wr h_wc (by simp)
  refine k_view (V1 := gv_up (gv_up V wr (.inl (cI, 57600, .inl fr))) wc (.inl (cI, 120, .inl fc))) (gv_id ((gv_up_n ne11).trans h_wc)).symm ?_
  have ne12 : nq wn wr := gv_ne h_wr h_wn (by simp)
  have ne13 : nq wn wc := gv_ne h_wc h_wn (by simp)
  refine k_view (V1 := gv_up (gv_up (gv_up V wr (.inl (cI, 57600, .inl fr))) wc (.inl (cI, 120, .inl fc))) wn (.inl (cI, 6, .inl fw))) (gv_id ((gv_up_n ne13).trans ((gv_up_n ne12).trans h_wn))).symm ?_
  exact L3 _ 0 fr fc fw (Nat.lt_succ_self _)  (by omega) (by rw [List.take_zero, List.map_nil, List.append_nil]; exact hR0) Kp.rf
set_option maxHeartbeats 4000000 in
set_option maxRecDepth 100000 in
theorem c_each8 {zl : Launch} {D : va_G} {cI cN cR : ClassId} {base : Nat} {V : gv_V} {m wt wa wv wm wr wc wn ws wk wp nt ne nn sh : Nat} {kn : Int32} {fr fc fw : Nat → Int32} {to t n : Nat} {A : List Row} {M0 : List Row} {x y : Int32}  (h_m : V m = some (.inr (7, [.int (nI nt), .ref wt, .int (nI ne), .ref wa, .ref wv, .int (nI nn), .ref wm, .int kn, .ref wr, .ref wc, .ref wn, .int (nI sh), .ref ws, .ref wk, .ref wp]))) (h_wr : V wr = some (.inl (cI, 57600, .inl fr))) (h_wc : V wc = some (.inl (cI, 120, .inl fc))) (h_wn : V wn = some (.inl (cI, 6, .inl fw))) (hto : to < 120) (hA : Tab A n (tbl fr t)) (hcA : fc t = nI n) (hta : ¬ t = to) (ht : t < 120) (hR0 : MRep M0 (fc to) (tbl fr to)) : ct zl D [(cI, .int), (cN, .object "AlgebraTree$Node"), (cR, .object "AlgebraTree$Rows")] base yX7_reckonEach cX7_reckonEach 9 none 4 0 0 [.ref m, .int (nI to), .int (nI t), .int (nI 8), .int x, .int y] V (fun zv zV => ∃ fr1 : Nat → Int32, ∃ fc1 : Nat → Int32, ∃ fw1 : Nat → Int32, zv = none ∧ zV = gv_up (gv_up (gv_up V wr (.inl (cI, 57600, .inl fr1))) wc (.inl (cI, 120, .inl fc1))) wn (.inl (cI, 6, .inl fw1)) ∧ (MRep (M0 ++ distL (nI 63) A) (fc1 to) (tbl fr1 to)) ∧ (Kp to fc fr fc1 fr1)) := by
  refine ct_of "AlgebraTreeModel" rfl (by decide) (Nat.le_of_ble_eq_true rfl) ?_
  intro zp ze zs zm zargs zbelow zmeth zc C zr zlk znm
  refine k_pc (pc' := 0) (st' := []) rfl rfl ?_
  show K zp zl ze (gv_rm 4 0 0) zs zm zargs zbelow zmeth zc D base 9 (gv_E D [(cI, .int), (cN, .object "AlgebraTree$Node"), (cR, .object "AlgebraTree$Rows")] base zbelow zargs zs 0 0 (fun zv zV => ∃ fr1 : Nat → Int32, ∃ fc1 : Nat → Int32, ∃ fw1 : Nat → Int32, zv = none ∧ zV = gv_up (gv_up (gv_up V wr (.inl (cI, 57600, .inl fr1))) wc (.inl (cI, 120, .inl fc1))) wn (.inl (cI, 6, .inl fw1)) ∧ (MRep (M0 ++ distL (nI 63) A) (fc1 to) (tbl fr1 to)) ∧ (Kp to fc fr fc1 fr1))) V 0 0 [(0, .ref m), (1, .int (nI to)), (2, .int (nI t)), (3, .int (nI 8)), (4, .int x), (5, .int y)] 0 []
  refine k_iconst (v := nI 0) C dX7_reckonEach_0 rfl ?_
  refine k_istore (lv' := [(6, .int (nI 0)), (0, .ref m), (1, .int (nI to)), (2, .int (nI t)), (3, .int (nI 8)), (4, .int x), (5, .int y)]) C dX7_reckonEach_1 (by decide) rfl ?_
  have L3 : ∀ (zn1 : Nat) (i : Nat) (fr1 : Nat → Int32) (fc1 : Nat → Int32) (fw1 : Nat → Int32), n - i < zn1 → (i ≤ n) → (MRep (M0 ++ distL (nI 63) (A.take i)) (fc1 to) (tbl fr1 to)) → (Kp to fc fr fc1 fr1) → K zp zl ze (gv_rm 4 0 0) zs zm zargs zbelow zmeth zc D base 9 (gv_E D [(cI, .int), (cN, .object "AlgebraTree$Node"), (cR, .object "AlgebraTree$Rows")] base zbelow zargs zs 0 0 (fun zv zV => ∃ fr1 : Nat → Int32, ∃ fc1 : Nat → Int32, ∃ fw1 : Nat → Int32, zv = none ∧ zV = gv_up (gv_up (gv_up V wr (.inl (cI, 57600, .inl fr1))) wc (.inl (cI, 120, .inl fc1))) wn (.inl (cI, 6, .inl fw1)) ∧ (MRep (M0 ++ distL (nI 63) A) (fc1 to) (tbl fr1 to)) ∧ (Kp to fc fr fc1 fr1))) (gv_up (gv_up (gv_up V wr (.inl (cI, 57600, .inl fr1))) wc (.inl (cI, 120, .inl fc1))) wn (.inl (cI, 6, .inl fw1))) 0 0 [(6, .int (nI i)), (0, .ref m), (1, .int (nI to)), (2, .int (nI t)), (3, .int (nI 8)), (4, .int x), (5, .int y)] 3 [] := by
    intro zn1
    induction zn1 with
    | zero => intro i fr1 fc1 fw1 hlt; exact absurd hlt (Nat.not_lt_zero _)
    | succ zn1 ih3 =>
      intro i fr1 fc1 fw1 hlt3  hi hR hK
      have hA2 := hA.2.1
      have hA3 := hA.1
      have hA1 := hA.kp hK hta
      have hc1 : fc1 t = nI n := (hK t hta).1.trans hcA
      refine k_iload C dX7_reckonEach_3 0 rfl ?_
      refine k_aload_n C dX7_reckonEach_5 rfl 1 rfl ?_
      have ne2 : nq m wr := gv_ne h_wr h_m (by simp)
      have ne3 : nq m wc := gv_ne h_wc h_m (by simp)
      have ne4 : nq m wn := gv_ne h_wn h_m (by simp)
      refine k_get (ci := 7) (k := 9) C fl_7_26 ((gv_up_n ne4).trans ((gv_up_n ne3).trans ((gv_up_n ne2).trans h_m))) rfl dX7_reckonEach_6 ?_
      refine k_iload_n C dX7_reckonEach_9 rfl 3 rfl ?_
      have ne5 : nq wc wn := gv_ne h_wn h_wc (by simp)
      refine k_iald (v := fc1 t) C 0 ((gv_up_n ne5).trans gv_up_s) rfl (vp_in_nI (by omega) (by omega)) (by rw [nI_clamp (by omega)]) dX7_reckonEach_10 ?_
      refine k_val (y := nI n) hc1 ?_
      refine k_icmp_ge (tgt := 241) C dX7_reckonEach_11 (by decide) (fun c11 => ?_) (fun c11 => ?_)
      · skip
        have b11 : n ≤ i := (nI_leI (a := n) (b := i) (by omega) (by omega)).mp c11
        exact k_vret C zr zlk ⟨fr1, fc1, fw1, rfl, rfl, (by rw [take_all (M := A) hA3 (by omega)] at hR; exact hR), hK⟩ (Nat.le_refl _) (Nat.le_refl _) dX7_reckonEach_241
      · skip
        have b11 : ¬ n ≤ i := fun z => c11 ((nI_leI (a := n) (b := i) (by omega) (by omega)).mpr z)
        refine k_aload_n C dX7_reckonEach_14 rfl 1 rfl ?_
        refine k_iload_n C dX7_reckonEach_15 rfl 3 rfl ?_
        refine k_iload C dX7_reckonEach_16 0 rfl ?_
        have ne6 : nq wr wc := gv_ne h_wc h_wr (by simp)
        have ne7 : nq wr wn := gv_ne h_wn h_wr (by simp)
        refine k_callV C mv_7_101 (c_X7_take  ((gv_up_n ne4).trans ((gv_up_n ne3).trans ((gv_up_n ne2).trans h_m))) ((gv_up_n ne7).trans ((gv_up_n ne6).trans gv_up_s)) gv_up_s (by first | assumption | omega) (by omega)) ((gv_up_n ne4).trans ((gv_up_n ne3).trans ((gv_up_n ne2).trans h_m))) rfl rfl (by simp [Value.category]) ⟨Nat.le_of_ble_eq_true rfl, Nat.le_of_ble_eq_true rfl⟩ ⟨(by decide), (by decide)⟩ dX7_reckonEach_18 (fun zv zV zh => ?_)
        obtain ⟨fw1_w8, rfl, rfl, hw1_w8⟩ := zh
        refine k_pc (pc' := 21) (st' := []) rfl rfl ?_
        refine k_view (V1 := gv_up (gv_up (gv_up V wr (.inl (cI, 57600, .inl fr1))) wc (.inl (cI, 120, .inl fc1))) wn (.inl (cI, 6, .inl fw1_w8))) gv_uu ?_
        have htk := hw1_w8.tr (hA1.at (i := i) (by omega))
        refine k_iconst (v := nI 1) C dX7_reckonEach_21 rfl ?_
        refine k_istore (lv' := [(7, .int (nI 1)), (6, .int (nI i)), (0, .ref m), (1, .int (nI to)), (2, .int (nI t)), (3, .int (nI 8)), (4, .int x), (5, .int y)]) C dX7_reckonEach_22 (by decide) rfl ?_
        refine k_iload_n C dX7_reckonEach_24 rfl 5 rfl ?_
        refine k_iconst (v := nI 5) C dX7_reckonEach_25 rfl ?_
        refine k_icmp_ne (tgt := 40) C dX7_reckonEach_26 (by decide) (fun c26 => ?_) (fun c26 => ?_)
        · skip
          have b26 : ¬ 8 = 5 := fun z => c26 ((nI_eq (a := 8) (b := 5) (by omega) (by omega)).mpr z)
          refine k_iload_n C dX7_reckonEach_40 rfl 5 rfl ?_
          refine k_bipush (v := nI 6) C dX7_reckonEach_41 rfl ?_
          refine k_icmp_ne (tgt := 88) C dX7_reckonEach_43 (by decide) (fun c43 => ?_) (fun c43 => ?_)
          · skip
            have b43 : ¬ 8 = 6 := fun z => c43 ((nI_eq (a := 8) (b := 6) (by omega) (by omega)).mpr z)
            refine k_iload_n C dX7_reckonEach_88 rfl 5 rfl ?_
            refine k_bipush (v := nI 7) C dX7_reckonEach_89 rfl ?_
            refine k_icmp_ne (tgt := 143) C dX7_reckonEach_91 (by decide) (fun c91 => ?_) (fun c91 => ?_)
            · skip
              have b91 : ¬ 8 = 7 := fun z => c91 ((nI_eq (a := 8) (b := 7) (by omega) (by omega)).mpr z)
              refine k_iload_n C dX7_reckonEach_143 rfl 5 rfl ?_
              refine k_bipush (v := nI 8) C dX7_reckonEach_144 rfl ?_
              refine k_icmp_ne (tgt := 195) C dX7_reckonEach_146 (by decide) (fun c146 => ?_) (fun c146 => ?_)
              · exact absurd c146 (by decide)
              · skip
                have b146 : 8 = 8 := (nI_eq (a := 8) (b := 8) (by omega) (by omega)).mp c146
                refine k_iconst (v := nI 0) C dX7_reckonEach_149 rfl ?_
                refine k_istore (lv' := [(8, .int (nI 0)), (7, .int (nI 1)), (6, .int (nI i)), (0, .ref m), (1, .int (nI to)), (2, .int (nI t)), (3, .int (nI 8)), (4, .int x), (5, .int y)]) C dX7_reckonEach_150 (by decide) rfl ?_
                have L152 : ∀ (zn9 : Nat) (j : Nat) (sb : Bool), i - j < zn9 → (j ≤ i) → (sb = al (fun j => !lik (nI 63) (rowAt A i) (rowAt A j)) j) → K zp zl ze (gv_rm 4 0 0) zs zm zargs zbelow zmeth zc D base 9 (gv_E D [(cI, .int), (cN, .object "AlgebraTree$Node"), (cR, .object "AlgebraTree$Rows")] base zbelow zargs zs 0 0 (fun zv zV => ∃ fr1 : Nat → Int32, ∃ fc1 : Nat → Int32, ∃ fw1 : Nat → Int32, zv = none ∧ zV = gv_up (gv_up (gv_up V wr (.inl (cI, 57600, .inl fr1))) wc (.inl (cI, 120, .inl fc1))) wn (.inl (cI, 6, .inl fw1)) ∧ (MRep (M0 ++ distL (nI 63) A) (fc1 to) (tbl fr1 to)) ∧ (Kp to fc fr fc1 fr1))) (gv_up (gv_up (gv_up V wr (.inl (cI, 57600, .inl fr1))) wc (.inl (cI, 120, .inl fc1))) wn (.inl (cI, 6, .inl fw1_w8))) 0 0 [(8, .int (nI j)), (7, .int (bI sb)), (6, .int (nI i)), (0, .ref m), (1, .int (nI to)), (2, .int (nI t)), (3, .int (nI 8)), (4, .int x), (5, .int y)] 152 [] := by
                  intro zn9
                  induction zn9 with
                  | zero => intro j sb hlt; exact absurd hlt (Nat.not_lt_zero _)
                  | succ zn9 ih152 =>
                    intro j sb hlt152  hj hsb
                    refine k_iload C dX7_reckonEach_152 0 rfl ?_
                    refine k_iload C dX7_reckonEach_154 2 rfl ?_
                    refine k_icmp_ge (tgt := 192) C dX7_reckonEach_156 (by decide) (fun c156 => ?_) (fun c156 => ?_)
                    · skip
                      have b156 : i ≤ j := (nI_leI (a := i) (b := j) (by omega) (by omega)).mp c156
                      refine k_goto (tgt := 225) C dX7_reckonEach_192 (by decide) ?_
                      refine k_iload C dX7_reckonEach_225 1 rfl ?_
                      refine k_if_eq (tgt := 235) C dX7_reckonEach_227 (by decide) (fun c227 => ?_) (fun c227 => ?_)
                      · skip
                        have b227 : sb = false := bI_0.mp c227
                        have hco : newR (nI 63) A i = false := by unfold newR; rw [← b227, hsb, show j = i by omega]
                        refine k_iinc (v := nI (i + 1)) (lv' := [(6, .int (nI (i + 1))), (8, .int (nI j)), (7, .int (bI sb)), (0, .ref m), (1, .int (nI to)), (2, .int (nI t)), (3, .int (nI 8)), (4, .int x), (5, .int y)]) C dX7_reckonEach_235 (k := 2) rfl (nI_add i 1) (by decide) rfl ?_
                        refine k_goto (tgt := 3) C dX7_reckonEach_238 (by decide) ?_
                        refine k_sub [0, 3, 4, 5, 6, 7, 8] (lv' := [(6, .int (nI (i + 1))), (0, .ref m), (1, .int (nI to)), (2, .int (nI t)), (3, .int (nI 8)), (4, .int x), (5, .int y)]) rfl ?_
                        exact ih3 (i + 1) fr1 fc1 fw1_w8 (by omega)  (by omega) (by rw [dist_n (by omega), if_neg (by rw [hco]; decide), List.append_nil]; exact hR) hK
                      · skip
                        have b227 : sb = true := bI_n.mp c227
                        have hco : newR (nI 63) A i = true := by unfold newR; rw [← b227, hsb, show j = i by omega]
                        refine k_aload_n C dX7_reckonEach_230 rfl 3 rfl ?_
                        refine k_iload_n C dX7_reckonEach_231 rfl 4 rfl ?_
                        refine k_callV C mv_7_112 (c_X7_add  ((gv_up_n ne4).trans ((gv_up_n ne3).trans ((gv_up_n ne2).trans h_m))) ((gv_up_n ne7).trans ((gv_up_n ne6).trans gv_up_s)) ((gv_up_n ne5).trans gv_up_s) gv_up_s (by first | assumption | omega) hR (htk.tr (eq6_prj eq6.rf).sm)) ((gv_up_n ne4).trans ((gv_up_n ne3).trans ((gv_up_n ne2).trans h_m))) rfl rfl (by simp [Value.category]) ⟨Nat.le_of_ble_eq_true rfl, Nat.le_of_ble_eq_true rfl⟩ ⟨(by decide), (by decide)⟩ dX7_reckonEach_232 (fun zv zV zh => ?_)
                        obtain ⟨fc1_w10, fr1_w10, rfl, rfl, hR1_w10, hk1_w10⟩ := zh
                        refine k_pc (pc' := 235) (st' := []) rfl rfl ?_
                        refine k_view (V1 := gv_up (gv_up (gv_up (gv_up V wr (.inl (cI, 57600, .inl fr1_w10))) wc (.inl (cI, 120, .inl fc1))) wn (.inl (cI, 6, .inl fw1_w8))) wc (.inl (cI, 120, .inl fc1_w10))) (congrArg (fun W => gv_up W wc (.inl (cI, 120, .inl fc1_w10))) ((gv_uc ne7).trans (congrArg (fun W => gv_up W wn (.inl (cI, 6, .inl fw1_w8))) ((gv_uc ne6).trans (congrArg (fun W => gv_up W wc (.inl (cI, 120, .inl fc1))) gv_uu))))) ?_
                        refine k_view (V1 := gv_up (gv_up (gv_up V wr (.inl (cI, 57600, .inl fr1_w10))) wc (.inl (cI, 120, .inl fc1_w10))) wn (.inl (cI, 6, .inl fw1_w8))) ((gv_uc ne5).trans (congrArg (fun W => gv_up W wn (.inl (cI, 6, .inl fw1_w8))) gv_uu)) ?_
                        refine k_iinc (v := nI (i + 1)) (lv' := [(6, .int (nI (i + 1))), (8, .int (nI j)), (7, .int (bI sb)), (0, .ref m), (1, .int (nI to)), (2, .int (nI t)), (3, .int (nI 8)), (4, .int x), (5, .int y)]) C dX7_reckonEach_235 (k := 2) rfl (nI_add i 1) (by decide) rfl ?_
                        refine k_goto (tgt := 3) C dX7_reckonEach_238 (by decide) ?_
                        refine k_sub [0, 3, 4, 5, 6, 7, 8] (lv' := [(6, .int (nI (i + 1))), (0, .ref m), (1, .int (nI to)), (2, .int (nI t)), (3, .int (nI 8)), (4, .int x), (5, .int y)]) rfl ?_
                        exact ih3 (i + 1) fr1_w10 fc1_w10 fw1_w8 (by omega)  (by omega) (by rw [dist_n (by omega), if_pos hco, ← List.append_assoc]; exact hR1_w10) (hK.tr hk1_w10)
                    · skip
                      have b156 : ¬ i ≤ j := fun z => c156 ((nI_leI (a := i) (b := j) (by omega) (by omega)).mpr z)
                      refine k_iload C dX7_reckonEach_159 1 rfl ?_
                      refine k_if_eq (tgt := 183) C dX7_reckonEach_161 (by decide) (fun c161 => ?_) (fun c161 => ?_)
                      · skip
                        have b161 : sb = false := bI_0.mp c161
                        refine k_iconst (v := nI 0) C dX7_reckonEach_183 rfl ?_
                        refine k_istore (lv' := [(7, .int (nI 0)), (8, .int (nI j)), (6, .int (nI i)), (0, .ref m), (1, .int (nI to)), (2, .int (nI t)), (3, .int (nI 8)), (4, .int x), (5, .int y)]) C dX7_reckonEach_184 (by decide) rfl ?_
                        refine k_iinc (v := nI (j + 1)) (lv' := [(8, .int (nI (j + 1))), (7, .int (nI 0)), (6, .int (nI i)), (0, .ref m), (1, .int (nI to)), (2, .int (nI t)), (3, .int (nI 8)), (4, .int x), (5, .int y)]) C dX7_reckonEach_186 (k := 1) rfl (nI_add j 1) (by decide) rfl ?_
                        refine k_goto (tgt := 152) C dX7_reckonEach_189 (by decide) ?_
                        refine k_lve (lv' := [(8, .int (nI (j + 1))), (7, .int (bI false)), (6, .int (nI i)), (0, .ref m), (1, .int (nI to)), (2, .int (nI t)), (3, .int (nI 8)), (4, .int x), (5, .int y)]) rfl ?_
                        exact ih152 (j + 1) false (by omega)  (by omega) (by rw [← al_k (P := fun j => !lik (nI 63) (rowAt A i) (rowAt A j)) hsb]; first | (rw [b161]; rfl) | (rw [← lik_c (hA1.at (by omega)) (hA1.at (by omega)), b176]; simp))
                      · skip
                        have b161 : sb = true := bI_n.mp c161
                        refine k_aload_n C dX7_reckonEach_164 rfl 3 rfl ?_
                        refine k_iload_n C dX7_reckonEach_165 rfl 5 rfl ?_
                        refine k_iload C dX7_reckonEach_166 2 rfl ?_
                        refine k_iload_n C dX7_reckonEach_168 rfl 5 rfl ?_
                        refine k_iload C dX7_reckonEach_169 0 rfl ?_
                        refine k_bipush (v := nI 63) C dX7_reckonEach_171 rfl ?_
                        refine k_callV_pi C mv_7_130 (c_X7_alike  ((gv_up_n ne4).trans ((gv_up_n ne3).trans ((gv_up_n ne2).trans h_m))) ((gv_up_n ne7).trans ((gv_up_n ne6).trans gv_up_s)) (by first | assumption | omega) (by omega) (by first | assumption | omega) (by omega)) ((gv_up_n ne4).trans ((gv_up_n ne3).trans ((gv_up_n ne2).trans h_m))) rfl rfl (by simp [Value.category]) ⟨Nat.le_of_ble_eq_true rfl, Nat.le_of_ble_eq_true rfl⟩ ⟨(by decide), (by decide)⟩ dX7_reckonEach_173 ?_
                        refine k_if_ne (tgt := 183) C dX7_reckonEach_176 (by decide) (fun c176 => ?_) (fun c176 => ?_)
                        · skip
                          have b176 : (lik (nI 63) (rwf (tbl fr1 t) i) (rwf (tbl fr1 t) j)) = true := bI_n.mp c176
                          refine k_iconst (v := nI 0) C dX7_reckonEach_183 rfl ?_
                          refine k_istore (lv' := [(7, .int (nI 0)), (8, .int (nI j)), (6, .int (nI i)), (0, .ref m), (1, .int (nI to)), (2, .int (nI t)), (3, .int (nI 8)), (4, .int x), (5, .int y)]) C dX7_reckonEach_184 (by decide) rfl ?_
                          refine k_iinc (v := nI (j + 1)) (lv' := [(8, .int (nI (j + 1))), (7, .int (nI 0)), (6, .int (nI i)), (0, .ref m), (1, .int (nI to)), (2, .int (nI t)), (3, .int (nI 8)), (4, .int x), (5, .int y)]) C dX7_reckonEach_186 (k := 1) rfl (nI_add j 1) (by decide) rfl ?_
                          refine k_goto (tgt := 152) C dX7_reckonEach_189 (by decide) ?_
                          refine k_lve (lv' := [(8, .int (nI (j + 1))), (7, .int (bI false)), (6, .int (nI i)), (0, .ref m), (1, .int (nI to)), (2, .int (nI t)), (3, .int (nI 8)), (4, .int x), (5, .int y)]) rfl ?_
                          exact ih152 (j + 1) false (by omega)  (by omega) (by rw [← al_k (P := fun j => !lik (nI 63) (rowAt A i) (rowAt A j)) hsb]; first | (rw [b161]; rfl) | (rw [← lik_c (hA1.at (by omega)) (hA1.at (by omega)), b176]; simp))
                        · skip
                          have b176 : (lik (nI 63) (rwf (tbl fr1 t) i) (rwf (tbl fr1 t) j)) = false := bI_0.mp c176
                          refine k_iconst (v := nI 1) C dX7_reckonEach_179 rfl ?_
                          refine k_goto (tgt := 184) C dX7_reckonEach_180 (by decide) ?_
                          refine k_istore (lv' := [(7, .int (nI 1)), (8, .int (nI j)), (6, .int (nI i)), (0, .ref m), (1, .int (nI to)), (2, .int (nI t)), (3, .int (nI 8)), (4, .int x), (5, .int y)]) C dX7_reckonEach_184 (by decide) rfl ?_
                          refine k_iinc (v := nI (j + 1)) (lv' := [(8, .int (nI (j + 1))), (7, .int (nI 1)), (6, .int (nI i)), (0, .ref m), (1, .int (nI to)), (2, .int (nI t)), (3, .int (nI 8)), (4, .int x), (5, .int y)]) C dX7_reckonEach_186 (k := 1) rfl (nI_add j 1) (by decide) rfl ?_
                          refine k_goto (tgt := 152) C dX7_reckonEach_189 (by decide) ?_
                          refine k_lve (lv' := [(8, .int (nI (j + 1))), (7, .int (bI true)), (6, .int (nI i)), (0, .ref m), (1, .int (nI to)), (2, .int (nI t)), (3, .int (nI 8)), (4, .int x), (5, .int y)]) rfl ?_
                          exact ih152 (j + 1) true (by omega)  (by omega) (by rw [← al_k (P := fun j => !lik (nI 63) (rowAt A i) (rowAt A j)) hsb, b161, ← lik_c (hA1.at (by omega)) (hA1.at (by omega)), b176]; rfl)
                refine k_lve (lv' := [(8, .int (nI 0)), (7, .int (bI true)), (6, .int (nI i)), (0, .ref m), (1, .int (nI to)), (2, .int (nI t)), (3, .int (nI 8)), (4, .int x), (5, .int y)]) rfl ?_
                exact L152 _ 0 true (Nat.lt_succ_self _)  (by omega) rfl
            · exact absurd c91 (by decide)
          · exact absurd c43 (by decide)
        · exact absurd c26 (by decide)
  refine k_view (V1 := gv_up V wr (.inl (cI, 57600, .inl fr))) (gv_id h_wr).symm ?_
  have ne11 : nq wc wr := gv_ne h_wr h_wc (by simp)
  refine k_view (V1 := gv_up (gv_up V wr (.inl (cI, 57600, .inl fr))) wc (.inl (cI, 120, .inl fc))) (gv_id ((gv_up_n ne11).trans h_wc)).symm ?_
  have ne12 : nq wn wr := gv_ne h_wr h_wn (by simp)
  have ne13 : nq wn wc := gv_ne h_wc h_wn (by simp)
  refine k_view (V1 := gv_up (gv_up (gv_up V wr (.inl (cI, 57600, .inl fr))) wc (.inl (cI, 120, .inl fc))) wn (.inl (cI, 6, .inl fw))) (gv_id ((gv_up_n ne13).trans ((gv_up_n ne12).trans h_wn))).symm ?_
  exact L3 _ 0 fr fc fw (Nat.lt_succ_self _)  (by omega) (by rw [List.take_zero]; unfold distL; rw [List.foldl_nil, List.append_nil]; exact hR0) Kp.rf
set_option maxHeartbeats 4000000 in
set_option maxRecDepth 100000 in
theorem c_each9 {zl : Launch} {D : va_G} {cI cN cR : ClassId} {base : Nat} {V : gv_V} {m wt wa wv wm wr wc wn ws wk wp nt ne nn sh : Nat} {kn : Int32} {fr fc fw : Nat → Int32} {to t n : Nat} {A : List Row} {M0 : List Row} {u0 u1 : Nat}  (h_m : V m = some (.inr (7, [.int (nI nt), .ref wt, .int (nI ne), .ref wa, .ref wv, .int (nI nn), .ref wm, .int kn, .ref wr, .ref wc, .ref wn, .int (nI sh), .ref ws, .ref wk, .ref wp]))) (h_wr : V wr = some (.inl (cI, 57600, .inl fr))) (h_wc : V wc = some (.inl (cI, 120, .inl fc))) (h_wn : V wn = some (.inl (cI, 6, .inl fw))) (hto : to < 120) (hA : Tab A n (tbl fr t)) (hcA : fc t = nI n) (hta : ¬ t = to) (ht : t < 120) (hR0 : MRep M0 (fc to) (tbl fr to)) (hu0 : u0 ≤ 1000) (hu1 : u1 ≤ 1000) : ct zl D [(cI, .int), (cN, .object "AlgebraTree$Node"), (cR, .object "AlgebraTree$Rows")] base yX7_reckonEach cX7_reckonEach 9 none 4 0 0 [.ref m, .int (nI to), .int (nI t), .int (nI 9), .int (nI u0), .int (nI u1)] V (fun zv zV => ∃ fr1 : Nat → Int32, ∃ fc1 : Nat → Int32, ∃ fw1 : Nat → Int32, zv = none ∧ zV = gv_up (gv_up (gv_up V wr (.inl (cI, 57600, .inl fr1))) wc (.inl (cI, 120, .inl fc1))) wn (.inl (cI, 6, .inl fw1)) ∧ (MRep (M0 ++ (A.drop u0).take u1) (fc1 to) (tbl fr1 to)) ∧ (Kp to fc fr fc1 fr1)) := by
  refine ct_of "AlgebraTreeModel" rfl (by decide) (Nat.le_of_ble_eq_true rfl) ?_
  intro zp ze zs zm zargs zbelow zmeth zc C zr zlk znm
  refine k_pc (pc' := 0) (st' := []) rfl rfl ?_
  show K zp zl ze (gv_rm 4 0 0) zs zm zargs zbelow zmeth zc D base 9 (gv_E D [(cI, .int), (cN, .object "AlgebraTree$Node"), (cR, .object "AlgebraTree$Rows")] base zbelow zargs zs 0 0 (fun zv zV => ∃ fr1 : Nat → Int32, ∃ fc1 : Nat → Int32, ∃ fw1 : Nat → Int32, zv = none ∧ zV = gv_up (gv_up (gv_up V wr (.inl (cI, 57600, .inl fr1))) wc (.inl (cI, 120, .inl fc1))) wn (.inl (cI, 6, .inl fw1)) ∧ (MRep (M0 ++ (A.drop u0).take u1) (fc1 to) (tbl fr1 to)) ∧ (Kp to fc fr fc1 fr1))) V 0 0 [(0, .ref m), (1, .int (nI to)), (2, .int (nI t)), (3, .int (nI 9)), (4, .int (nI u0)), (5, .int (nI u1))] 0 []
  refine k_iconst (v := nI 0) C dX7_reckonEach_0 rfl ?_
  refine k_istore (lv' := [(6, .int (nI 0)), (0, .ref m), (1, .int (nI to)), (2, .int (nI t)), (3, .int (nI 9)), (4, .int (nI u0)), (5, .int (nI u1))]) C dX7_reckonEach_1 (by decide) rfl ?_
  have L3 : ∀ (zn1 : Nat) (i : Nat) (fr1 : Nat → Int32) (fc1 : Nat → Int32) (fw1 : Nat → Int32), n - i < zn1 → (i ≤ n) → (MRep (M0 ++ ((A.take i).drop u0).take u1) (fc1 to) (tbl fr1 to)) → (Kp to fc fr fc1 fr1) → K zp zl ze (gv_rm 4 0 0) zs zm zargs zbelow zmeth zc D base 9 (gv_E D [(cI, .int), (cN, .object "AlgebraTree$Node"), (cR, .object "AlgebraTree$Rows")] base zbelow zargs zs 0 0 (fun zv zV => ∃ fr1 : Nat → Int32, ∃ fc1 : Nat → Int32, ∃ fw1 : Nat → Int32, zv = none ∧ zV = gv_up (gv_up (gv_up V wr (.inl (cI, 57600, .inl fr1))) wc (.inl (cI, 120, .inl fc1))) wn (.inl (cI, 6, .inl fw1)) ∧ (MRep (M0 ++ (A.drop u0).take u1) (fc1 to) (tbl fr1 to)) ∧ (Kp to fc fr fc1 fr1))) (gv_up (gv_up (gv_up V wr (.inl (cI, 57600, .inl fr1))) wc (.inl (cI, 120, .inl fc1))) wn (.inl (cI, 6, .inl fw1))) 0 0 [(6, .int (nI i)), (0, .ref m), (1, .int (nI to)), (2, .int (nI t)), (3, .int (nI 9)), (4, .int (nI u0)), (5, .int (nI u1))] 3 [] := by
    intro zn1
    induction zn1 with
    | zero => intro i fr1 fc1 fw1 hlt; exact absurd hlt (Nat.not_lt_zero _)
    | succ zn1 ih3 =>
      intro i fr1 fc1 fw1 hlt3  hi hR hK
      have hA2 := hA.2.1
      have hA3 := hA.1
      have hA1 := hA.kp hK hta
      have hc1 : fc1 t = nI n := (hK t hta).1.trans hcA
      refine k_iload C dX7_reckonEach_3 0 rfl ?_
      refine k_aload_n C dX7_reckonEach_5 rfl 1 rfl ?_
      have ne2 : nq m wr := gv_ne h_wr h_m (by simp)
      have ne3 : nq m wc := gv_ne h_wc h_m (by simp)
      have ne4 : nq m wn := gv_ne h_wn h_m (by simp)
      refine k_get (ci := 7) (k := 9) C fl_7_26 ((gv_up_n ne4).trans ((gv_up_n ne3).trans ((gv_up_n ne2).trans h_m))) rfl dX7_reckonEach_6 ?_
      refine k_iload_n C dX7_reckonEach_9 rfl 3 rfl ?_
      have ne5 : nq wc wn := gv_ne h_wn h_wc (by simp)
      refine k_iald (v := fc1 t) C 0 ((gv_up_n ne5).trans gv_up_s) rfl (vp_in_nI (by omega) (by omega)) (by rw [nI_clamp (by omega)]) dX7_reckonEach_10 ?_
      refine k_val (y := nI n) hc1 ?_
      refine k_icmp_ge (tgt := 241) C dX7_reckonEach_11 (by decide) (fun c11 => ?_) (fun c11 => ?_)
      · skip
        have b11 : n ≤ i := (nI_leI (a := n) (b := i) (by omega) (by omega)).mp c11
        exact k_vret C zr zlk ⟨fr1, fc1, fw1, rfl, rfl, (by rw [take_all (M := A) hA3 (by omega)] at hR; exact hR), hK⟩ (Nat.le_refl _) (Nat.le_refl _) dX7_reckonEach_241
      · skip
        have b11 : ¬ n ≤ i := fun z => c11 ((nI_leI (a := n) (b := i) (by omega) (by omega)).mpr z)
        refine k_aload_n C dX7_reckonEach_14 rfl 1 rfl ?_
        refine k_iload_n C dX7_reckonEach_15 rfl 3 rfl ?_
        refine k_iload C dX7_reckonEach_16 0 rfl ?_
        have ne6 : nq wr wc := gv_ne h_wc h_wr (by simp)
        have ne7 : nq wr wn := gv_ne h_wn h_wr (by simp)
        refine k_callV C mv_7_101 (c_X7_take  ((gv_up_n ne4).trans ((gv_up_n ne3).trans ((gv_up_n ne2).trans h_m))) ((gv_up_n ne7).trans ((gv_up_n ne6).trans gv_up_s)) gv_up_s (by first | assumption | omega) (by omega)) ((gv_up_n ne4).trans ((gv_up_n ne3).trans ((gv_up_n ne2).trans h_m))) rfl rfl (by simp [Value.category]) ⟨Nat.le_of_ble_eq_true rfl, Nat.le_of_ble_eq_true rfl⟩ ⟨(by decide), (by decide)⟩ dX7_reckonEach_18 (fun zv zV zh => ?_)
        obtain ⟨fw1_w8, rfl, rfl, hw1_w8⟩ := zh
        refine k_pc (pc' := 21) (st' := []) rfl rfl ?_
        refine k_view (V1 := gv_up (gv_up (gv_up V wr (.inl (cI, 57600, .inl fr1))) wc (.inl (cI, 120, .inl fc1))) wn (.inl (cI, 6, .inl fw1_w8))) gv_uu ?_
        have htk := hw1_w8.tr (hA1.at (i := i) (by omega))
        refine k_iconst (v := nI 1) C dX7_reckonEach_21 rfl ?_
        refine k_istore (lv' := [(7, .int (nI 1)), (6, .int (nI i)), (0, .ref m), (1, .int (nI to)), (2, .int (nI t)), (3, .int (nI 9)), (4, .int (nI u0)), (5, .int (nI u1))]) C dX7_reckonEach_22 (by decide) rfl ?_
        refine k_iload_n C dX7_reckonEach_24 rfl 5 rfl ?_
        refine k_iconst (v := nI 5) C dX7_reckonEach_25 rfl ?_
        refine k_icmp_ne (tgt := 40) C dX7_reckonEach_26 (by decide) (fun c26 => ?_) (fun c26 => ?_)
        · skip
          have b26 : ¬ 9 = 5 := fun z => c26 ((nI_eq (a := 9) (b := 5) (by omega) (by omega)).mpr z)
          refine k_iload_n C dX7_reckonEach_40 rfl 5 rfl ?_
          refine k_bipush (v := nI 6) C dX7_reckonEach_41 rfl ?_
          refine k_icmp_ne (tgt := 88) C dX7_reckonEach_43 (by decide) (fun c43 => ?_) (fun c43 => ?_)
          · skip
            have b43 : ¬ 9 = 6 := fun z => c43 ((nI_eq (a := 9) (b := 6) (by omega) (by omega)).mpr z)
            refine k_iload_n C dX7_reckonEach_88 rfl 5 rfl ?_
            refine k_bipush (v := nI 7) C dX7_reckonEach_89 rfl ?_
            refine k_icmp_ne (tgt := 143) C dX7_reckonEach_91 (by decide) (fun c91 => ?_) (fun c91 => ?_)
            · skip
              have b91 : ¬ 9 = 7 := fun z => c91 ((nI_eq (a := 9) (b := 7) (by omega) (by omega)).mpr z)
              refine k_iload_n C dX7_reckonEach_143 rfl 5 rfl ?_
              refine k_bipush (v := nI 8) C dX7_reckonEach_144 rfl ?_
              refine k_icmp_ne (tgt := 195) C dX7_reckonEach_146 (by decide) (fun c146 => ?_) (fun c146 => ?_)
              · skip
                have b146 : ¬ 9 = 8 := fun z => c146 ((nI_eq (a := 9) (b := 8) (by omega) (by omega)).mpr z)
                refine k_iload_n C dX7_reckonEach_195 rfl 5 rfl ?_
                refine k_bipush (v := nI 9) C dX7_reckonEach_196 rfl ?_
                refine k_icmp_ne (tgt := 225) C dX7_reckonEach_198 (by decide) (fun c198 => ?_) (fun c198 => ?_)
                · exact absurd c198 (by decide)
                · skip
                  have b198 : 9 = 9 := (nI_eq (a := 9) (b := 9) (by omega) (by omega)).mp c198
                  refine k_iload C dX7_reckonEach_201 1 rfl ?_
                  refine k_iload C dX7_reckonEach_203 6 rfl ?_
                  refine k_icmp_lt (tgt := 222) C dX7_reckonEach_205 (by decide) (fun c205 => ?_) (fun c205 => ?_)
                  · skip
                    have b205 : i < u0 := (nI_ltI (a := i) (b := u0) (by omega) (by omega)).mp c205
                    refine k_iconst (v := nI 0) C dX7_reckonEach_222 rfl ?_
                    refine k_istore (lv' := [(7, .int (nI 0)), (6, .int (nI i)), (0, .ref m), (1, .int (nI to)), (2, .int (nI t)), (3, .int (nI 9)), (4, .int (nI u0)), (5, .int (nI u1))]) C dX7_reckonEach_223 (by decide) rfl ?_
                    refine k_iload C dX7_reckonEach_225 0 rfl ?_
                    refine k_if_eq (tgt := 235) C dX7_reckonEach_227 (by decide) (fun c227 => ?_) (fun c227 => ?_)
                    · skip
                      have b227 : 0 = 0 := (nI_eq (a := 0) (b := 0) (by omega) (by omega)).mp c227
                      refine k_iinc (v := nI (i + 1)) (lv' := [(6, .int (nI (i + 1))), (7, .int (nI 0)), (0, .ref m), (1, .int (nI to)), (2, .int (nI t)), (3, .int (nI 9)), (4, .int (nI u0)), (5, .int (nI u1))]) C dX7_reckonEach_235 (k := 1) rfl (nI_add i 1) (by decide) rfl ?_
                      refine k_goto (tgt := 3) C dX7_reckonEach_238 (by decide) ?_
                      refine k_sub [0, 2, 3, 4, 5, 6, 7] (lv' := [(6, .int (nI (i + 1))), (0, .ref m), (1, .int (nI to)), (2, .int (nI t)), (3, .int (nI 9)), (4, .int (nI u0)), (5, .int (nI u1))]) rfl ?_
                      exact ih3 (i + 1) fr1 fc1 fw1_w8 (by omega)  (by omega) (by rw [slice_n (by omega) (by omega)]; exact hR) hK
                    · exact absurd c227 (by decide)
                  · skip
                    have b205 : ¬ i < u0 := fun z => c205 ((nI_ltI (a := i) (b := u0) (by omega) (by omega)).mpr z)
                    refine k_iload C dX7_reckonEach_208 1 rfl ?_
                    refine k_iload C dX7_reckonEach_210 6 rfl ?_
                    refine k_isub C dX7_reckonEach_212 ?_
                    refine k_val (y := nI (i - u0)) (pk_sub (by omega)) ?_
                    refine k_iload C dX7_reckonEach_213 7 rfl ?_
                    refine k_icmp_ge (tgt := 222) C dX7_reckonEach_215 (by decide) (fun c215 => ?_) (fun c215 => ?_)
                    · skip
                      have b215 : u1 ≤ (i - u0) := (nI_leI (a := u1) (b := i - u0) (by omega) (by omega)).mp c215
                      refine k_iconst (v := nI 0) C dX7_reckonEach_222 rfl ?_
                      refine k_istore (lv' := [(7, .int (nI 0)), (6, .int (nI i)), (0, .ref m), (1, .int (nI to)), (2, .int (nI t)), (3, .int (nI 9)), (4, .int (nI u0)), (5, .int (nI u1))]) C dX7_reckonEach_223 (by decide) rfl ?_
                      refine k_iload C dX7_reckonEach_225 0 rfl ?_
                      refine k_if_eq (tgt := 235) C dX7_reckonEach_227 (by decide) (fun c227 => ?_) (fun c227 => ?_)
                      · skip
                        have b227 : 0 = 0 := (nI_eq (a := 0) (b := 0) (by omega) (by omega)).mp c227
                        refine k_iinc (v := nI (i + 1)) (lv' := [(6, .int (nI (i + 1))), (7, .int (nI 0)), (0, .ref m), (1, .int (nI to)), (2, .int (nI t)), (3, .int (nI 9)), (4, .int (nI u0)), (5, .int (nI u1))]) C dX7_reckonEach_235 (k := 1) rfl (nI_add i 1) (by decide) rfl ?_
                        refine k_goto (tgt := 3) C dX7_reckonEach_238 (by decide) ?_
                        refine k_sub [0, 2, 3, 4, 5, 6, 7] (lv' := [(6, .int (nI (i + 1))), (0, .ref m), (1, .int (nI to)), (2, .int (nI t)), (3, .int (nI 9)), (4, .int (nI u0)), (5, .int (nI u1))]) rfl ?_
                        exact ih3 (i + 1) fr1 fc1 fw1_w8 (by omega)  (by omega) (by rw [slice_n (by omega) (by omega)]; exact hR) hK
                      · exact absurd c227 (by decide)
                    · skip
                      have b215 : ¬ u1 ≤ (i - u0) := fun z => c215 ((nI_leI (a := u1) (b := i - u0) (by omega) (by omega)).mpr z)
                      refine k_iconst (v := nI 1) C dX7_reckonEach_218 rfl ?_
                      refine k_goto (tgt := 223) C dX7_reckonEach_219 (by decide) ?_
                      refine k_istore (lv' := [(7, .int (nI 1)), (6, .int (nI i)), (0, .ref m), (1, .int (nI to)), (2, .int (nI t)), (3, .int (nI 9)), (4, .int (nI u0)), (5, .int (nI u1))]) C dX7_reckonEach_223 (by decide) rfl ?_
                      refine k_iload C dX7_reckonEach_225 0 rfl ?_
                      refine k_if_eq (tgt := 235) C dX7_reckonEach_227 (by decide) (fun c227 => ?_) (fun c227 => ?_)
                      · exact absurd c227 (by decide)
                      · skip
                        have b227 : ¬ 1 = 0 := fun z => c227 ((nI_eq (a := 1) (b := 0) (by omega) (by omega)).mpr z)
                        refine k_aload_n C dX7_reckonEach_230 rfl 2 rfl ?_
                        refine k_iload_n C dX7_reckonEach_231 rfl 3 rfl ?_
                        refine k_callV C mv_7_112 (c_X7_add  ((gv_up_n ne4).trans ((gv_up_n ne3).trans ((gv_up_n ne2).trans h_m))) ((gv_up_n ne7).trans ((gv_up_n ne6).trans gv_up_s)) ((gv_up_n ne5).trans gv_up_s) gv_up_s (by first | assumption | omega) hR htk) ((gv_up_n ne4).trans ((gv_up_n ne3).trans ((gv_up_n ne2).trans h_m))) rfl rfl (by simp [Value.category]) ⟨Nat.le_of_ble_eq_true rfl, Nat.le_of_ble_eq_true rfl⟩ ⟨(by decide), (by decide)⟩ dX7_reckonEach_232 (fun zv zV zh => ?_)
                        obtain ⟨fc1_w9, fr1_w9, rfl, rfl, hR1_w9, hk1_w9⟩ := zh
                        refine k_pc (pc' := 235) (st' := []) rfl rfl ?_
                        refine k_view (V1 := gv_up (gv_up (gv_up (gv_up V wr (.inl (cI, 57600, .inl fr1_w9))) wc (.inl (cI, 120, .inl fc1))) wn (.inl (cI, 6, .inl fw1_w8))) wc (.inl (cI, 120, .inl fc1_w9))) (congrArg (fun W => gv_up W wc (.inl (cI, 120, .inl fc1_w9))) ((gv_uc ne7).trans (congrArg (fun W => gv_up W wn (.inl (cI, 6, .inl fw1_w8))) ((gv_uc ne6).trans (congrArg (fun W => gv_up W wc (.inl (cI, 120, .inl fc1))) gv_uu))))) ?_
                        refine k_view (V1 := gv_up (gv_up (gv_up V wr (.inl (cI, 57600, .inl fr1_w9))) wc (.inl (cI, 120, .inl fc1_w9))) wn (.inl (cI, 6, .inl fw1_w8))) ((gv_uc ne5).trans (congrArg (fun W => gv_up W wn (.inl (cI, 6, .inl fw1_w8))) gv_uu)) ?_
                        refine k_iinc (v := nI (i + 1)) (lv' := [(6, .int (nI (i + 1))), (7, .int (nI 1)), (0, .ref m), (1, .int (nI to)), (2, .int (nI t)), (3, .int (nI 9)), (4, .int (nI u0)), (5, .int (nI u1))]) C dX7_reckonEach_235 (k := 1) rfl (nI_add i 1) (by decide) rfl ?_
                        refine k_goto (tgt := 3) C dX7_reckonEach_238 (by decide) ?_
                        refine k_sub [0, 2, 3, 4, 5, 6, 7] (lv' := [(6, .int (nI (i + 1))), (0, .ref m), (1, .int (nI to)), (2, .int (nI t)), (3, .int (nI 9)), (4, .int (nI u0)), (5, .int (nI u1))]) rfl ?_
                        exact ih3 (i + 1) fr1_w9 fc1_w9 fw1_w8 (by omega)  (by omega) (by rw [slice_y (by omega) (by omega) (by omega), ← List.append_assoc]; exact hR1_w9) (hK.tr hk1_w9)
              · exact absurd c146 (by decide)
            · exact absurd c91 (by decide)
          · exact absurd c43 (by decide)
        · exact absurd c26 (by decide)
  refine k_view (V1 := gv_up V wr (.inl (cI, 57600, .inl fr))) (gv_id h_wr).symm ?_
  have ne10 : nq wc wr := gv_ne h_wr h_wc (by simp)
  refine k_view (V1 := gv_up (gv_up V wr (.inl (cI, 57600, .inl fr))) wc (.inl (cI, 120, .inl fc))) (gv_id ((gv_up_n ne10).trans h_wc)).symm ?_
  have ne11 : nq wn wr := gv_ne h_wr h_wn (by simp)
  have ne12 : nq wn wc := gv_ne h_wc h_wn (by simp)
  refine k_view (V1 := gv_up (gv_up (gv_up V wr (.inl (cI, 57600, .inl fr))) wc (.inl (cI, 120, .inl fc))) wn (.inl (cI, 6, .inl fw))) (gv_id ((gv_up_n ne12).trans ((gv_up_n ne11).trans h_wn))).symm ?_
  exact L3 _ 0 fr fc fw (Nat.lt_succ_self _)  (by omega) (by rw [List.take_zero, List.drop_nil, List.take_nil, List.append_nil]; exact hR0) Kp.rf
set_option maxHeartbeats 4000000 in
set_option maxRecDepth 100000 in
theorem c_X7_reckonGraphs {zl : Launch} {D : va_G} {cI cN cR : ClassId} {base : Nat} {V : gv_V} {m wt wa wv wm wr wc wn ws wk wp nt ne nn sh : Nat} {kn : Int32} {fr fc fw : Nat → Int32} {to a vv : Nat} {S : Nat → Option (List Row)}  (h_m : V m = some (.inr (7, [.int (nI nt), .ref wt, .int (nI ne), .ref wa, .ref wv, .int (nI nn), .ref wm, .int kn, .ref wr, .ref wc, .ref wn, .int (nI sh), .ref ws, .ref wk, .ref wp]))) (h_wr : V wr = some (.inl (cI, 57600, .inl fr))) (h_wc : V wc = some (.inl (cI, 120, .inl fc))) (h_wn : V wn = some (.inl (cI, 6, .inl fw))) (hto : to < 120) (ha : a < 30) (hvv : vv < 6) (hS : ∀ g, 1 ≤ g → g < 4 → Tab (opL (S g)) (opL (S g)).length (tbl fr (4 * a + g)) ∧ fc (4 * a + g) = nI (opL (S g)).length ∧ ¬ 4 * a + g = to) (hc0 : fc to = 0) : ct zl D [(cI, .int), (cN, .object "AlgebraTree$Node"), (cR, .object "AlgebraTree$Rows")] base yX7_reckonGraphs cX7_reckonGraphs 7 none 2 0 0 [.ref m, .int (nI to), .int (nI a), .int (nI vv)] V (fun zv zV => ∃ fr1 : Nat → Int32, ∃ fc1 : Nat → Int32, ∃ fw1 : Nat → Int32, zv = none ∧ zV = gv_up (gv_up (gv_up V wr (.inl (cI, 57600, .inl fr1))) wc (.inl (cI, 120, .inl fc1))) wn (.inl (cI, 6, .inl fw1)) ∧ (MRep (grP S vv 4) (fc1 to) (tbl fr1 to)) ∧ (Kp to fc fr fc1 fr1)) := by
  refine ct_of "AlgebraTreeModel" rfl (by decide) (Nat.le_of_ble_eq_true rfl) ?_
  intro zp ze zs zm zargs zbelow zmeth zc C zr zlk znm
  refine k_pc (pc' := 0) (st' := []) rfl rfl ?_
  show K zp zl ze (gv_rm 2 0 0) zs zm zargs zbelow zmeth zc D base 7 (gv_E D [(cI, .int), (cN, .object "AlgebraTree$Node"), (cR, .object "AlgebraTree$Rows")] base zbelow zargs zs 0 0 (fun zv zV => ∃ fr1 : Nat → Int32, ∃ fc1 : Nat → Int32, ∃ fw1 : Nat → Int32, zv = none ∧ zV = gv_up (gv_up (gv_up V wr (.inl (cI, 57600, .inl fr1))) wc (.inl (cI, 120, .inl fc1))) wn (.inl (cI, 6, .inl fw1)) ∧ (MRep (grP S vv 4) (fc1 to) (tbl fr1 to)) ∧ (Kp to fc fr fc1 fr1))) V 0 0 [(0, .ref m), (1, .int (nI to)), (2, .int (nI a)), (3, .int (nI vv))] 0 []
  refine k_iconst (v := nI 1) C dX7_reckonGraphs_0 rfl ?_
  refine k_istore (lv' := [(4, .int (nI 1)), (0, .ref m), (1, .int (nI to)), (2, .int (nI a)), (3, .int (nI vv))]) C dX7_reckonGraphs_1 (by decide) rfl ?_
  have L3 : ∀ (zn1 : Nat) (g : Nat) (fr1 : Nat → Int32) (fc1 : Nat → Int32) (fw1 : Nat → Int32), 4 - g < zn1 → (1 ≤ g) → (g ≤ 4) → (MRep (grP S vv g) (fc1 to) (tbl fr1 to)) → (Kp to fc fr fc1 fr1) → K zp zl ze (gv_rm 2 0 0) zs zm zargs zbelow zmeth zc D base 7 (gv_E D [(cI, .int), (cN, .object "AlgebraTree$Node"), (cR, .object "AlgebraTree$Rows")] base zbelow zargs zs 0 0 (fun zv zV => ∃ fr1 : Nat → Int32, ∃ fc1 : Nat → Int32, ∃ fw1 : Nat → Int32, zv = none ∧ zV = gv_up (gv_up (gv_up V wr (.inl (cI, 57600, .inl fr1))) wc (.inl (cI, 120, .inl fc1))) wn (.inl (cI, 6, .inl fw1)) ∧ (MRep (grP S vv 4) (fc1 to) (tbl fr1 to)) ∧ (Kp to fc fr fc1 fr1))) (gv_up (gv_up (gv_up V wr (.inl (cI, 57600, .inl fr1))) wc (.inl (cI, 120, .inl fc1))) wn (.inl (cI, 6, .inl fw1))) 0 0 [(4, .int (nI g)), (0, .ref m), (1, .int (nI to)), (2, .int (nI a)), (3, .int (nI vv))] 3 [] := by
    intro zn1
    induction zn1 with
    | zero => intro g fr1 fc1 fw1 hlt; exact absurd hlt (Nat.not_lt_zero _)
    | succ zn1 ih3 =>
      intro g fr1 fc1 fw1 hlt3  hg1 hg4 hR hK
      refine k_iload C dX7_reckonGraphs_3 0 rfl ?_
      refine k_iconst (v := nI 4) C dX7_reckonGraphs_5 rfl ?_
      refine k_icmp_ge (tgt := 87) C dX7_reckonGraphs_6 (by decide) (fun c6 => ?_) (fun c6 => ?_)
      · skip
        have b6 : 4 ≤ g := (nI_leI (a := 4) (b := g) (by omega) (by omega)).mp c6
        exact k_vret C zr zlk ⟨fr1, fc1, fw1, rfl, rfl, (by rw [show g = 4 by omega] at hR; exact hR), hK⟩ (Nat.le_refl _) (Nat.le_refl _) dX7_reckonGraphs_87
      · skip
        have b6 : ¬ 4 ≤ g := fun z => c6 ((nI_leI (a := 4) (b := g) (by omega) (by omega)).mpr z)
        obtain ⟨hA0, hcA0, hta0⟩ := hS g hg1 (by omega)
        have hA20 := hA0.2.1
        refine k_iload_n C dX7_reckonGraphs_9 rfl 3 rfl ?_
        refine k_iload C dX7_reckonGraphs_10 0 rfl ?_
        refine k_callS_pi C ms_7_140 (c_X7_table   ) rfl rfl (by simp [Value.category]) ⟨Nat.le_of_ble_eq_true rfl, Nat.le_of_ble_eq_true rfl⟩ ⟨(by decide), (by decide)⟩ dX7_reckonGraphs_12 ?_
        refine k_istore (lv' := [(5, .int (nI (4 * a + g))), (4, .int (nI g)), (0, .ref m), (1, .int (nI to)), (2, .int (nI a)), (3, .int (nI vv))]) C dX7_reckonGraphs_15 (by decide) rfl ?_
        refine k_iconst (v := nI 0) C dX7_reckonGraphs_17 rfl ?_
        refine k_istore (lv' := [(6, .int (nI 0)), (5, .int (nI (4 * a + g))), (4, .int (nI g)), (0, .ref m), (1, .int (nI to)), (2, .int (nI a)), (3, .int (nI vv))]) C dX7_reckonGraphs_18 (by decide) rfl ?_
        have L20 : ∀ (zn2 : Nat) (i : Nat) (fr1 : Nat → Int32) (fc1 : Nat → Int32) (fw1 : Nat → Int32), (opL (S g)).length - i < zn2 → (i ≤ (opL (S g)).length) → (MRep (grP S vv g ++ grL vv g ((opL (S g)).take i)) (fc1 to) (tbl fr1 to)) → (Kp to fc fr fc1 fr1) → K zp zl ze (gv_rm 2 0 0) zs zm zargs zbelow zmeth zc D base 7 (gv_E D [(cI, .int), (cN, .object "AlgebraTree$Node"), (cR, .object "AlgebraTree$Rows")] base zbelow zargs zs 0 0 (fun zv zV => ∃ fr1 : Nat → Int32, ∃ fc1 : Nat → Int32, ∃ fw1 : Nat → Int32, zv = none ∧ zV = gv_up (gv_up (gv_up V wr (.inl (cI, 57600, .inl fr1))) wc (.inl (cI, 120, .inl fc1))) wn (.inl (cI, 6, .inl fw1)) ∧ (MRep (grP S vv 4) (fc1 to) (tbl fr1 to)) ∧ (Kp to fc fr fc1 fr1))) (gv_up (gv_up (gv_up V wr (.inl (cI, 57600, .inl fr1))) wc (.inl (cI, 120, .inl fc1))) wn (.inl (cI, 6, .inl fw1))) 0 0 [(6, .int (nI i)), (5, .int (nI (4 * a + g))), (4, .int (nI g)), (0, .ref m), (1, .int (nI to)), (2, .int (nI a)), (3, .int (nI vv))] 20 [] := by
          intro zn2
          induction zn2 with
          | zero => intro i fr1 fc1 fw1 hlt; exact absurd hlt (Nat.not_lt_zero _)
          | succ zn2 ih20 =>
            intro i fr1 fc1 fw1 hlt20  hi hR hK
            obtain ⟨hA, hcA, hta⟩ := hS g hg1 (by omega)
            have hA2 := hA.2.1
            have hA1 := hA.kp hK hta
            have hc1 : fc1 (4 * a + g) = nI (opL (S g)).length := (hK _ hta).1.trans hcA
            refine k_iload C dX7_reckonGraphs_20 0 rfl ?_
            refine k_aload_n C dX7_reckonGraphs_22 rfl 3 rfl ?_
            have ne3 : nq m wr := gv_ne h_wr h_m (by simp)
            have ne4 : nq m wc := gv_ne h_wc h_m (by simp)
            have ne5 : nq m wn := gv_ne h_wn h_m (by simp)
            refine k_get (ci := 7) (k := 9) C fl_7_26 ((gv_up_n ne5).trans ((gv_up_n ne4).trans ((gv_up_n ne3).trans h_m))) rfl dX7_reckonGraphs_23 ?_
            refine k_iload C dX7_reckonGraphs_26 1 rfl ?_
            have ne6 : nq wc wn := gv_ne h_wn h_wc (by simp)
            refine k_iald (v := fc1 (4 * a + g)) C 0 ((gv_up_n ne6).trans gv_up_s) rfl (vp_in_nI (by omega) (by omega)) (by rw [nI_clamp (by omega)]) dX7_reckonGraphs_28 ?_
            refine k_val (y := nI ((opL (S g)).length)) hc1 ?_
            refine k_icmp_ge (tgt := 81) C dX7_reckonGraphs_29 (by decide) (fun c29 => ?_) (fun c29 => ?_)
            · skip
              have b29 : ((opL (S g)).length) ≤ i := (nI_leI (a := (opL (S g)).length) (b := i) (by omega) (by omega)).mp c29
              refine k_iinc (v := nI (g + 1)) (lv' := [(4, .int (nI (g + 1))), (6, .int (nI i)), (5, .int (nI (4 * a + g))), (0, .ref m), (1, .int (nI to)), (2, .int (nI a)), (3, .int (nI vv))]) C dX7_reckonGraphs_81 (k := 2) rfl (nI_add g 1) (by decide) rfl ?_
              refine k_goto (tgt := 3) C dX7_reckonGraphs_84 (by decide) ?_
              refine k_sub [0, 3, 4, 5, 6] (lv' := [(4, .int (nI (g + 1))), (0, .ref m), (1, .int (nI to)), (2, .int (nI a)), (3, .int (nI vv))]) rfl ?_
              exact ih3 (g + 1) fr1 fc1 fw1 (by omega)  (by omega) (by omega) (by rw [List.take_of_length_le (by omega)] at hR; simp only [grP]; rw [if_neg (by omega)]; exact hR) hK
            · skip
              have b29 : ¬ ((opL (S g)).length) ≤ i := fun z => c29 ((nI_leI (a := (opL (S g)).length) (b := i) (by omega) (by omega)).mpr z)
              refine k_aload_n C dX7_reckonGraphs_32 rfl 3 rfl ?_
              refine k_iload C dX7_reckonGraphs_33 1 rfl ?_
              refine k_iload C dX7_reckonGraphs_35 0 rfl ?_
              have ne7 : nq wr wc := gv_ne h_wc h_wr (by simp)
              have ne8 : nq wr wn := gv_ne h_wn h_wr (by simp)
              refine k_callV C mv_7_101 (c_X7_take  ((gv_up_n ne5).trans ((gv_up_n ne4).trans ((gv_up_n ne3).trans h_m))) ((gv_up_n ne8).trans ((gv_up_n ne7).trans gv_up_s)) gv_up_s (by first | assumption | omega) (by omega)) ((gv_up_n ne5).trans ((gv_up_n ne4).trans ((gv_up_n ne3).trans h_m))) rfl rfl (by simp [Value.category]) ⟨Nat.le_of_ble_eq_true rfl, Nat.le_of_ble_eq_true rfl⟩ ⟨(by decide), (by decide)⟩ dX7_reckonGraphs_37 (fun zv zV zh => ?_)
              obtain ⟨fw1_w9, rfl, rfl, hw1_w9⟩ := zh
              refine k_pc (pc' := 40) (st' := []) rfl rfl ?_
              refine k_view (V1 := gv_up (gv_up (gv_up V wr (.inl (cI, 57600, .inl fr1))) wc (.inl (cI, 120, .inl fc1))) wn (.inl (cI, 6, .inl fw1_w9))) gv_uu ?_
              have htk := hw1_w9.tr (hA1.at (i := i) (by omega))
              refine k_aload_n C dX7_reckonGraphs_40 rfl 3 rfl ?_
              refine k_get (ci := 7) (k := 10) C fl_7_29 ((gv_up_n ne5).trans ((gv_up_n ne4).trans ((gv_up_n ne3).trans h_m))) rfl dX7_reckonGraphs_41 ?_
              refine k_iload_n C dX7_reckonGraphs_44 rfl 6 rfl ?_
              refine k_iald (v := fw1_w9 vv) C 0 gv_up_s rfl (vp_in_nI (by omega) (by omega)) (by rw [nI_clamp (by omega)]) dX7_reckonGraphs_45 ?_
              refine k_ldc (v := (-2147483648)) C wd_784 dX7_reckonGraphs_46 ?_
              refine k_icmp_eq (tgt := 62) C dX7_reckonGraphs_48 (by decide) (fun c48 => ?_) (fun c48 => ?_)
              · skip
                refine k_aload_n C dX7_reckonGraphs_62 rfl 3 rfl ?_
                refine k_get (ci := 7) (k := 10) C fl_7_29 ((gv_up_n ne5).trans ((gv_up_n ne4).trans ((gv_up_n ne3).trans h_m))) rfl dX7_reckonGraphs_63 ?_
                refine k_iload_n C dX7_reckonGraphs_66 rfl 6 rfl ?_
                refine k_iload C dX7_reckonGraphs_67 2 rfl ?_
                refine k_iast (f' := upd fw1_w9 vv (nI g)) C 0 gv_up_s rfl (vp_in_nI (by omega) (by omega)) (by rw [nI_clamp (by omega)]) dX7_reckonGraphs_69 ?_
                refine k_view (V1 := gv_up (gv_up (gv_up V wr (.inl (cI, 57600, .inl fr1))) wc (.inl (cI, 120, .inl fc1))) wn (.inl (cI, 6, .inl (upd fw1_w9 vv (nI g))))) gv_uu ?_
                refine k_aload_n C dX7_reckonGraphs_70 rfl 3 rfl ?_
                refine k_iload_n C dX7_reckonGraphs_71 rfl 4 rfl ?_
                have hgx : grX vv g (rowAt (opL (S g)) i) = true := by unfold grX; rw [← htk vv hvv]; first | (rw [c48]; rfl) | (rw [c59]; simp)
                refine k_callV C mv_7_112 (c_X7_add  ((gv_up_n ne5).trans ((gv_up_n ne4).trans ((gv_up_n ne3).trans h_m))) ((gv_up_n ne8).trans ((gv_up_n ne7).trans gv_up_s)) ((gv_up_n ne6).trans gv_up_s) gv_up_s (by first | assumption | omega) hR (gr_w htk hvv hgx)) ((gv_up_n ne5).trans ((gv_up_n ne4).trans ((gv_up_n ne3).trans h_m))) rfl rfl (by simp [Value.category]) ⟨Nat.le_of_ble_eq_true rfl, Nat.le_of_ble_eq_true rfl⟩ ⟨(by decide), (by decide)⟩ dX7_reckonGraphs_72 (fun zv zV zh => ?_)
                obtain ⟨fc1_w10, fr1_w10, rfl, rfl, hR1_w10, hk1_w10⟩ := zh
                refine k_pc (pc' := 75) (st' := []) rfl rfl ?_
                refine k_view (V1 := gv_up (gv_up (gv_up (gv_up V wr (.inl (cI, 57600, .inl fr1_w10))) wc (.inl (cI, 120, .inl fc1))) wn (.inl (cI, 6, .inl (upd fw1_w9 vv (nI g))))) wc (.inl (cI, 120, .inl fc1_w10))) (congrArg (fun W => gv_up W wc (.inl (cI, 120, .inl fc1_w10))) ((gv_uc ne8).trans (congrArg (fun W => gv_up W wn (.inl (cI, 6, .inl (upd fw1_w9 vv (nI g))))) ((gv_uc ne7).trans (congrArg (fun W => gv_up W wc (.inl (cI, 120, .inl fc1))) gv_uu))))) ?_
                refine k_view (V1 := gv_up (gv_up (gv_up V wr (.inl (cI, 57600, .inl fr1_w10))) wc (.inl (cI, 120, .inl fc1_w10))) wn (.inl (cI, 6, .inl (upd fw1_w9 vv (nI g))))) ((gv_uc ne6).trans (congrArg (fun W => gv_up W wn (.inl (cI, 6, .inl (upd fw1_w9 vv (nI g))))) gv_uu)) ?_
                refine k_iinc (v := nI (i + 1)) (lv' := [(6, .int (nI (i + 1))), (5, .int (nI (4 * a + g))), (4, .int (nI g)), (0, .ref m), (1, .int (nI to)), (2, .int (nI a)), (3, .int (nI vv))]) C dX7_reckonGraphs_75 (k := 0) rfl (nI_add i 1) (by decide) rfl ?_
                refine k_goto (tgt := 20) C dX7_reckonGraphs_78 (by decide) ?_
                exact ih20 (i + 1) fr1_w10 fc1_w10 (upd fw1_w9 vv (nI g)) (by omega)  (by omega) (by rw [grL_s (by omega), if_pos hgx, ← List.append_assoc]; exact hR1_w10) (hK.tr hk1_w10)
              · skip
                refine k_aload_n C dX7_reckonGraphs_51 rfl 3 rfl ?_
                refine k_get (ci := 7) (k := 10) C fl_7_29 ((gv_up_n ne5).trans ((gv_up_n ne4).trans ((gv_up_n ne3).trans h_m))) rfl dX7_reckonGraphs_52 ?_
                refine k_iload_n C dX7_reckonGraphs_55 rfl 6 rfl ?_
                refine k_iald (v := fw1_w9 vv) C 0 gv_up_s rfl (vp_in_nI (by omega) (by omega)) (by rw [nI_clamp (by omega)]) dX7_reckonGraphs_56 ?_
                refine k_iload C dX7_reckonGraphs_57 2 rfl ?_
                refine k_icmp_ne (tgt := 75) C dX7_reckonGraphs_59 (by decide) (fun c59 => ?_) (fun c59 => ?_)
                · skip
                  have hgx : grX vv g (rowAt (opL (S g)) i) = false := by unfold grX; rw [← htk vv hvv]; simp [c48, c59]
                  refine k_iinc (v := nI (i + 1)) (lv' := [(6, .int (nI (i + 1))), (5, .int (nI (4 * a + g))), (4, .int (nI g)), (0, .ref m), (1, .int (nI to)), (2, .int (nI a)), (3, .int (nI vv))]) C dX7_reckonGraphs_75 (k := 0) rfl (nI_add i 1) (by decide) rfl ?_
                  refine k_goto (tgt := 20) C dX7_reckonGraphs_78 (by decide) ?_
                  exact ih20 (i + 1) fr1 fc1 fw1_w9 (by omega)  (by omega) (by rw [grL_s (by omega), if_neg (by rw [hgx]; decide), List.append_nil]; exact hR) hK
                · skip
                  refine k_aload_n C dX7_reckonGraphs_62 rfl 3 rfl ?_
                  refine k_get (ci := 7) (k := 10) C fl_7_29 ((gv_up_n ne5).trans ((gv_up_n ne4).trans ((gv_up_n ne3).trans h_m))) rfl dX7_reckonGraphs_63 ?_
                  refine k_iload_n C dX7_reckonGraphs_66 rfl 6 rfl ?_
                  refine k_iload C dX7_reckonGraphs_67 2 rfl ?_
                  refine k_iast (f' := upd fw1_w9 vv (nI g)) C 0 gv_up_s rfl (vp_in_nI (by omega) (by omega)) (by rw [nI_clamp (by omega)]) dX7_reckonGraphs_69 ?_
                  refine k_view (V1 := gv_up (gv_up (gv_up V wr (.inl (cI, 57600, .inl fr1))) wc (.inl (cI, 120, .inl fc1))) wn (.inl (cI, 6, .inl (upd fw1_w9 vv (nI g))))) gv_uu ?_
                  refine k_aload_n C dX7_reckonGraphs_70 rfl 3 rfl ?_
                  refine k_iload_n C dX7_reckonGraphs_71 rfl 4 rfl ?_
                  have hgx : grX vv g (rowAt (opL (S g)) i) = true := by unfold grX; rw [← htk vv hvv]; first | (rw [c48]; rfl) | (rw [c59]; simp)
                  refine k_callV C mv_7_112 (c_X7_add  ((gv_up_n ne5).trans ((gv_up_n ne4).trans ((gv_up_n ne3).trans h_m))) ((gv_up_n ne8).trans ((gv_up_n ne7).trans gv_up_s)) ((gv_up_n ne6).trans gv_up_s) gv_up_s (by first | assumption | omega) hR (gr_w htk hvv hgx)) ((gv_up_n ne5).trans ((gv_up_n ne4).trans ((gv_up_n ne3).trans h_m))) rfl rfl (by simp [Value.category]) ⟨Nat.le_of_ble_eq_true rfl, Nat.le_of_ble_eq_true rfl⟩ ⟨(by decide), (by decide)⟩ dX7_reckonGraphs_72 (fun zv zV zh => ?_)
                  obtain ⟨fc1_w11, fr1_w11, rfl, rfl, hR1_w11, hk1_w11⟩ := zh
                  refine k_pc (pc' := 75) (st' := []) rfl rfl ?_
                  refine k_view (V1 := gv_up (gv_up (gv_up (gv_up V wr (.inl (cI, 57600, .inl fr1_w11))) wc (.inl (cI, 120, .inl fc1))) wn (.inl (cI, 6, .inl (upd fw1_w9 vv (nI g))))) wc (.inl (cI, 120, .inl fc1_w11))) (congrArg (fun W => gv_up W wc (.inl (cI, 120, .inl fc1_w11))) ((gv_uc ne8).trans (congrArg (fun W => gv_up W wn (.inl (cI, 6, .inl (upd fw1_w9 vv (nI g))))) ((gv_uc ne7).trans (congrArg (fun W => gv_up W wc (.inl (cI, 120, .inl fc1))) gv_uu))))) ?_
                  refine k_view (V1 := gv_up (gv_up (gv_up V wr (.inl (cI, 57600, .inl fr1_w11))) wc (.inl (cI, 120, .inl fc1_w11))) wn (.inl (cI, 6, .inl (upd fw1_w9 vv (nI g))))) ((gv_uc ne6).trans (congrArg (fun W => gv_up W wn (.inl (cI, 6, .inl (upd fw1_w9 vv (nI g))))) gv_uu)) ?_
                  refine k_iinc (v := nI (i + 1)) (lv' := [(6, .int (nI (i + 1))), (5, .int (nI (4 * a + g))), (4, .int (nI g)), (0, .ref m), (1, .int (nI to)), (2, .int (nI a)), (3, .int (nI vv))]) C dX7_reckonGraphs_75 (k := 0) rfl (nI_add i 1) (by decide) rfl ?_
                  refine k_goto (tgt := 20) C dX7_reckonGraphs_78 (by decide) ?_
                  exact ih20 (i + 1) fr1_w11 fc1_w11 (upd fw1_w9 vv (nI g)) (by omega)  (by omega) (by rw [grL_s (by omega), if_pos hgx, ← List.append_assoc]; exact hR1_w11) (hK.tr hk1_w11)
        exact L20 _ 0 fr1 fc1 fw1 (Nat.lt_succ_self _)  (by omega) (by simpa [grL] using hR) hK
  refine k_view (V1 := gv_up V wr (.inl (cI, 57600, .inl fr))) (gv_id h_wr).symm ?_
  have ne12 : nq wc wr := gv_ne h_wr h_wc (by simp)
  refine k_view (V1 := gv_up (gv_up V wr (.inl (cI, 57600, .inl fr))) wc (.inl (cI, 120, .inl fc))) (gv_id ((gv_up_n ne12).trans h_wc)).symm ?_
  have ne13 : nq wn wr := gv_ne h_wr h_wn (by simp)
  have ne14 : nq wn wc := gv_ne h_wc h_wn (by simp)
  refine k_view (V1 := gv_up (gv_up (gv_up V wr (.inl (cI, 57600, .inl fr))) wc (.inl (cI, 120, .inl fc))) wn (.inl (cI, 6, .inl fw))) (gv_id ((gv_up_n ne14).trans ((gv_up_n ne13).trans h_wn))).symm ?_
  exact L3 _ 1 fr fc fw (Nat.lt_succ_self _)  (by omega) (by omega) (MRep.nil hc0) Kp.rf
