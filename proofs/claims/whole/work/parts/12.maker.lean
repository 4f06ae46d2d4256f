set_option maxHeartbeats 4000000 in
set_option maxRecDepth 100000 in
theorem c_X1_makeJoin {zl : Launch} {D : va_G} {cI cN cR : ClassId} {base : Nat} {V : gv_V} {a c n : Nat} {tl mk : Int32} {f : Nat → Int32} {b c2 n2 : Nat} {tl2 mk2 : Int32} {g : Nat → Int32} {o oc : Nat} {omk : Int32} {of : Nat → Int32} {A B : List Row}  (h_a : V a = some (.inr (4, [.ref c, .int (nI n), .int tl, .int mk]))) (h_c : V c = some (.inl (cI, 486, .inl f))) (h_b : V b = some (.inr (4, [.ref c2, .int (nI n2), .int tl2, .int mk2]))) (h_c2 : V c2 = some (.inl (cI, 486, .inl g))) (h_o : V o = some (.inr (4, [.ref oc, .int (nI 0), .int (nI 0), .int omk]))) (h_oc : V oc = some (.inl (cI, 486, .inl of))) (hA : Tab A n f) (hoa : nq o a) (hca : nq oc c) (hB : Tab B n2 g) (hob : nq o b) (hcb : nq oc c2) : ct zl D [(cI, .int), (cN, .object "AlgebraTree$Node"), (cR, .object "AlgebraTree$Rows")] base yX1_makeJoin cX1_makeJoin 5 none 3 0 0 [.ref a, .ref b, .ref o] V (fun zv zV => ∃ n1 : Nat, ∃ tl1 : Int32, ∃ f1 : Nat → Int32, zv = none ∧ zV = gv_up (gv_up V oc (.inl (cI, 486, .inl f1))) o (.inr (4, [.ref oc, .int (nI n1), .int tl1, .int omk])) ∧ (Rep (joinL A B) n1 tl1 f1)) := by
  refine ct_of "AlgebraTree$Maker" rfl (by decide) (Nat.le_of_ble_eq_true rfl) ?_
  intro zp ze zs zm zargs zbelow zmeth zc C zr zlk znm
  refine k_pc (pc' := 0) (st' := []) rfl rfl ?_
  show K zp zl ze (gv_rm 3 0 0) zs zm zargs zbelow zmeth zc D base 5 (gv_E D [(cI, .int), (cN, .object "AlgebraTree$Node"), (cR, .object "AlgebraTree$Rows")] base zbelow zargs zs 0 0 (fun zv zV => ∃ n1 : Nat, ∃ tl1 : Int32, ∃ f1 : Nat → Int32, zv = none ∧ zV = gv_up (gv_up V oc (.inl (cI, 486, .inl f1))) o (.inr (4, [.ref oc, .int (nI n1), .int tl1, .int omk])) ∧ (Rep (joinL A B) n1 tl1 f1))) V 0 0 [(0, .ref a), (1, .ref b), (2, .ref o)] 0 []
  have hA1 := hA.1
  have hA2 := hA.2.1
  have hB1 := hB.1
  have hB2 := hB.2.1
  refine k_iconst (v := nI 0) C dX1_makeJoin_0 rfl ?_
  refine k_istore_n (lv' := [(3, .int (nI 0)), (0, .ref a), (1, .ref b), (2, .ref o)]) C dX1_makeJoin_1 rfl (by decide) rfl ?_
  have L2 : ∀ (zn1 : Nat) (i : Nat) (n1 : Nat) (tl1 : Int32) (f1 : Nat → Int32), n - i < zn1 → (i ≤ n) → (Rep (joinL (A.take i) B) n1 tl1 f1) → K zp zl ze (gv_rm 3 0 0) zs zm zargs zbelow zmeth zc D base 5 (gv_E D [(cI, .int), (cN, .object "AlgebraTree$Node"), (cR, .object "AlgebraTree$Rows")] base zbelow zargs zs 0 0 (fun zv zV => ∃ n1 : Nat, ∃ tl1 : Int32, ∃ f1 : Nat → Int32, zv = none ∧ zV = gv_up (gv_up V oc (.inl (cI, 486, .inl f1))) o (.inr (4, [.ref oc, .int (nI n1), .int tl1, .int omk])) ∧ (Rep (joinL A B) n1 tl1 f1))) (gv_up (gv_up V oc (.inl (cI, 486, .inl f1))) o (.inr (4, [.ref oc, .int (nI n1), .int tl1, .int omk]))) 0 0 [(3, .int (nI i)), (0, .ref a), (1, .ref b), (2, .ref o)] 2 [] := by
    intro zn1
    induction zn1 with
    | zero => intro i n1 tl1 f1 hlt; exact absurd hlt (Nat.not_lt_zero _)
    | succ zn1 ih2 =>
      intro i n1 tl1 f1 hlt2  hi hr1
      refine k_iload_n C dX1_makeJoin_2 rfl 0 rfl ?_
      refine k_aload_n C dX1_makeJoin_3 rfl 1 rfl ?_
      have ne2 : nq a oc := gv_ne h_oc h_a (by simp)
      refine k_get (ci := 4) (k := 1) C fl_1_186 ((gv_up_n (Ne.symm hoa)).trans ((gv_up_n ne2).trans h_a)) rfl dX1_makeJoin_4 ?_
      refine k_icmp_ge (tgt := 72) C dX1_makeJoin_7 (by decide) (fun c7 => ?_) (fun c7 => ?_)
      · skip
        have b7 : n ≤ i := (nI_leI (a := n) (b := i) (by omega) (by omega)).mp c7
        exact k_vret C zr zlk (by first | exact ⟨n1, tl1, f1, rfl, rfl, by rw [take_all (M := A) hA1 (show n ≤ i by omega)] at hr1; exact hr1⟩ | (obtain ⟨X, hX⟩ := pre_flat (A := A) (F := fun x => join1 x B) i; exact ⟨n1, tl1, f1, rfl, rfl, by unfold joinL at hr1 ⊢; rw [hX]; exact hr1.ext c14⟩)) (Nat.le_refl _) (Nat.le_refl _) dX1_makeJoin_72
      · skip
        have b7 : ¬ n ≤ i := fun z => c7 ((nI_leI (a := n) (b := i) (by omega) (by omega)).mpr z)
        refine k_aload_n C dX1_makeJoin_10 rfl 3 rfl ?_
        refine k_get (ci := 4) (k := 2) C fl_1_109 gv_up_s rfl dX1_makeJoin_11 ?_
        refine k_if_ne (tgt := 72) C dX1_makeJoin_14 (by decide) (fun c14 => ?_) (fun c14 => ?_)
        · skip
          exact k_vret C zr zlk (by first | exact ⟨n1, tl1, f1, rfl, rfl, by rw [take_all (M := A) hA1 (show n ≤ i by omega)] at hr1; exact hr1⟩ | (obtain ⟨X, hX⟩ := pre_flat (A := A) (F := fun x => join1 x B) i; exact ⟨n1, tl1, f1, rfl, rfl, by unfold joinL at hr1 ⊢; rw [hX]; exact hr1.ext c14⟩)) (Nat.le_refl _) (Nat.le_refl _) dX1_makeJoin_72
        · skip
          refine k_iconst (v := nI 0) C dX1_makeJoin_17 rfl ?_
          refine k_istore (lv' := [(4, .int (nI 0)), (3, .int (nI i)), (0, .ref a), (1, .ref b), (2, .ref o)]) C dX1_makeJoin_18 (by decide) rfl ?_
          have L20 : ∀ (zn3 : Nat) (j : Nat) (n3 : Nat) (tl3 : Int32) (f3 : Nat → Int32), n2 - j < zn3 → (j ≤ n2) → (Rep (joinL (A.take i) B ++ join1 (rowAt A i) (B.take j)) n3 tl3 f3) → K zp zl ze (gv_rm 3 0 0) zs zm zargs zbelow zmeth zc D base 5 (gv_E D [(cI, .int), (cN, .object "AlgebraTree$Node"), (cR, .object "AlgebraTree$Rows")] base zbelow zargs zs 0 0 (fun zv zV => ∃ n1 : Nat, ∃ tl1 : Int32, ∃ f1 : Nat → Int32, zv = none ∧ zV = gv_up (gv_up V oc (.inl (cI, 486, .inl f1))) o (.inr (4, [.ref oc, .int (nI n1), .int tl1, .int omk])) ∧ (Rep (joinL A B) n1 tl1 f1))) (gv_up (gv_up V oc (.inl (cI, 486, .inl f3))) o (.inr (4, [.ref oc, .int (nI n3), .int tl3, .int omk]))) 0 0 [(4, .int (nI j)), (3, .int (nI i)), (0, .ref a), (1, .ref b), (2, .ref o)] 20 [] := by
            intro zn3
            induction zn3 with
            | zero => intro j n3 tl3 f3 hlt; exact absurd hlt (Nat.not_lt_zero _)
            | succ zn3 ih20 =>
              intro j n3 tl3 f3 hlt20  hj hr2
              have hn3 := hr2.le
              refine k_iload C dX1_makeJoin_20 0 rfl ?_
              refine k_aload_n C dX1_makeJoin_22 rfl 3 rfl ?_
              have ne4 : nq b oc := gv_ne h_oc h_b (by simp)
              refine k_get (ci := 4) (k := 1) C fl_1_186 ((gv_up_n (Ne.symm hob)).trans ((gv_up_n ne4).trans h_b)) rfl dX1_makeJoin_23 ?_
              refine k_icmp_ge (tgt := 66) C dX1_makeJoin_26 (by decide) (fun c26 => ?_) (fun c26 => ?_)
              · skip
                have b26 : n2 ≤ j := (nI_leI (a := n2) (b := j) (by omega) (by omega)).mp c26
                refine k_iinc (v := nI (i + 1)) (lv' := [(3, .int (nI (i + 1))), (4, .int (nI j)), (0, .ref a), (1, .ref b), (2, .ref o)]) C dX1_makeJoin_66 (k := 1) rfl (nI_add i 1) (by decide) rfl ?_
                refine k_goto (tgt := 2) C dX1_makeJoin_69 (by decide) ?_
                refine k_sub [0, 2, 3, 4] (lv' := [(3, .int (nI (i + 1))), (0, .ref a), (1, .ref b), (2, .ref o)]) rfl ?_
                exact ih2 (i + 1) n3 tl3 f3 (by omega)  (by omega) (by rw [joinL_s (by omega)]; first | (rw [take_all (M := B) hB1 (show n2 ≤ j by omega)] at hr2; exact hr2) | (obtain ⟨X, hX⟩ := pre_join1 (x := rowAt A i) (B := B) j; rw [hX, ← List.append_assoc]; exact hr2.ext c33))
              · skip
                have b26 : ¬ n2 ≤ j := fun z => c26 ((nI_leI (a := n2) (b := j) (by omega) (by omega)).mpr z)
                refine k_aload_n C dX1_makeJoin_29 rfl 4 rfl ?_
                refine k_get (ci := 4) (k := 2) C fl_1_109 gv_up_s rfl dX1_makeJoin_30 ?_
                refine k_if_ne (tgt := 66) C dX1_makeJoin_33 (by decide) (fun c33 => ?_) (fun c33 => ?_)
                · skip
                  refine k_iinc (v := nI (i + 1)) (lv' := [(3, .int (nI (i + 1))), (4, .int (nI j)), (0, .ref a), (1, .ref b), (2, .ref o)]) C dX1_makeJoin_66 (k := 1) rfl (nI_add i 1) (by decide) rfl ?_
                  refine k_goto (tgt := 2) C dX1_makeJoin_69 (by decide) ?_
                  refine k_sub [0, 2, 3, 4] (lv' := [(3, .int (nI (i + 1))), (0, .ref a), (1, .ref b), (2, .ref o)]) rfl ?_
                  exact ih2 (i + 1) n3 tl3 f3 (by omega)  (by omega) (by rw [joinL_s (by omega)]; first | (rw [take_all (M := B) hB1 (show n2 ≤ j by omega)] at hr2; exact hr2) | (obtain ⟨X, hX⟩ := pre_join1 (x := rowAt A i) (B := B) j; rw [hX, ← List.append_assoc]; exact hr2.ext c33))
                · skip
                  refine k_aload_n C dX1_makeJoin_36 rfl 2 rfl ?_
                  refine k_iload_n C dX1_makeJoin_37 rfl 1 rfl ?_
                  refine k_aload_n C dX1_makeJoin_38 rfl 3 rfl ?_
                  refine k_iload C dX1_makeJoin_39 0 rfl ?_
                  have ne5 : nq c o := gv_ne h_o h_c (by simp)
                  have ne6 : nq c2 o := gv_ne h_o h_c2 (by simp)
                  refine k_callV_pi C mv_1_194 (c_X4_agrees  ((gv_up_n (Ne.symm hoa)).trans ((gv_up_n ne2).trans h_a)) ((gv_up_n ne5).trans ((gv_up_n (Ne.symm hca)).trans h_c)) ((gv_up_n (Ne.symm hob)).trans ((gv_up_n ne4).trans h_b)) ((gv_up_n ne6).trans ((gv_up_n (Ne.symm hcb)).trans h_c2)) (by first | assumption | omega) (by first | assumption | omega)) ((gv_up_n (Ne.symm hoa)).trans ((gv_up_n ne2).trans h_a)) rfl rfl (by simp [Value.category]) ⟨by decide, by decide⟩ ⟨(by decide), (by decide)⟩ dX1_makeJoin_41 ?_
                  refine k_if_eq (tgt := 60) C dX1_makeJoin_44 (by decide) (fun c44 => ?_) (fun c44 => ?_)
                  · skip
                    have b44 : (agr (rwf f i) (rwf g j)) = false := bI_0.mp c44
                    refine k_iinc (v := nI (j + 1)) (lv' := [(4, .int (nI (j + 1))), (3, .int (nI i)), (0, .ref a), (1, .ref b), (2, .ref o)]) C dX1_makeJoin_60 (k := 0) rfl (nI_add j 1) (by decide) rfl ?_
                    refine k_goto (tgt := 20) C dX1_makeJoin_63 (by decide) ?_
                    exact ih20 (j + 1) n3 tl3 f3 (by omega)  (by omega) (by rw [join1_s (by omega), if_neg (by rw [← agr_c (hA.at (by omega)) (hB.at (by omega)), b44]; decide), List.append_nil]; exact hr2)
                  · skip
                    have b44 : (agr (rwf f i) (rwf g j)) = true := bI_n.mp c44
                    refine k_aload_n C dX1_makeJoin_47 rfl 4 rfl ?_
                    refine k_aload_n C dX1_makeJoin_48 rfl 2 rfl ?_
                    refine k_iload_n C dX1_makeJoin_49 rfl 1 rfl ?_
                    refine k_aload_n C dX1_makeJoin_50 rfl 3 rfl ?_
                    refine k_iload C dX1_makeJoin_51 0 rfl ?_
                    have ne7 : nq oc o := gv_ne h_o h_oc (by simp)
                    refine k_callV_pv C mv_1_198 (c_X4_draftTogether  gv_up_s ((gv_up_n ne7).trans gv_up_s) ((gv_up_n (Ne.symm hoa)).trans ((gv_up_n ne2).trans h_a)) ((gv_up_n ne5).trans ((gv_up_n (Ne.symm hca)).trans h_c)) ((gv_up_n (Ne.symm hob)).trans ((gv_up_n ne4).trans h_b)) ((gv_up_n ne6).trans ((gv_up_n (Ne.symm hcb)).trans h_c2)) (by first | assumption | omega) (by first | assumption | omega) (by first | assumption | omega) hca hcb) gv_up_s rfl rfl (by simp [Value.category]) ⟨by decide, by decide⟩ ⟨(by decide), (by decide)⟩ dX1_makeJoin_53 ?_
                    refine k_view (V1 := gv_up (gv_up V oc (.inl (cI, 486, .inl (wrk f3 n3 (tog (rwf f i) (rwf g j)) 6)))) o (.inr (4, [.ref oc, .int (nI n3), .int tl3, .int omk]))) ((gv_uc ne7).trans (congrArg (fun W => gv_up W o (.inr (4, [.ref oc, .int (nI n3), .int tl3, .int omk]))) gv_uu)) ?_
                    refine k_aload_n C dX1_makeJoin_56 rfl 4 rfl ?_
                    refine k_callV_pv C mv_1_179 (c_X4_keepDraft  gv_up_s ((gv_up_n ne7).trans gv_up_s) (by first | assumption | omega)) gv_up_s rfl rfl (by simp [Value.category]) ⟨by decide, by decide⟩ ⟨(by decide), (by decide)⟩ dX1_makeJoin_57 ?_
                    refine k_view (V1 := gv_up (gv_up V oc (.inl (cI, 486, .inl (wrk f3 n3 (tog (rwf f i) (rwf g j)) 6)))) o (.inr (4, [.ref oc, .int (nI (if n3 = 80 then 80 else n3 + 1)), .int (if n3 = 80 then 1 else tl3), .int omk]))) gv_uu ?_
                    refine k_iinc (v := nI (j + 1)) (lv' := [(4, .int (nI (j + 1))), (3, .int (nI i)), (0, .ref a), (1, .ref b), (2, .ref o)]) C dX1_makeJoin_60 (k := 0) rfl (nI_add j 1) (by decide) rfl ?_
                    refine k_goto (tgt := 20) C dX1_makeJoin_63 (by decide) ?_
                    exact ih20 (j + 1) (if n3 = 80 then 80 else n3 + 1) (if n3 = 80 then 1 else tl3) (wrk f3 n3 (tog (rwf f i) (rwf g j)) 6) (by omega)  (by omega) (by rw [join1_s (by omega), if_pos ((agr_c (hA.at (by omega)) (hB.at (by omega))).symm.trans b44), ← List.append_assoc]; exact hr2.add (tog_c (hA.at (by omega)) (hB.at (by omega))))
          exact L20 _ 0 n1 tl1 f1 (Nat.lt_succ_self _)  (by omega) (by simpa [join1] using hr1)
  refine k_view (V1 := gv_up V oc (.inl (cI, 486, .inl of))) (gv_id h_oc).symm ?_
  have ne8 : nq o oc := gv_ne h_oc h_o (by simp)
  refine k_view (V1 := gv_up (gv_up V oc (.inl (cI, 486, .inl of))) o (.inr (4, [.ref oc, .int (nI 0), .int (nI 0), .int omk]))) (gv_id ((gv_up_n ne8).trans h_o)).symm ?_
  exact L2 _ 0 0 (nI 0) of (Nat.lt_succ_self _)  (by omega) Rep.nil
set_option maxHeartbeats 4000000 in
set_option maxRecDepth 100000 in
theorem c_X1_isTakenAway {zl : Launch} {D : va_G} {cI cN cR : ClassId} {base : Nat} {V : gv_V} {a c n : Nat} {tl mk : Int32} {f : Nat → Int32} {b c2 n2 : Nat} {tl2 mk2 : Int32} {g : Nat → Int32} {A B : List Row} {i : Nat}  (h_a : V a = some (.inr (4, [.ref c, .int (nI n), .int tl, .int mk]))) (h_c : V c = some (.inl (cI, 486, .inl f))) (h_b : V b = some (.inr (4, [.ref c2, .int (nI n2), .int tl2, .int mk2]))) (h_c2 : V c2 = some (.inl (cI, 486, .inl g))) (hA : Tab A n f) (hB : Tab B n2 g) (hi : i < n) : ct zl D [(cI, .int), (cN, .object "AlgebraTree$Node"), (cR, .object "AlgebraTree$Rows")] base yX1_isTakenAway cX1_isTakenAway 4 (some .boolean) 2 0 0 [.ref a, .int (nI i), .ref b] V (pi (bI (tknA B (rowAt A i))) V) := by
  refine ct_of "AlgebraTree$Maker" rfl (by decide) (Nat.le_of_ble_eq_true rfl) ?_
  intro zp ze zs zm zargs zbelow zmeth zc C zr zlk znm
  refine k_pc (pc' := 0) (st' := []) rfl rfl ?_
  show K zp zl ze (gv_rm 2 0 0) zs zm zargs zbelow zmeth zc D base 4 (gv_E D [(cI, .int), (cN, .object "AlgebraTree$Node"), (cR, .object "AlgebraTree$Rows")] base zbelow zargs zs 0 0 (pi (bI (tknA B (rowAt A i))) V)) V 0 0 [(0, .ref a), (1, .int (nI i)), (2, .ref b)] 0 []
  have hA1 := hA.1
  have hA2 := hA.2.1
  have hB1 := hB.1
  have hB2 := hB.2.1
  refine k_iconst (v := nI 0) C dX1_isTakenAway_0 rfl ?_
  refine k_istore_n (lv' := [(3, .int (nI 0)), (0, .ref a), (1, .int (nI i)), (2, .ref b)]) C dX1_isTakenAway_1 rfl (by decide) rfl ?_
  have L2 : ∀ (zn1 : Nat) (j : Nat), n2 - j < zn1 → (j ≤ n2) → (tknA (B.take j) (rowAt A i) = false) → K zp zl ze (gv_rm 2 0 0) zs zm zargs zbelow zmeth zc D base 4 (gv_E D [(cI, .int), (cN, .object "AlgebraTree$Node"), (cR, .object "AlgebraTree$Rows")] base zbelow zargs zs 0 0 (pi (bI (tknA B (rowAt A i))) V)) V 0 0 [(3, .int (nI j)), (0, .ref a), (1, .int (nI i)), (2, .ref b)] 2 [] := by
    intro zn1
    induction zn1 with
    | zero => intro j hlt; exact absurd hlt (Nat.not_lt_zero _)
    | succ zn1 ih2 =>
      intro j hlt2  hj hno
      refine k_iload_n C dX1_isTakenAway_2 rfl 0 rfl ?_
      refine k_aload_n C dX1_isTakenAway_3 rfl 3 rfl ?_
      refine k_get (ci := 4) (k := 1) C fl_1_186 h_b rfl dX1_isTakenAway_4 ?_
      refine k_icmp_ge (tgt := 38) C dX1_isTakenAway_7 (by decide) (fun c7 => ?_) (fun c7 => ?_)
      · skip
        have b7 : n2 ≤ j := (nI_leI (a := n2) (b := j) (by omega) (by omega)).mp c7
        refine k_iconst (v := nI 0) C dX1_isTakenAway_38 rfl ?_
        exact k_zret C zr zlk rfl (pi_of (bI_f (by rw [← take_all (M := B) hB1 (show n2 ≤ j by omega)]; exact hno)) rfl) (Nat.le_refl _) (Nat.le_refl _) dX1_isTakenAway_39
      · skip
        have b7 : ¬ n2 ≤ j := fun z => c7 ((nI_leI (a := n2) (b := j) (by omega) (by omega)).mpr z)
        refine k_aload_n C dX1_isTakenAway_10 rfl 1 rfl ?_
        refine k_iload_n C dX1_isTakenAway_11 rfl 2 rfl ?_
        refine k_aload_n C dX1_isTakenAway_12 rfl 3 rfl ?_
        refine k_iload_n C dX1_isTakenAway_13 rfl 0 rfl ?_
        refine k_callV_pi C mv_1_194 (c_X4_agrees  h_a h_c h_b h_c2 (by first | assumption | omega) (by first | assumption | omega)) h_a rfl rfl (by simp [Value.category]) ⟨by decide, by decide⟩ ⟨(by decide), (by decide)⟩ dX1_isTakenAway_14 ?_
        refine k_if_eq (tgt := 32) C dX1_isTakenAway_17 (by decide) (fun c17 => ?_) (fun c17 => ?_)
        · skip
          have b17 : (agr (rwf f i) (rwf g j)) = false := bI_0.mp c17
          refine k_iinc (v := nI (j + 1)) (lv' := [(3, .int (nI (j + 1))), (0, .ref a), (1, .int (nI i)), (2, .ref b)]) C dX1_isTakenAway_32 (k := 0) rfl (nI_add j 1) (by decide) rfl ?_
          refine k_goto (tgt := 2) C dX1_isTakenAway_35 (by decide) ?_
          exact ih2 (j + 1) (by omega)  (by omega) (by unfold tknA at hno ⊢; rw [any_s (by omega), hno, ← agr_c (hA.at hi) (hB.at (by omega)), ← shr_c (hA.at hi) (hB.at (by omega))]; simp [*])
        · skip
          have b17 : (agr (rwf f i) (rwf g j)) = true := bI_n.mp c17
          refine k_aload_n C dX1_isTakenAway_20 rfl 1 rfl ?_
          refine k_iload_n C dX1_isTakenAway_21 rfl 2 rfl ?_
          refine k_aload_n C dX1_isTakenAway_22 rfl 3 rfl ?_
          refine k_iload_n C dX1_isTakenAway_23 rfl 0 rfl ?_
          refine k_callV_pi C mv_1_210 (c_X4_shares  h_a h_c h_b h_c2 (by first | assumption | omega) (by first | assumption | omega)) h_a rfl rfl (by simp [Value.category]) ⟨by decide, by decide⟩ ⟨(by decide), (by decide)⟩ dX1_isTakenAway_24 ?_
          refine k_if_eq (tgt := 32) C dX1_isTakenAway_27 (by decide) (fun c27 => ?_) (fun c27 => ?_)
          · skip
            have b27 : (shr (rwf f i) (rwf g j)) = false := bI_0.mp c27
            refine k_iinc (v := nI (j + 1)) (lv' := [(3, .int (nI (j + 1))), (0, .ref a), (1, .int (nI i)), (2, .ref b)]) C dX1_isTakenAway_32 (k := 0) rfl (nI_add j 1) (by decide) rfl ?_
            refine k_goto (tgt := 2) C dX1_isTakenAway_35 (by decide) ?_
            exact ih2 (j + 1) (by omega)  (by omega) (by unfold tknA at hno ⊢; rw [any_s (by omega), hno, ← agr_c (hA.at hi) (hB.at (by omega)), ← shr_c (hA.at hi) (hB.at (by omega))]; simp [*])
          · skip
            have b27 : (shr (rwf f i) (rwf g j)) = true := bI_n.mp c27
            refine k_iconst (v := nI 1) C dX1_isTakenAway_30 rfl ?_
            exact k_zret C zr zlk rfl (pi_of (bI_t (by unfold tknA; rw [List.any_eq_true]; exact ⟨rowAt B j, rowAt_mem (by omega), by rw [← agr_c (hA.at hi) (hB.at (by omega)), ← shr_c (hA.at hi) (hB.at (by omega)), b17, b27]; rfl⟩)) rfl) (Nat.le_refl _) (Nat.le_refl _) dX1_isTakenAway_31
  exact L2 _ 0 (Nat.lt_succ_self _)  (by omega) rfl
set_option maxHeartbeats 4000000 in
set_option maxRecDepth 100000 in
theorem c_X1_makeMinus {zl : Launch} {D : va_G} {cI cN cR : ClassId} {base : Nat} {V : gv_V} {a c n : Nat} {tl mk : Int32} {f : Nat → Int32} {b c2 n2 : Nat} {tl2 mk2 : Int32} {g : Nat → Int32} {o oc : Nat} {omk : Int32} {of : Nat → Int32} {A B : List Row}  (h_a : V a = some (.inr (4, [.ref c, .int (nI n), .int tl, .int mk]))) (h_c : V c = some (.inl (cI, 486, .inl f))) (h_b : V b = some (.inr (4, [.ref c2, .int (nI n2), .int tl2, .int mk2]))) (h_c2 : V c2 = some (.inl (cI, 486, .inl g))) (h_o : V o = some (.inr (4, [.ref oc, .int (nI 0), .int (nI 0), .int omk]))) (h_oc : V oc = some (.inl (cI, 486, .inl of))) (hA : Tab A n f) (hoa : nq o a) (hca : nq oc c) (hB : Tab B n2 g) (hob : nq o b) (hcb : nq oc c2) : ct zl D [(cI, .int), (cN, .object "AlgebraTree$Node"), (cR, .object "AlgebraTree$Rows")] base yX1_makeMinus cX1_makeMinus 4 none 3 0 0 [.ref a, .ref b, .ref o] V (fun zv zV => ∃ n1 : Nat, ∃ tl1 : Int32, ∃ f1 : Nat → Int32, zv = none ∧ zV = gv_up (gv_up V oc (.inl (cI, 486, .inl f1))) o (.inr (4, [.ref oc, .int (nI n1), .int tl1, .int omk])) ∧ (Rep (minusL A B) n1 tl1 f1)) := by
  refine ct_of "AlgebraTree$Maker" rfl (by decide) (Nat.le_of_ble_eq_true rfl) ?_
  intro zp ze zs zm zargs zbelow zmeth zc C zr zlk znm
  refine k_pc (pc' := 0) (st' := []) rfl rfl ?_
  show K zp zl ze (gv_rm 3 0 0) zs zm zargs zbelow zmeth zc D base 4 (gv_E D [(cI, .int), (cN, .object "AlgebraTree$Node"), (cR, .object "AlgebraTree$Rows")] base zbelow zargs zs 0 0 (fun zv zV => ∃ n1 : Nat, ∃ tl1 : Int32, ∃ f1 : Nat → Int32, zv = none ∧ zV = gv_up (gv_up V oc (.inl (cI, 486, .inl f1))) o (.inr (4, [.ref oc, .int (nI n1), .int tl1, .int omk])) ∧ (Rep (minusL A B) n1 tl1 f1))) V 0 0 [(0, .ref a), (1, .ref b), (2, .ref o)] 0 []
  have hA1 := hA.1
  have hA2 := hA.2.1
  have hB1 := hB.1
  have hB2 := hB.2.1
  refine k_iconst (v := nI 0) C dX1_makeMinus_0 rfl ?_
  refine k_istore_n (lv' := [(3, .int (nI 0)), (0, .ref a), (1, .ref b), (2, .ref o)]) C dX1_makeMinus_1 rfl (by decide) rfl ?_
  have L2 : ∀ (zn1 : Nat) (i : Nat) (n1 : Nat) (tl1 : Int32) (f1 : Nat → Int32), n - i < zn1 → (i ≤ n) → (Rep (minusL (A.take i) B) n1 tl1 f1) → K zp zl ze (gv_rm 3 0 0) zs zm zargs zbelow zmeth zc D base 4 (gv_E D [(cI, .int), (cN, .object "AlgebraTree$Node"), (cR, .object "AlgebraTree$Rows")] base zbelow zargs zs 0 0 (fun zv zV => ∃ n1 : Nat, ∃ tl1 : Int32, ∃ f1 : Nat → Int32, zv = none ∧ zV = gv_up (gv_up V oc (.inl (cI, 486, .inl f1))) o (.inr (4, [.ref oc, .int (nI n1), .int tl1, .int omk])) ∧ (Rep (minusL A B) n1 tl1 f1))) (gv_up (gv_up V oc (.inl (cI, 486, .inl f1))) o (.inr (4, [.ref oc, .int (nI n1), .int tl1, .int omk]))) 0 0 [(3, .int (nI i)), (0, .ref a), (1, .ref b), (2, .ref o)] 2 [] := by
    intro zn1
    induction zn1 with
    | zero => intro i n1 tl1 f1 hlt; exact absurd hlt (Nat.not_lt_zero _)
    | succ zn1 ih2 =>
      intro i n1 tl1 f1 hlt2  hi hr1
      have hn1 := hr1.le
      refine k_iload_n C dX1_makeMinus_2 rfl 0 rfl ?_
      refine k_aload_n C dX1_makeMinus_3 rfl 1 rfl ?_
      have ne2 : nq a oc := gv_ne h_oc h_a (by simp)
      refine k_get (ci := 4) (k := 1) C fl_1_186 ((gv_up_n (Ne.symm hoa)).trans ((gv_up_n ne2).trans h_a)) rfl dX1_makeMinus_4 ?_
      refine k_icmp_ge (tgt := 31) C dX1_makeMinus_7 (by decide) (fun c7 => ?_) (fun c7 => ?_)
      · skip
        have b7 : n ≤ i := (nI_leI (a := n) (b := i) (by omega) (by omega)).mp c7
        exact k_vret C zr zlk ⟨n1, tl1, f1, rfl, rfl, by rw [take_all (M := A) hA1 (show n ≤ i by omega)] at hr1; exact hr1⟩ (Nat.le_refl _) (Nat.le_refl _) dX1_makeMinus_31
      · skip
        have b7 : ¬ n ≤ i := fun z => c7 ((nI_leI (a := n) (b := i) (by omega) (by omega)).mpr z)
        refine k_aload_n C dX1_makeMinus_10 rfl 1 rfl ?_
        refine k_iload_n C dX1_makeMinus_11 rfl 0 rfl ?_
        refine k_aload_n C dX1_makeMinus_12 rfl 2 rfl ?_
        have ne3 : nq c o := gv_ne h_o h_c (by simp)
        have ne4 : nq b oc := gv_ne h_oc h_b (by simp)
        have ne5 : nq c2 o := gv_ne h_o h_c2 (by simp)
        refine k_callS_pi C ms_1_202 (c_X1_isTakenAway  ((gv_up_n (Ne.symm hoa)).trans ((gv_up_n ne2).trans h_a)) ((gv_up_n ne3).trans ((gv_up_n (Ne.symm hca)).trans h_c)) ((gv_up_n (Ne.symm hob)).trans ((gv_up_n ne4).trans h_b)) ((gv_up_n ne5).trans ((gv_up_n (Ne.symm hcb)).trans h_c2)) (by first | assumption | omega) (by first | assumption | omega) (by first | assumption | omega)) rfl rfl (by simp [Value.category]) ⟨by decide, by decide⟩ ⟨(by decide), (by decide)⟩ dX1_makeMinus_13 ?_
        refine k_if_ne (tgt := 25) C dX1_makeMinus_16 (by decide) (fun c16 => ?_) (fun c16 => ?_)
        · skip
          have b16 : (tknA B (rowAt A i)) = true := bI_n.mp c16
          refine k_iinc (v := nI (i + 1)) (lv' := [(3, .int (nI (i + 1))), (0, .ref a), (1, .ref b), (2, .ref o)]) C dX1_makeMinus_25 (k := 0) rfl (nI_add i 1) (by decide) rfl ?_
          refine k_goto (tgt := 2) C dX1_makeMinus_28 (by decide) ?_
          exact ih2 (i + 1) n1 tl1 f1 (by omega)  (by omega) (by unfold minusL at hr1 ⊢; rw [filt_s (by omega), if_neg (by rw [b16]; decide), List.append_nil]; exact hr1)
        · skip
          have b16 : (tknA B (rowAt A i)) = false := bI_0.mp c16
          refine k_aload_n C dX1_makeMinus_19 rfl 3 rfl ?_
          refine k_aload_n C dX1_makeMinus_20 rfl 1 rfl ?_
          refine k_iload_n C dX1_makeMinus_21 rfl 0 rfl ?_
          have ne6 : nq oc o := gv_ne h_o h_oc (by simp)
          refine k_callV_pv C mv_1_206 (c_X4_addRow  gv_up_s ((gv_up_n ne6).trans gv_up_s) ((gv_up_n (Ne.symm hoa)).trans ((gv_up_n ne2).trans h_a)) ((gv_up_n ne3).trans ((gv_up_n (Ne.symm hca)).trans h_c)) (by first | assumption | omega) (by first | assumption | omega) hca) gv_up_s rfl rfl (by simp [Value.category]) ⟨by decide, by decide⟩ ⟨(by decide), (by decide)⟩ dX1_makeMinus_22 ?_
          refine k_view (V1 := gv_up (gv_up (gv_up V oc (.inl (cI, 486, .inl (wrk f1 n1 (prj (nI 63) (rwf f i)) 6)))) o (.inr (4, [.ref oc, .int (nI n1), .int tl1, .int omk]))) o (.inr (4, [.ref oc, .int (nI (if n1 = 80 then 80 else n1 + 1)), .int (if n1 = 80 then 1 else tl1), .int omk]))) (congrArg (fun W => gv_up W o (.inr (4, [.ref oc, .int (nI (if n1 = 80 then 80 else n1 + 1)), .int (if n1 = 80 then 1 else tl1), .int omk]))) ((gv_uc ne6).trans (congrArg (fun W => gv_up W o (.inr (4, [.ref oc, .int (nI n1), .int tl1, .int omk]))) gv_uu))) ?_
          refine k_view (V1 := gv_up (gv_up V oc (.inl (cI, 486, .inl (wrk f1 n1 (prj (nI 63) (rwf f i)) 6)))) o (.inr (4, [.ref oc, .int (nI (if n1 = 80 then 80 else n1 + 1)), .int (if n1 = 80 then 1 else tl1), .int omk]))) gv_uu ?_
          refine k_iinc (v := nI (i + 1)) (lv' := [(3, .int (nI (i + 1))), (0, .ref a), (1, .ref b), (2, .ref o)]) C dX1_makeMinus_25 (k := 0) rfl (nI_add i 1) (by decide) rfl ?_
          refine k_goto (tgt := 2) C dX1_makeMinus_28 (by decide) ?_
          exact ih2 (i + 1) (if n1 = 80 then 80 else n1 + 1) (if n1 = 80 then 1 else tl1) (wrk f1 n1 (prj (nI 63) (rwf f i)) 6) (by omega)  (by omega) (by unfold minusL at hr1 ⊢; rw [filt_s (by omega), if_pos (by rw [b16]; rfl)]; exact hr1.add (eq6_prj (hA.at (by omega))))
  refine k_view (V1 := gv_up V oc (.inl (cI, 486, .inl of))) (gv_id h_oc).symm ?_
  have ne7 : nq o oc := gv_ne h_oc h_o (by simp)
  refine k_view (V1 := gv_up (gv_up V oc (.inl (cI, 486, .inl of))) o (.inr (4, [.ref oc, .int (nI 0), .int (nI 0), .int omk]))) (gv_id ((gv_up_n ne7).trans h_o)).symm ?_
  exact L2 _ 0 0 (nI 0) of (Nat.lt_succ_self _)  (by omega) Rep.nil
set_option maxHeartbeats 4000000 in
set_option maxRecDepth 100000 in
theorem c_X1_makeFilter {zl : Launch} {D : va_G} {cI cN cR : ClassId} {base : Nat} {V : gv_V} {mo tr nd tb wg ky pl : Nat} {no : Nat} {kind na nb ps pp po va st fr ln dn ag gr : Int32} {e : Nat} {xe ak af as ap av ne : Nat} {kd fs sc pt vl : Nat → Int32} {a c n : Nat} {tl mk : Int32} {f : Nat → Int32} {o oc : Nat} {omk : Int32} {of : Nat → Int32} {A : List Row} {E : Nat → Ex}  (h_mo : V mo = some (.inr (1, [.ref tr, .ref xe, .ref nd, .ref tb, .ref wg, .ref ky, .ref pl]))) (h_no : V no = some (.inr (2, [.int kind, .int na, .int nb, .int ps, .int pp, .int po, .int (nI e), .int va, .int st, .int fr, .int ln, .int dn, .int ag, .int gr]))) (h_xe : V xe = some (.inr (0, [.ref ak, .ref af, .ref as, .ref ap, .ref av, .int (nI ne)]))) (h_ak : V ak = some (.inl (cI, 30, .inl kd))) (h_af : V af = some (.inl (cI, 30, .inl fs))) (h_as : V as = some (.inl (cI, 30, .inl sc))) (h_ap : V ap = some (.inl (cI, 30, .inl pt))) (h_av : V av = some (.inl (cI, 30, .inl vl))) (h_a : V a = some (.inr (4, [.ref c, .int (nI n), .int tl, .int mk]))) (h_c : V c = some (.inl (cI, 486, .inl f))) (h_o : V o = some (.inr (4, [.ref oc, .int (nI 0), .int (nI 0), .int omk]))) (h_oc : V oc = some (.inl (cI, 486, .inl of))) (hX : ExR E ne kd fs sc pt) (he : e < ne) (hd : [ak, af, as, ap, av].Nodup) (hA : Tab A n f) (hoa : nq o a) (hca : nq oc c) : ct zl D [(cI, .int), (cN, .object "AlgebraTree$Node"), (cR, .object "AlgebraTree$Rows")] base yX1_makeFilter cX1_makeFilter 5 none 3 0 0 [.ref mo, .ref no, .ref a, .ref o] V (fun zv zV => ∃ n1 : Nat, ∃ tl1 : Int32, ∃ f1 : Nat → Int32, ∃ vl1 : Nat → Int32, zv = none ∧ zV = gv_up (gv_up (gv_up V av (.inl (cI, 30, .inl vl1))) oc (.inl (cI, 486, .inl f1))) o (.inr (4, [.ref oc, .int (nI n1), .int tl1, .int omk])) ∧ (Rep (A.filter (fun x => isT (ev E x e))) n1 tl1 f1)) := by
  refine ct_of "AlgebraTree$Maker" rfl (by decide) (Nat.le_of_ble_eq_true rfl) ?_
  intro zp ze zs zm zargs zbelow zmeth zc C zr zlk znm
  refine k_pc (pc' := 0) (st' := []) rfl rfl ?_
  show K zp zl ze (gv_rm 3 0 0) zs zm zargs zbelow zmeth zc D base 5 (gv_E D [(cI, .int), (cN, .object "AlgebraTree$Node"), (cR, .object "AlgebraTree$Rows")] base zbelow zargs zs 0 0 (fun zv zV => ∃ n1 : Nat, ∃ tl1 : Int32, ∃ f1 : Nat → Int32, ∃ vl1 : Nat → Int32, zv = none ∧ zV = gv_up (gv_up (gv_up V av (.inl (cI, 30, .inl vl1))) oc (.inl (cI, 486, .inl f1))) o (.inr (4, [.ref oc, .int (nI n1), .int tl1, .int omk])) ∧ (Rep (A.filter (fun x => isT (ev E x e))) n1 tl1 f1))) V 0 0 [(0, .ref mo), (1, .ref no), (2, .ref a), (3, .ref o)] 0 []
  have hA1 := hA.1
  have hA2 := hA.2.1
  refine k_iconst (v := nI 0) C dX1_makeFilter_0 rfl ?_
  refine k_istore (lv' := [(4, .int (nI 0)), (0, .ref mo), (1, .ref no), (2, .ref a), (3, .ref o)]) C dX1_makeFilter_1 (by decide) rfl ?_
  have L3 : ∀ (zn1 : Nat) (i : Nat) (n1 : Nat) (tl1 : Int32) (f1 : Nat → Int32) (vl1 : Nat → Int32), n - i < zn1 → (i ≤ n) → (Rep ((A.take i).filter (fun x => isT (ev E x e))) n1 tl1 f1) → K zp zl ze (gv_rm 3 0 0) zs zm zargs zbelow zmeth zc D base 5 (gv_E D [(cI, .int), (cN, .object "AlgebraTree$Node"), (cR, .object "AlgebraTree$Rows")] base zbelow zargs zs 0 0 (fun zv zV => ∃ n1 : Nat, ∃ tl1 : Int32, ∃ f1 : Nat → Int32, ∃ vl1 : Nat → Int32, zv = none ∧ zV = gv_up (gv_up (gv_up V av (.inl (cI, 30, .inl vl1))) oc (.inl (cI, 486, .inl f1))) o (.inr (4, [.ref oc, .int (nI n1), .int tl1, .int omk])) ∧ (Rep (A.filter (fun x => isT (ev E x e))) n1 tl1 f1))) (gv_up (gv_up (gv_up V av (.inl (cI, 30, .inl vl1))) oc (.inl (cI, 486, .inl f1))) o (.inr (4, [.ref oc, .int (nI n1), .int tl1, .int omk]))) 0 0 [(4, .int (nI i)), (0, .ref mo), (1, .ref no), (2, .ref a), (3, .ref o)] 3 [] := by
    intro zn1
    induction zn1 with
    | zero => intro i n1 tl1 f1 vl1 hlt; exact absurd hlt (Nat.not_lt_zero _)
    | succ zn1 ih3 =>
      intro i n1 tl1 f1 vl1 hlt3  hi hr1
      have hn1 := hr1.le
      refine k_iload C dX1_makeFilter_3 0 rfl ?_
      refine k_aload_n C dX1_makeFilter_5 rfl 3 rfl ?_
      have ne2 : nq a av := gv_ne h_av h_a (by simp)
      have ne3 : nq a oc := gv_ne h_oc h_a (by simp)
      refine k_get (ci := 4) (k := 1) C fl_1_186 ((gv_up_n (Ne.symm hoa)).trans ((gv_up_n ne3).trans ((gv_up_n ne2).trans h_a))) rfl dX1_makeFilter_6 ?_
      refine k_icmp_ge (tgt := 45) C dX1_makeFilter_9 (by decide) (fun c9 => ?_) (fun c9 => ?_)
      · skip
        have b9 : n ≤ i := (nI_leI (a := n) (b := i) (by omega) (by omega)).mp c9
        exact k_vret C zr zlk ⟨n1, tl1, f1, vl1, rfl, rfl, by rw [take_all (M := A) hA1 (show n ≤ i by omega)] at hr1; exact hr1⟩ (Nat.le_refl _) (Nat.le_refl _) dX1_makeFilter_45
      · skip
        have b9 : ¬ n ≤ i := fun z => c9 ((nI_leI (a := n) (b := i) (by omega) (by omega)).mpr z)
        refine k_aload_n C dX1_makeFilter_12 rfl 1 rfl ?_
        have ne4 : nq mo av := gv_ne h_av h_mo (by simp)
        have ne5 : nq mo oc := gv_ne h_oc h_mo (by simp)
        have ne6 : nq mo o := gv_ne h_o h_mo (by simp)
        refine k_get (ci := 1) (k := 1) C fl_1_21 ((gv_up_n ne6).trans ((gv_up_n ne5).trans ((gv_up_n ne4).trans h_mo))) rfl dX1_makeFilter_13 ?_
        refine k_aload_n C dX1_makeFilter_16 rfl 2 rfl ?_
        have ne7 : nq no av := gv_ne h_av h_no (by simp)
        have ne8 : nq no oc := gv_ne h_oc h_no (by simp)
        have ne9 : nq no o := gv_ne h_o h_no (by simp)
        refine k_get (ci := 2) (k := 6) C fl_1_213 ((gv_up_n ne9).trans ((gv_up_n ne8).trans ((gv_up_n ne7).trans h_no))) rfl dX1_makeFilter_17 ?_
        refine k_aload_n C dX1_makeFilter_20 rfl 3 rfl ?_
        refine k_iload C dX1_makeFilter_21 0 rfl ?_
        have ne10 : nq xe av := gv_ne h_av h_xe (by simp)
        have ne11 : nq xe oc := gv_ne h_oc h_xe (by simp)
        have ne12 : nq xe o := gv_ne h_o h_xe (by simp)
        have ne13 : nq ak oc := gv_ne h_oc h_ak (by simp)
        have ne14 : nq ak o := gv_ne h_o h_ak (by simp)
        have ne15 : nq af oc := gv_ne h_oc h_af (by simp)
        have ne16 : nq af o := gv_ne h_o h_af (by simp)
        have ne17 : nq as oc := gv_ne h_oc h_as (by simp)
        have ne18 : nq as o := gv_ne h_o h_as (by simp)
        have ne19 : nq ap oc := gv_ne h_oc h_ap (by simp)
        have ne20 : nq ap o := gv_ne h_o h_ap (by simp)
        have ne21 : nq av oc := gv_ne h_oc h_av (by simp)
        have ne22 : nq av o := gv_ne h_o h_av (by simp)
        have ne23 : nq c av := gv_ne h_av h_c (by simp)
        have ne24 : nq c o := gv_ne h_o h_c (by simp)
        refine k_callV C mv_1_216 (c_X0_valueOf  ((gv_up_n ne12).trans ((gv_up_n ne11).trans ((gv_up_n ne10).trans h_xe))) ((gv_up_n ne14).trans ((gv_up_n ne13).trans ((gv_up_n (Ne.symm (ndp hd 4 0 rfl rfl (by decide)))).trans h_ak))) ((gv_up_n ne16).trans ((gv_up_n ne15).trans ((gv_up_n (Ne.symm (ndp hd 4 1 rfl rfl (by decide)))).trans h_af))) ((gv_up_n ne18).trans ((gv_up_n ne17).trans ((gv_up_n (Ne.symm (ndp hd 4 2 rfl rfl (by decide)))).trans h_as))) ((gv_up_n ne20).trans ((gv_up_n ne19).trans ((gv_up_n (Ne.symm (ndp hd 4 3 rfl rfl (by decide)))).trans h_ap))) ((gv_up_n ne22).trans ((gv_up_n ne21).trans gv_up_s)) ((gv_up_n (Ne.symm hoa)).trans ((gv_up_n ne3).trans ((gv_up_n ne2).trans h_a))) ((gv_up_n ne24).trans ((gv_up_n (Ne.symm hca)).trans ((gv_up_n ne23).trans h_c))) (by first | assumption | omega) (by first | assumption | omega) (by first | assumption | omega) (by first | assumption | omega)) ((gv_up_n ne12).trans ((gv_up_n ne11).trans ((gv_up_n ne10).trans h_xe))) rfl rfl (by simp [Value.category]) ⟨by decide, by decide⟩ ⟨(by decide), (by decide)⟩ dX1_makeFilter_23 (fun zv zV zh => ?_)
        obtain ⟨vl1_w25, rfl, rfl⟩ := zh
        refine k_pc (pc' := 26) (st' := .int (ev E (rwf f i) e) :: []) rfl rfl ?_
        refine k_view (V1 := gv_up (gv_up (gv_up V av (.inl (cI, 30, .inl vl1_w25))) oc (.inl (cI, 486, .inl f1))) o (.inr (4, [.ref oc, .int (nI n1), .int tl1, .int omk]))) ((gv_uc ne22).trans (congrArg (fun W => gv_up W o (.inr (4, [.ref oc, .int (nI n1), .int tl1, .int omk]))) ((gv_uc ne21).trans (congrArg (fun W => gv_up W oc (.inl (cI, 486, .inl f1))) gv_uu)))) ?_
        refine k_callS_pi C ms_1_220 (c_X6_isTrue   ) rfl rfl (by simp [Value.category]) ⟨by decide, by decide⟩ ⟨(by decide), (by decide)⟩ dX1_makeFilter_26 ?_
        refine k_if_eq (tgt := 39) C dX1_makeFilter_29 (by decide) (fun c29 => ?_) (fun c29 => ?_)
        · skip
          have b29 : (isT (ev E (rwf f i) e)) = false := bI_0.mp c29
          refine k_iinc (v := nI (i + 1)) (lv' := [(4, .int (nI (i + 1))), (0, .ref mo), (1, .ref no), (2, .ref a), (3, .ref o)]) C dX1_makeFilter_39 (k := 0) rfl (nI_add i 1) (by decide) rfl ?_
          refine k_goto (tgt := 3) C dX1_makeFilter_42 (by decide) ?_
          exact ih3 (i + 1) n1 tl1 f1 vl1_w25 (by omega)  (by omega) (by rw [filt_s (by omega), if_neg (by rw [← ev_c hX (hA.at (by omega)) (e + 1) e (by omega) he, b29]; decide), List.append_nil]; exact hr1)
        · skip
          have b29 : (isT (ev E (rwf f i) e)) = true := bI_n.mp c29
          refine k_aload_n C dX1_makeFilter_32 rfl 4 rfl ?_
          refine k_aload_n C dX1_makeFilter_33 rfl 3 rfl ?_
          refine k_iload C dX1_makeFilter_34 0 rfl ?_
          have ne26 : nq oc o := gv_ne h_o h_oc (by simp)
          refine k_callV_pv C mv_1_206 (c_X4_addRow  gv_up_s ((gv_up_n ne26).trans gv_up_s) ((gv_up_n (Ne.symm hoa)).trans ((gv_up_n ne3).trans ((gv_up_n ne2).trans h_a))) ((gv_up_n ne24).trans ((gv_up_n (Ne.symm hca)).trans ((gv_up_n ne23).trans h_c))) (by first | assumption | omega) (by first | assumption | omega) hca) gv_up_s rfl rfl (by simp [Value.category]) ⟨by decide, by decide⟩ ⟨(by decide), (by decide)⟩ dX1_makeFilter_36 ?_
          refine k_view (V1 := gv_up (gv_up (gv_up (gv_up V av (.inl (cI, 30, .inl vl1_w25))) oc (.inl (cI, 486, .inl (wrk f1 n1 (prj (nI 63) (rwf f i)) 6)))) o (.inr (4, [.ref oc, .int (nI n1), .int tl1, .int omk]))) o (.inr (4, [.ref oc, .int (nI (if n1 = 80 then 80 else n1 + 1)), .int (if n1 = 80 then 1 else tl1), .int omk]))) (congrArg (fun W => gv_up W o (.inr (4, [.ref oc, .int (nI (if n1 = 80 then 80 else n1 + 1)), .int (if n1 = 80 then 1 else tl1), .int omk]))) ((gv_uc ne26).trans (congrArg (fun W => gv_up W o (.inr (4, [.ref oc, .int (nI n1), .int tl1, .int omk]))) gv_uu))) ?_
          refine k_view (V1 := gv_up (gv_up (gv_up V av (.inl (cI, 30, .inl vl1_w25))) oc (.inl (cI, 486, .inl (wrk f1 n1 (prj (nI 63) (rwf f i)) 6)))) o (.inr (4, [.ref oc, .int (nI (if n1 = 80 then 80 else n1 + 1)), .int (if n1 = 80 then 1 else tl1), .int omk]))) gv_uu ?_
          refine k_iinc (v := nI (i + 1)) (lv' := [(4, .int (nI (i + 1))), (0, .ref mo), (1, .ref no), (2, .ref a), (3, .ref o)]) C dX1_makeFilter_39 (k := 0) rfl (nI_add i 1) (by decide) rfl ?_
          refine k_goto (tgt := 3) C dX1_makeFilter_42 (by decide) ?_
          exact ih3 (i + 1) (if n1 = 80 then 80 else n1 + 1) (if n1 = 80 then 1 else tl1) (wrk f1 n1 (prj (nI 63) (rwf f i)) 6) vl1_w25 (by omega)  (by omega) (by rw [filt_s (by omega), if_pos (by rw [← ev_c hX (hA.at (by omega)) (e + 1) e (by omega) he]; exact b29)]; exact hr1.add (eq6_prj (hA.at (by omega))))
  refine k_view (V1 := gv_up V av (.inl (cI, 30, .inl vl))) (gv_id h_av).symm ?_
  have ne27 : nq oc av := gv_ne h_av h_oc (by simp)
  refine k_view (V1 := gv_up (gv_up V av (.inl (cI, 30, .inl vl))) oc (.inl (cI, 486, .inl of))) (gv_id ((gv_up_n ne27).trans h_oc)).symm ?_
  have ne28 : nq o av := gv_ne h_av h_o (by simp)
  have ne29 : nq o oc := gv_ne h_oc h_o (by simp)
  refine k_view (V1 := gv_up (gv_up (gv_up V av (.inl (cI, 30, .inl vl))) oc (.inl (cI, 486, .inl of))) o (.inr (4, [.ref oc, .int (nI 0), .int (nI 0), .int omk]))) (gv_id ((gv_up_n ne29).trans ((gv_up_n ne28).trans h_o))).symm ?_
  exact L3 _ 0 0 (nI 0) of vl (Nat.lt_succ_self _)  (by omega) Rep.nil
set_option maxHeartbeats 4000000 in
set_option maxRecDepth 100000 in
theorem c_X1_makeExtension {zl : Launch} {D : va_G} {cI cN cR : ClassId} {base : Nat} {V : gv_V} {mo tr nd tb wg ky pl : Nat} {no : Nat} {kind na nb ps pp po st fr ln dn ag gr : Int32} {e vv : Nat} {xe ak af as ap av ne : Nat} {kd fs sc pt vl : Nat → Int32} {a c n : Nat} {tl mk : Int32} {f : Nat → Int32} {o oc : Nat} {omk : Int32} {of : Nat → Int32} {A : List Row} {E : Nat → Ex}  (h_mo : V mo = some (.inr (1, [.ref tr, .ref xe, .ref nd, .ref tb, .ref wg, .ref ky, .ref pl]))) (h_no : V no = some (.inr (2, [.int kind, .int na, .int nb, .int ps, .int pp, .int po, .int (nI e), .int (nI vv), .int st, .int fr, .int ln, .int dn, .int ag, .int gr]))) (h_xe : V xe = some (.inr (0, [.ref ak, .ref af, .ref as, .ref ap, .ref av, .int (nI ne)]))) (h_ak : V ak = some (.inl (cI, 30, .inl kd))) (h_af : V af = some (.inl (cI, 30, .inl fs))) (h_as : V as = some (.inl (cI, 30, .inl sc))) (h_ap : V ap = some (.inl (cI, 30, .inl pt))) (h_av : V av = some (.inl (cI, 30, .inl vl))) (h_a : V a = some (.inr (4, [.ref c, .int (nI n), .int tl, .int mk]))) (h_c : V c = some (.inl (cI, 486, .inl f))) (h_o : V o = some (.inr (4, [.ref oc, .int (nI 0), .int (nI 0), .int omk]))) (h_oc : V oc = some (.inl (cI, 486, .inl of))) (hX : ExR E ne kd fs sc pt) (he : e < ne) (hd : [ak, af, as, ap, av].Nodup) (hA : Tab A n f) (hoa : nq o a) (hca : nq oc c) (hvv : vv < 6) : ct zl D [(cI, .int), (cN, .object "AlgebraTree$Node"), (cR, .object "AlgebraTree$Rows")] base yX1_makeExtension cX1_makeExtension 5 none 3 0 0 [.ref mo, .ref no, .ref a, .ref o] V (fun zv zV => ∃ n1 : Nat, ∃ tl1 : Int32, ∃ f1 : Nat → Int32, ∃ vl1 : Nat → Int32, zv = none ∧ zV = gv_up (gv_up (gv_up V av (.inl (cI, 30, .inl vl1))) oc (.inl (cI, 486, .inl f1))) o (.inr (4, [.ref oc, .int (nI n1), .int tl1, .int omk])) ∧ (Rep (A.map (fun x => extR vv (ev E x e) x)) n1 tl1 f1)) := by
  refine ct_of "AlgebraTree$Maker" rfl (by decide) (Nat.le_of_ble_eq_true rfl) ?_
  intro zp ze zs zm zargs zbelow zmeth zc C zr zlk znm
  refine k_pc (pc' := 0) (st' := []) rfl rfl ?_
  show K zp zl ze (gv_rm 3 0 0) zs zm zargs zbelow zmeth zc D base 5 (gv_E D [(cI, .int), (cN, .object "AlgebraTree$Node"), (cR, .object "AlgebraTree$Rows")] base zbelow zargs zs 0 0 (fun zv zV => ∃ n1 : Nat, ∃ tl1 : Int32, ∃ f1 : Nat → Int32, ∃ vl1 : Nat → Int32, zv = none ∧ zV = gv_up (gv_up (gv_up V av (.inl (cI, 30, .inl vl1))) oc (.inl (cI, 486, .inl f1))) o (.inr (4, [.ref oc, .int (nI n1), .int tl1, .int omk])) ∧ (Rep (A.map (fun x => extR vv (ev E x e) x)) n1 tl1 f1))) V 0 0 [(0, .ref mo), (1, .ref no), (2, .ref a), (3, .ref o)] 0 []
  have hA1 := hA.1
  have hA2 := hA.2.1
  refine k_iconst (v := nI 0) C dX1_makeExtension_0 rfl ?_
  refine k_istore (lv' := [(4, .int (nI 0)), (0, .ref mo), (1, .ref no), (2, .ref a), (3, .ref o)]) C dX1_makeExtension_1 (by decide) rfl ?_
  have L3 : ∀ (zn1 : Nat) (i : Nat) (n1 : Nat) (tl1 : Int32) (f1 : Nat → Int32) (vl1 : Nat → Int32), n - i < zn1 → (i ≤ n) → (Rep ((A.take i).map (fun x => extR vv (ev E x e) x)) n1 tl1 f1) → K zp zl ze (gv_rm 3 0 0) zs zm zargs zbelow zmeth zc D base 5 (gv_E D [(cI, .int), (cN, .object "AlgebraTree$Node"), (cR, .object "AlgebraTree$Rows")] base zbelow zargs zs 0 0 (fun zv zV => ∃ n1 : Nat, ∃ tl1 : Int32, ∃ f1 : Nat → Int32, ∃ vl1 : Nat → Int32, zv = none ∧ zV = gv_up (gv_up (gv_up V av (.inl (cI, 30, .inl vl1))) oc (.inl (cI, 486, .inl f1))) o (.inr (4, [.ref oc, .int (nI n1), .int tl1, .int omk])) ∧ (Rep (A.map (fun x => extR vv (ev E x e) x)) n1 tl1 f1))) (gv_up (gv_up (gv_up V av (.inl (cI, 30, .inl vl1))) oc (.inl (cI, 486, .inl f1))) o (.inr (4, [.ref oc, .int (nI n1), .int tl1, .int omk]))) 0 0 [(4, .int (nI i)), (0, .ref mo), (1, .ref no), (2, .ref a), (3, .ref o)] 3 [] := by
    intro zn1
    induction zn1 with
    | zero => intro i n1 tl1 f1 vl1 hlt; exact absurd hlt (Nat.not_lt_zero _)
    | succ zn1 ih3 =>
      intro i n1 tl1 f1 vl1 hlt3  hi hr1
      have hn1 := hr1.le
      refine k_iload C dX1_makeExtension_3 0 rfl ?_
      refine k_aload_n C dX1_makeExtension_5 rfl 3 rfl ?_
      have ne2 : nq a av := gv_ne h_av h_a (by simp)
      have ne3 : nq a oc := gv_ne h_oc h_a (by simp)
      refine k_get (ci := 4) (k := 1) C fl_1_186 ((gv_up_n (Ne.symm hoa)).trans ((gv_up_n ne3).trans ((gv_up_n ne2).trans h_a))) rfl dX1_makeExtension_6 ?_
      refine k_icmp_ge (tgt := 54) C dX1_makeExtension_9 (by decide) (fun c9 => ?_) (fun c9 => ?_)
      · skip
        have b9 : n ≤ i := (nI_leI (a := n) (b := i) (by omega) (by omega)).mp c9
        exact k_vret C zr zlk ⟨n1, tl1, f1, vl1, rfl, rfl, by rw [take_all (M := A) hA1 (show n ≤ i by omega)] at hr1; exact hr1⟩ (Nat.le_refl _) (Nat.le_refl _) dX1_makeExtension_54
      · skip
        have b9 : ¬ n ≤ i := fun z => c9 ((nI_leI (a := n) (b := i) (by omega) (by omega)).mpr z)
        refine k_aload_n C dX1_makeExtension_12 rfl 4 rfl ?_
        refine k_aload_n C dX1_makeExtension_13 rfl 3 rfl ?_
        refine k_iload C dX1_makeExtension_14 0 rfl ?_
        refine k_bipush (v := nI 63) C dX1_makeExtension_16 rfl ?_
        have ne4 : nq oc o := gv_ne h_o h_oc (by simp)
        have ne5 : nq c av := gv_ne h_av h_c (by simp)
        have ne6 : nq c o := gv_ne h_o h_c (by simp)
        refine k_callV_pv C mv_1_187 (c_X4_draftOf  gv_up_s ((gv_up_n ne4).trans gv_up_s) ((gv_up_n (Ne.symm hoa)).trans ((gv_up_n ne3).trans ((gv_up_n ne2).trans h_a))) ((gv_up_n ne6).trans ((gv_up_n (Ne.symm hca)).trans ((gv_up_n ne5).trans h_c))) (by first | assumption | omega) (by first | assumption | omega) hca) gv_up_s rfl rfl (by simp [Value.category]) ⟨by decide, by decide⟩ ⟨(by decide), (by decide)⟩ dX1_makeExtension_18 ?_
        refine k_view (V1 := gv_up (gv_up (gv_up V av (.inl (cI, 30, .inl vl1))) oc (.inl (cI, 486, .inl (wrk f1 n1 (prj (nI 63) (rwf f i)) 6)))) o (.inr (4, [.ref oc, .int (nI n1), .int tl1, .int omk]))) ((gv_uc ne4).trans (congrArg (fun W => gv_up W o (.inr (4, [.ref oc, .int (nI n1), .int tl1, .int omk]))) gv_uu)) ?_
        refine k_aload_n C dX1_makeExtension_21 rfl 4 rfl ?_
        refine k_aload_n C dX1_makeExtension_22 rfl 2 rfl ?_
        have ne7 : nq no av := gv_ne h_av h_no (by simp)
        have ne8 : nq no oc := gv_ne h_oc h_no (by simp)
        have ne9 : nq no o := gv_ne h_o h_no (by simp)
        refine k_get (ci := 2) (k := 7) C fl_1_191 ((gv_up_n ne9).trans ((gv_up_n ne8).trans ((gv_up_n ne7).trans h_no))) rfl dX1_makeExtension_23 ?_
        refine k_aload_n C dX1_makeExtension_26 rfl 1 rfl ?_
        have ne10 : nq mo av := gv_ne h_av h_mo (by simp)
        have ne11 : nq mo oc := gv_ne h_oc h_mo (by simp)
        have ne12 : nq mo o := gv_ne h_o h_mo (by simp)
        refine k_get (ci := 1) (k := 1) C fl_1_21 ((gv_up_n ne12).trans ((gv_up_n ne11).trans ((gv_up_n ne10).trans h_mo))) rfl dX1_makeExtension_27 ?_
        refine k_aload_n C dX1_makeExtension_30 rfl 2 rfl ?_
        refine k_get (ci := 2) (k := 6) C fl_1_213 ((gv_up_n ne9).trans ((gv_up_n ne8).trans ((gv_up_n ne7).trans h_no))) rfl dX1_makeExtension_31 ?_
        refine k_aload_n C dX1_makeExtension_34 rfl 3 rfl ?_
        refine k_iload C dX1_makeExtension_35 0 rfl ?_
        have ne13 : nq xe av := gv_ne h_av h_xe (by simp)
        have ne14 : nq xe oc := gv_ne h_oc h_xe (by simp)
        have ne15 : nq xe o := gv_ne h_o h_xe (by simp)
        have ne16 : nq ak oc := gv_ne h_oc h_ak (by simp)
        have ne17 : nq ak o := gv_ne h_o h_ak (by simp)
        have ne18 : nq af oc := gv_ne h_oc h_af (by simp)
        have ne19 : nq af o := gv_ne h_o h_af (by simp)
        have ne20 : nq as oc := gv_ne h_oc h_as (by simp)
        have ne21 : nq as o := gv_ne h_o h_as (by simp)
        have ne22 : nq ap oc := gv_ne h_oc h_ap (by simp)
        have ne23 : nq ap o := gv_ne h_o h_ap (by simp)
        have ne24 : nq av oc := gv_ne h_oc h_av (by simp)
        have ne25 : nq av o := gv_ne h_o h_av (by simp)
        refine k_callV C mv_1_216 (c_X0_valueOf  ((gv_up_n ne15).trans ((gv_up_n ne14).trans ((gv_up_n ne13).trans h_xe))) ((gv_up_n ne17).trans ((gv_up_n ne16).trans ((gv_up_n (Ne.symm (ndp hd 4 0 rfl rfl (by decide)))).trans h_ak))) ((gv_up_n ne19).trans ((gv_up_n ne18).trans ((gv_up_n (Ne.symm (ndp hd 4 1 rfl rfl (by decide)))).trans h_af))) ((gv_up_n ne21).trans ((gv_up_n ne20).trans ((gv_up_n (Ne.symm (ndp hd 4 2 rfl rfl (by decide)))).trans h_as))) ((gv_up_n ne23).trans ((gv_up_n ne22).trans ((gv_up_n (Ne.symm (ndp hd 4 3 rfl rfl (by decide)))).trans h_ap))) ((gv_up_n ne25).trans ((gv_up_n ne24).trans gv_up_s)) ((gv_up_n (Ne.symm hoa)).trans ((gv_up_n ne3).trans ((gv_up_n ne2).trans h_a))) ((gv_up_n ne6).trans ((gv_up_n (Ne.symm hca)).trans ((gv_up_n ne5).trans h_c))) (by first | assumption | omega) (by first | assumption | omega) (by first | assumption | omega) (by first | assumption | omega)) ((gv_up_n ne15).trans ((gv_up_n ne14).trans ((gv_up_n ne13).trans h_xe))) rfl rfl (by simp [Value.category]) ⟨by decide, by decide⟩ ⟨(by decide), (by decide)⟩ dX1_makeExtension_37 (fun zv zV zh => ?_)
        obtain ⟨vl1_w26, rfl, rfl⟩ := zh
        refine k_pc (pc' := 40) (st' := .int (ev E (rwf f i) e) :: [.int (nI vv), .ref o]) rfl rfl ?_
        refine k_view (V1 := gv_up (gv_up (gv_up V av (.inl (cI, 30, .inl vl1_w26))) oc (.inl (cI, 486, .inl (wrk f1 n1 (prj (nI 63) (rwf f i)) 6)))) o (.inr (4, [.ref oc, .int (nI n1), .int tl1, .int omk]))) ((gv_uc ne25).trans (congrArg (fun W => gv_up W o (.inr (4, [.ref oc, .int (nI n1), .int tl1, .int omk]))) ((gv_uc ne24).trans (congrArg (fun W => gv_up W oc (.inl (cI, 486, .inl (wrk f1 n1 (prj (nI 63) (rwf f i)) 6)))) gv_uu)))) ?_
        refine k_callV_pi C mv_1_182 (c_X4_draftTakes  gv_up_s ((gv_up_n ne4).trans gv_up_s) (by first | assumption | omega) (by first | assumption | omega)) gv_up_s rfl rfl (by simp [Value.category]) ⟨by decide, by decide⟩ ⟨(by decide), (by decide)⟩ dX1_makeExtension_40 ?_
        refine k_view (V1 := gv_up (gv_up (gv_up V av (.inl (cI, 30, .inl vl1_w26))) oc (.inl (cI, 486, .inl (tk (wrk f1 n1 (prj (nI 63) (rwf f i)) 6) (n1 * 6 + vv) (ev E (rwf f i) e))))) o (.inr (4, [.ref oc, .int (nI n1), .int tl1, .int omk]))) ((gv_uc ne4).trans (congrArg (fun W => gv_up W o (.inr (4, [.ref oc, .int (nI n1), .int tl1, .int omk]))) gv_uu)) ?_
        refine k_pop C dX1_makeExtension_43 rfl ?_
        refine k_aload_n C dX1_makeExtension_44 rfl 4 rfl ?_
        refine k_callV_pv C mv_1_179 (c_X4_keepDraft  gv_up_s ((gv_up_n ne4).trans gv_up_s) (by first | assumption | omega)) gv_up_s rfl rfl (by simp [Value.category]) ⟨by decide, by decide⟩ ⟨(by decide), (by decide)⟩ dX1_makeExtension_45 ?_
        refine k_view (V1 := gv_up (gv_up (gv_up V av (.inl (cI, 30, .inl vl1_w26))) oc (.inl (cI, 486, .inl (tk (wrk f1 n1 (prj (nI 63) (rwf f i)) 6) (n1 * 6 + vv) (ev E (rwf f i) e))))) o (.inr (4, [.ref oc, .int (nI (if n1 = 80 then 80 else n1 + 1)), .int (if n1 = 80 then 1 else tl1), .int omk]))) gv_uu ?_
        refine k_iinc (v := nI (i + 1)) (lv' := [(4, .int (nI (i + 1))), (0, .ref mo), (1, .ref no), (2, .ref a), (3, .ref o)]) C dX1_makeExtension_48 (k := 0) rfl (nI_add i 1) (by decide) rfl ?_
        refine k_goto (tgt := 3) C dX1_makeExtension_51 (by decide) ?_
        exact ih3 (i + 1) (if n1 = 80 then 80 else n1 + 1) (if n1 = 80 then 1 else tl1) (tk (wrk f1 n1 (prj (nI 63) (rwf f i)) 6) (n1 * 6 + vv) (ev E (rwf f i) e)) vl1_w26 (by omega)  (by omega) (by rw [map_s (by omega)]; exact hr1.addx (fun w hw => by rw [extR_tk hw hvv, ev_c hX (hA.at (show i < n by omega)) (e + 1) e (by omega) he]; exact extR_c (eq6_prj (hA.at (by omega))) w hw) (fun j hj => by rw [tk_lo (by omega)]; exact wrk_lo hj))
  refine k_view (V1 := gv_up V av (.inl (cI, 30, .inl vl))) (gv_id h_av).symm ?_
  have ne27 : nq oc av := gv_ne h_av h_oc (by simp)
  refine k_view (V1 := gv_up (gv_up V av (.inl (cI, 30, .inl vl))) oc (.inl (cI, 486, .inl of))) (gv_id ((gv_up_n ne27).trans h_oc)).symm ?_
  have ne28 : nq o av := gv_ne h_av h_o (by simp)
  have ne29 : nq o oc := gv_ne h_oc h_o (by simp)
  refine k_view (V1 := gv_up (gv_up (gv_up V av (.inl (cI, 30, .inl vl))) oc (.inl (cI, 486, .inl of))) o (.inr (4, [.ref oc, .int (nI 0), .int (nI 0), .int omk]))) (gv_id ((gv_up_n ne29).trans ((gv_up_n ne28).trans h_o))).symm ?_
  exact L3 _ 0 0 (nI 0) of vl (Nat.lt_succ_self _)  (by omega) Rep.nil
set_option maxHeartbeats 4000000 in
set_option maxRecDepth 100000 in
theorem c_X1_makeProjection {zl : Launch} {D : va_G} {cI cN cR : ClassId} {base : Nat} {V : gv_V} {no : Nat} {kind na nb ps pp po ex va st fr ln dn ag gr : Int32} {a c n : Nat} {tl mk : Int32} {f : Nat → Int32} {o oc : Nat} {omk : Int32} {of : Nat → Int32} {A : List Row}  (h_no : V no = some (.inr (2, [.int kind, .int na, .int nb, .int ps, .int pp, .int po, .int ex, .int va, .int st, .int fr, .int ln, .int dn, .int ag, .int gr]))) (h_a : V a = some (.inr (4, [.ref c, .int (nI n), .int tl, .int mk]))) (h_c : V c = some (.inl (cI, 486, .inl f))) (h_o : V o = some (.inr (4, [.ref oc, .int (nI 0), .int (nI 0), .int omk]))) (h_oc : V oc = some (.inl (cI, 486, .inl of))) (hA : Tab A n f) (hoa : nq o a) (hca : nq oc c) : ct zl D [(cI, .int), (cN, .object "AlgebraTree$Node"), (cR, .object "AlgebraTree$Rows")] base yX1_makeProjection cX1_makeProjection 4 none 2 0 0 [.ref no, .ref a, .ref o] V (fun zv zV => ∃ n1 : Nat, ∃ tl1 : Int32, ∃ f1 : Nat → Int32, zv = none ∧ zV = gv_up (gv_up V oc (.inl (cI, 486, .inl f1))) o (.inr (4, [.ref oc, .int (nI n1), .int tl1, .int omk])) ∧ (Rep (A.map (prj st)) n1 tl1 f1)) := by
  refine ct_of "AlgebraTree$Maker" rfl (by decide) (Nat.le_of_ble_eq_true rfl) ?_
  intro zp ze zs zm zargs zbelow zmeth zc C zr zlk znm
  refine k_pc (pc' := 0) (st' := []) rfl rfl ?_
  show K zp zl ze (gv_rm 2 0 0) zs zm zargs zbelow zmeth zc D base 4 (gv_E D [(cI, .int), (cN, .object "AlgebraTree$Node"), (cR, .object "AlgebraTree$Rows")] base zbelow zargs zs 0 0 (fun zv zV => ∃ n1 : Nat, ∃ tl1 : Int32, ∃ f1 : Nat → Int32, zv = none ∧ zV = gv_up (gv_up V oc (.inl (cI, 486, .inl f1))) o (.inr (4, [.ref oc, .int (nI n1), .int tl1, .int omk])) ∧ (Rep (A.map (prj st)) n1 tl1 f1))) V 0 0 [(0, .ref no), (1, .ref a), (2, .ref o)] 0 []
  have hA1 := hA.1
  have hA2 := hA.2.1
  refine k_iconst (v := nI 0) C dX1_makeProjection_0 rfl ?_
  refine k_istore_n (lv' := [(3, .int (nI 0)), (0, .ref no), (1, .ref a), (2, .ref o)]) C dX1_makeProjection_1 rfl (by decide) rfl ?_
  have L2 : ∀ (zn1 : Nat) (i : Nat) (n1 : Nat) (tl1 : Int32) (f1 : Nat → Int32), n - i < zn1 → (i ≤ n) → (Rep ((A.take i).map (prj st)) n1 tl1 f1) → K zp zl ze (gv_rm 2 0 0) zs zm zargs zbelow zmeth zc D base 4 (gv_E D [(cI, .int), (cN, .object "AlgebraTree$Node"), (cR, .object "AlgebraTree$Rows")] base zbelow zargs zs 0 0 (fun zv zV => ∃ n1 : Nat, ∃ tl1 : Int32, ∃ f1 : Nat → Int32, zv = none ∧ zV = gv_up (gv_up V oc (.inl (cI, 486, .inl f1))) o (.inr (4, [.ref oc, .int (nI n1), .int tl1, .int omk])) ∧ (Rep (A.map (prj st)) n1 tl1 f1))) (gv_up (gv_up V oc (.inl (cI, 486, .inl f1))) o (.inr (4, [.ref oc, .int (nI n1), .int tl1, .int omk]))) 0 0 [(3, .int (nI i)), (0, .ref no), (1, .ref a), (2, .ref o)] 2 [] := by
    intro zn1
    induction zn1 with
    | zero => intro i n1 tl1 f1 hlt; exact absurd hlt (Nat.not_lt_zero _)
    | succ zn1 ih2 =>
      intro i n1 tl1 f1 hlt2  hi hr1
      have hn1 := hr1.le
      refine k_iload_n C dX1_makeProjection_2 rfl 0 rfl ?_
      refine k_aload_n C dX1_makeProjection_3 rfl 2 rfl ?_
      have ne2 : nq a oc := gv_ne h_oc h_a (by simp)
      refine k_get (ci := 4) (k := 1) C fl_1_186 ((gv_up_n (Ne.symm hoa)).trans ((gv_up_n ne2).trans h_a)) rfl dX1_makeProjection_4 ?_
      refine k_icmp_ge (tgt := 30) C dX1_makeProjection_7 (by decide) (fun c7 => ?_) (fun c7 => ?_)
      · skip
        have b7 : n ≤ i := (nI_leI (a := n) (b := i) (by omega) (by omega)).mp c7
        exact k_vret C zr zlk ⟨n1, tl1, f1, rfl, rfl, by rw [take_all (M := A) hA1 (show n ≤ i by omega)] at hr1; exact hr1⟩ (Nat.le_refl _) (Nat.le_refl _) dX1_makeProjection_30
      · skip
        have b7 : ¬ n ≤ i := fun z => c7 ((nI_leI (a := n) (b := i) (by omega) (by omega)).mpr z)
        refine k_aload_n C dX1_makeProjection_10 rfl 3 rfl ?_
        refine k_aload_n C dX1_makeProjection_11 rfl 2 rfl ?_
        refine k_iload_n C dX1_makeProjection_12 rfl 0 rfl ?_
        refine k_aload_n C dX1_makeProjection_13 rfl 1 rfl ?_
        have ne3 : nq no oc := gv_ne h_oc h_no (by simp)
        have ne4 : nq no o := gv_ne h_o h_no (by simp)
        refine k_get (ci := 2) (k := 8) C fl_1_135 ((gv_up_n ne4).trans ((gv_up_n ne3).trans h_no)) rfl dX1_makeProjection_14 ?_
        have ne5 : nq oc o := gv_ne h_o h_oc (by simp)
        have ne6 : nq c o := gv_ne h_o h_c (by simp)
        refine k_callV_pv C mv_1_187 (c_X4_draftOf  gv_up_s ((gv_up_n ne5).trans gv_up_s) ((gv_up_n (Ne.symm hoa)).trans ((gv_up_n ne2).trans h_a)) ((gv_up_n ne6).trans ((gv_up_n (Ne.symm hca)).trans h_c)) (by first | assumption | omega) (by first | assumption | omega) hca) gv_up_s rfl rfl (by simp [Value.category]) ⟨by decide, by decide⟩ ⟨(by decide), (by decide)⟩ dX1_makeProjection_17 ?_
        refine k_view (V1 := gv_up (gv_up V oc (.inl (cI, 486, .inl (wrk f1 n1 (prj st (rwf f i)) 6)))) o (.inr (4, [.ref oc, .int (nI n1), .int tl1, .int omk]))) ((gv_uc ne5).trans (congrArg (fun W => gv_up W o (.inr (4, [.ref oc, .int (nI n1), .int tl1, .int omk]))) gv_uu)) ?_
        refine k_aload_n C dX1_makeProjection_20 rfl 3 rfl ?_
        refine k_callV_pv C mv_1_179 (c_X4_keepDraft  gv_up_s ((gv_up_n ne5).trans gv_up_s) (by first | assumption | omega)) gv_up_s rfl rfl (by simp [Value.category]) ⟨by decide, by decide⟩ ⟨(by decide), (by decide)⟩ dX1_makeProjection_21 ?_
        refine k_view (V1 := gv_up (gv_up V oc (.inl (cI, 486, .inl (wrk f1 n1 (prj st (rwf f i)) 6)))) o (.inr (4, [.ref oc, .int (nI (if n1 = 80 then 80 else n1 + 1)), .int (if n1 = 80 then 1 else tl1), .int omk]))) gv_uu ?_
        refine k_iinc (v := nI (i + 1)) (lv' := [(3, .int (nI (i + 1))), (0, .ref no), (1, .ref a), (2, .ref o)]) C dX1_makeProjection_24 (k := 0) rfl (nI_add i 1) (by decide) rfl ?_
        refine k_goto (tgt := 2) C dX1_makeProjection_27 (by decide) ?_
        exact ih2 (i + 1) (if n1 = 80 then 80 else n1 + 1) (if n1 = 80 then 1 else tl1) (wrk f1 n1 (prj st (rwf f i)) 6) (by omega)  (by omega) (by rw [map_s (by omega)]; exact hr1.add (prj_c (hA.at (by omega))))
  refine k_view (V1 := gv_up V oc (.inl (cI, 486, .inl of))) (gv_id h_oc).symm ?_
  have ne7 : nq o oc := gv_ne h_oc h_o (by simp)
  refine k_view (V1 := gv_up (gv_up V oc (.inl (cI, 486, .inl of))) o (.inr (4, [.ref oc, .int (nI 0), .int (nI 0), .int omk]))) (gv_id ((gv_up_n ne7).trans h_o)).symm ?_
  exact L2 _ 0 0 (nI 0) of (Nat.lt_succ_self _)  (by omega) Rep.nil
set_option maxHeartbeats 4000000 in
set_option maxRecDepth 100000 in
theorem c_X1_makeDistinct {zl : Launch} {D : va_G} {cI cN cR : ClassId} {base : Nat} {V : gv_V} {a c n : Nat} {tl mk : Int32} {f : Nat → Int32} {o oc : Nat} {omk : Int32} {of : Nat → Int32} {A : List Row} {x : Int32}  (h_a : V a = some (.inr (4, [.ref c, .int (nI n), .int tl, .int mk]))) (h_c : V c = some (.inl (cI, 486, .inl f))) (h_o : V o = some (.inr (4, [.ref oc, .int (nI 0), .int (nI 0), .int omk]))) (h_oc : V oc = some (.inl (cI, 486, .inl of))) (hA : Tab A n f) (hoa : nq o a) (hca : nq oc c) : ct zl D [(cI, .int), (cN, .object "AlgebraTree$Node"), (cR, .object "AlgebraTree$Rows")] base yX1_makeDistinct cX1_makeDistinct 4 none 3 0 0 [.ref a, .int x, .ref o] V (fun zv zV => ∃ n1 : Nat, ∃ tl1 : Int32, ∃ f1 : Nat → Int32, zv = none ∧ zV = gv_up (gv_up V oc (.inl (cI, 486, .inl f1))) o (.inr (4, [.ref oc, .int (nI n1), .int tl1, .int omk])) ∧ (Rep (distL x A) n1 tl1 f1)) := by
  refine ct_of "AlgebraTree$Maker" rfl (by decide) (Nat.le_of_ble_eq_true rfl) ?_
  intro zp ze zs zm zargs zbelow zmeth zc C zr zlk znm
  refine k_pc (pc' := 0) (st' := []) rfl rfl ?_
  show K zp zl ze (gv_rm 3 0 0) zs zm zargs zbelow zmeth zc D base 4 (gv_E D [(cI, .int), (cN, .object "AlgebraTree$Node"), (cR, .object "AlgebraTree$Rows")] base zbelow zargs zs 0 0 (fun zv zV => ∃ n1 : Nat, ∃ tl1 : Int32, ∃ f1 : Nat → Int32, zv = none ∧ zV = gv_up (gv_up V oc (.inl (cI, 486, .inl f1))) o (.inr (4, [.ref oc, .int (nI n1), .int tl1, .int omk])) ∧ (Rep (distL x A) n1 tl1 f1))) V 0 0 [(0, .ref a), (1, .int x), (2, .ref o)] 0 []
  have hA1 := hA.1
  have hA2 := hA.2.1
  refine k_iconst (v := nI 0) C dX1_makeDistinct_0 rfl ?_
  refine k_istore_n (lv' := [(3, .int (nI 0)), (0, .ref a), (1, .int x), (2, .ref o)]) C dX1_makeDistinct_1 rfl (by decide) rfl ?_
  have L2 : ∀ (zn1 : Nat) (i : Nat) (n1 : Nat) (tl1 : Int32) (f1 : Nat → Int32), n - i < zn1 → (i ≤ n) → (Rep (distL x (A.take i)) n1 tl1 f1) → K zp zl ze (gv_rm 3 0 0) zs zm zargs zbelow zmeth zc D base 4 (gv_E D [(cI, .int), (cN, .object "AlgebraTree$Node"), (cR, .object "AlgebraTree$Rows")] base zbelow zargs zs 0 0 (fun zv zV => ∃ n1 : Nat, ∃ tl1 : Int32, ∃ f1 : Nat → Int32, zv = none ∧ zV = gv_up (gv_up V oc (.inl (cI, 486, .inl f1))) o (.inr (4, [.ref oc, .int (nI n1), .int tl1, .int omk])) ∧ (Rep (distL x A) n1 tl1 f1))) (gv_up (gv_up V oc (.inl (cI, 486, .inl f1))) o (.inr (4, [.ref oc, .int (nI n1), .int tl1, .int omk]))) 0 0 [(3, .int (nI i)), (0, .ref a), (1, .int x), (2, .ref o)] 2 [] := by
    intro zn1
    induction zn1 with
    | zero => intro i n1 tl1 f1 hlt; exact absurd hlt (Nat.not_lt_zero _)
    | succ zn1 ih2 =>
      intro i n1 tl1 f1 hlt2  hi hr1
      have hn1 := hr1.le
      refine k_iload_n C dX1_makeDistinct_2 rfl 0 rfl ?_
      refine k_aload_n C dX1_makeDistinct_3 rfl 1 rfl ?_
      have ne2 : nq a oc := gv_ne h_oc h_a (by simp)
      refine k_get (ci := 4) (k := 1) C fl_1_186 ((gv_up_n (Ne.symm hoa)).trans ((gv_up_n ne2).trans h_a)) rfl dX1_makeDistinct_4 ?_
      refine k_icmp_ge (tgt := 37) C dX1_makeDistinct_7 (by decide) (fun c7 => ?_) (fun c7 => ?_)
      · skip
        have b7 : n ≤ i := (nI_leI (a := n) (b := i) (by omega) (by omega)).mp c7
        exact k_vret C zr zlk ⟨n1, tl1, f1, rfl, rfl, by rw [take_all (M := A) hA1 (show n ≤ i by omega)] at hr1; exact hr1⟩ (Nat.le_refl _) (Nat.le_refl _) dX1_makeDistinct_37
      · skip
        have b7 : ¬ n ≤ i := fun z => c7 ((nI_leI (a := n) (b := i) (by omega) (by omega)).mpr z)
        refine k_aload_n C dX1_makeDistinct_10 rfl 3 rfl ?_
        refine k_aload_n C dX1_makeDistinct_11 rfl 1 rfl ?_
        refine k_iload_n C dX1_makeDistinct_12 rfl 0 rfl ?_
        refine k_iload_n C dX1_makeDistinct_13 rfl 2 rfl ?_
        have ne3 : nq oc o := gv_ne h_o h_oc (by simp)
        have ne4 : nq c o := gv_ne h_o h_c (by simp)
        refine k_callV_pi C mv_1_224 (c_X4_hasLike  gv_up_s ((gv_up_n ne3).trans gv_up_s) ((gv_up_n (Ne.symm hoa)).trans ((gv_up_n ne2).trans h_a)) ((gv_up_n ne4).trans ((gv_up_n (Ne.symm hca)).trans h_c)) (by first | assumption | omega) (by first | assumption | omega)) gv_up_s rfl rfl (by simp [Value.category]) ⟨by decide, by decide⟩ ⟨(by decide), (by decide)⟩ dX1_makeDistinct_14 ?_
        refine k_if_ne (tgt := 31) C dX1_makeDistinct_17 (by decide) (fun c17 => ?_) (fun c17 => ?_)
        · skip
          have b17 : (hasL x f1 n1 (rwf f i)) = true := bI_n.mp c17
          refine k_iinc (v := nI (i + 1)) (lv' := [(3, .int (nI (i + 1))), (0, .ref a), (1, .int x), (2, .ref o)]) C dX1_makeDistinct_31 (k := 0) rfl (nI_add i 1) (by decide) rfl ?_
          refine k_goto (tgt := 2) C dX1_makeDistinct_34 (by decide) ?_
          exact ih2 (i + 1) n1 tl1 f1 (by omega)  (by omega) (by rw [dist_s (by omega)]; unfold dstS; rw [if_pos (by rw [← (hasL_any (M := distL x (A.take i)) (by have := hr1.1; have := dist_len (set := x) (A := A.take i); simp only [List.length_take] at this; omega) (fun z hz => hr1.2.2 z hz) (hA.at (by omega))), b17])]; exact hr1)
        · skip
          have b17 : (hasL x f1 n1 (rwf f i)) = false := bI_0.mp c17
          refine k_aload_n C dX1_makeDistinct_20 rfl 3 rfl ?_
          refine k_aload_n C dX1_makeDistinct_21 rfl 1 rfl ?_
          refine k_iload_n C dX1_makeDistinct_22 rfl 0 rfl ?_
          refine k_iload_n C dX1_makeDistinct_23 rfl 2 rfl ?_
          refine k_callV_pv C mv_1_187 (c_X4_draftOf  gv_up_s ((gv_up_n ne3).trans gv_up_s) ((gv_up_n (Ne.symm hoa)).trans ((gv_up_n ne2).trans h_a)) ((gv_up_n ne4).trans ((gv_up_n (Ne.symm hca)).trans h_c)) (by first | assumption | omega) (by first | assumption | omega) hca) gv_up_s rfl rfl (by simp [Value.category]) ⟨by decide, by decide⟩ ⟨(by decide), (by decide)⟩ dX1_makeDistinct_24 ?_
          refine k_view (V1 := gv_up (gv_up V oc (.inl (cI, 486, .inl (wrk f1 n1 (prj x (rwf f i)) 6)))) o (.inr (4, [.ref oc, .int (nI n1), .int tl1, .int omk]))) ((gv_uc ne3).trans (congrArg (fun W => gv_up W o (.inr (4, [.ref oc, .int (nI n1), .int tl1, .int omk]))) gv_uu)) ?_
          refine k_aload_n C dX1_makeDistinct_27 rfl 3 rfl ?_
          refine k_callV_pv C mv_1_179 (c_X4_keepDraft  gv_up_s ((gv_up_n ne3).trans gv_up_s) (by first | assumption | omega)) gv_up_s rfl rfl (by simp [Value.category]) ⟨by decide, by decide⟩ ⟨(by decide), (by decide)⟩ dX1_makeDistinct_28 ?_
          refine k_view (V1 := gv_up (gv_up V oc (.inl (cI, 486, .inl (wrk f1 n1 (prj x (rwf f i)) 6)))) o (.inr (4, [.ref oc, .int (nI (if n1 = 80 then 80 else n1 + 1)), .int (if n1 = 80 then 1 else tl1), .int omk]))) gv_uu ?_
          refine k_iinc (v := nI (i + 1)) (lv' := [(3, .int (nI (i + 1))), (0, .ref a), (1, .int x), (2, .ref o)]) C dX1_makeDistinct_31 (k := 0) rfl (nI_add i 1) (by decide) rfl ?_
          refine k_goto (tgt := 2) C dX1_makeDistinct_34 (by decide) ?_
          exact ih2 (i + 1) (if n1 = 80 then 80 else n1 + 1) (if n1 = 80 then 1 else tl1) (wrk f1 n1 (prj x (rwf f i)) 6) (by omega)  (by omega) (by rw [dist_s (by omega)]; unfold dstS; rw [if_neg (by rw [← (hasL_any (M := distL x (A.take i)) (by have := hr1.1; have := dist_len (set := x) (A := A.take i); simp only [List.length_take] at this; omega) (fun z hz => hr1.2.2 z hz) (hA.at (by omega))), b17]; decide)]; exact hr1.add (prj_c (hA.at (by omega))))
  refine k_view (V1 := gv_up V oc (.inl (cI, 486, .inl of))) (gv_id h_oc).symm ?_
  have ne5 : nq o oc := gv_ne h_oc h_o (by simp)
  refine k_view (V1 := gv_up (gv_up V oc (.inl (cI, 486, .inl of))) o (.inr (4, [.ref oc, .int (nI 0), .int (nI 0), .int omk]))) (gv_id ((gv_up_n ne5).trans h_o)).symm ?_
  exact L2 _ 0 0 (nI 0) of (Nat.lt_succ_self _)  (by omega) Rep.nil
set_option maxHeartbeats 4000000 in
set_option maxRecDepth 100000 in
theorem c_X1_makeSlice {zl : Launch} {D : va_G} {cI cN cR : ClassId} {base : Nat} {V : gv_V} {no : Nat} {kind na nb ps pp po ex va st dn ag gr : Int32} {u0 u1 : Nat} {a c n : Nat} {tl mk : Int32} {f : Nat → Int32} {o oc : Nat} {omk : Int32} {of : Nat → Int32} {A : List Row}  (h_no : V no = some (.inr (2, [.int kind, .int na, .int nb, .int ps, .int pp, .int po, .int ex, .int va, .int st, .int (nI u0), .int (nI u1), .int dn, .int ag, .int gr]))) (h_a : V a = some (.inr (4, [.ref c, .int (nI n), .int tl, .int mk]))) (h_c : V c = some (.inl (cI, 486, .inl f))) (h_o : V o = some (.inr (4, [.ref oc, .int (nI 0), .int (nI 0), .int omk]))) (h_oc : V oc = some (.inl (cI, 486, .inl of))) (hA : Tab A n f) (hoa : nq o a) (hca : nq oc c) (hu0 : u0 ≤ 1000) (hu1 : u1 ≤ 1000) : ct zl D [(cI, .int), (cN, .object "AlgebraTree$Node"), (cR, .object "AlgebraTree$Rows")] base yX1_makeSlice cX1_makeSlice 4 none 3 0 0 [.ref no, .ref a, .ref o] V (fun zv zV => ∃ n1 : Nat, ∃ tl1 : Int32, ∃ f1 : Nat → Int32, zv = none ∧ zV = gv_up (gv_up V oc (.inl (cI, 486, .inl f1))) o (.inr (4, [.ref oc, .int (nI n1), .int tl1, .int omk])) ∧ (Rep ((A.drop u0).take u1) n1 tl1 f1)) := by
  refine ct_of "AlgebraTree$Maker" rfl (by decide) (Nat.le_of_ble_eq_true rfl) ?_
  intro zp ze zs zm zargs zbelow zmeth zc C zr zlk znm
  refine k_pc (pc' := 0) (st' := []) rfl rfl ?_
  show K zp zl ze (gv_rm 3 0 0) zs zm zargs zbelow zmeth zc D base 4 (gv_E D [(cI, .int), (cN, .object "AlgebraTree$Node"), (cR, .object "AlgebraTree$Rows")] base zbelow zargs zs 0 0 (fun zv zV => ∃ n1 : Nat, ∃ tl1 : Int32, ∃ f1 : Nat → Int32, zv = none ∧ zV = gv_up (gv_up V oc (.inl (cI, 486, .inl f1))) o (.inr (4, [.ref oc, .int (nI n1), .int tl1, .int omk])) ∧ (Rep ((A.drop u0).take u1) n1 tl1 f1))) V 0 0 [(0, .ref no), (1, .ref a), (2, .ref o)] 0 []
  have hA1 := hA.1
  have hA2 := hA.2.1
  refine k_aload_n C dX1_makeSlice_0 rfl 0 rfl ?_
  refine k_get (ci := 2) (k := 9) C fl_1_228 h_no rfl dX1_makeSlice_1 ?_
  refine k_istore_n (lv' := [(3, .int (nI u0)), (0, .ref no), (1, .ref a), (2, .ref o)]) C dX1_makeSlice_4 rfl (by decide) rfl ?_
  have L5 : ∀ (zn1 : Nat) (i : Nat) (n1 : Nat) (tl1 : Int32) (f1 : Nat → Int32), u0 + u1 + 1 - i < zn1 → (u0 ≤ i ∧ i ≤ u0 + u1 ∧ (i ≤ n ∨ i = u0)) → (Rep ((A.drop u0).take (i - u0)) n1 tl1 f1) → K zp zl ze (gv_rm 3 0 0) zs zm zargs zbelow zmeth zc D base 4 (gv_E D [(cI, .int), (cN, .object "AlgebraTree$Node"), (cR, .object "AlgebraTree$Rows")] base zbelow zargs zs 0 0 (fun zv zV => ∃ n1 : Nat, ∃ tl1 : Int32, ∃ f1 : Nat → Int32, zv = none ∧ zV = gv_up (gv_up V oc (.inl (cI, 486, .inl f1))) o (.inr (4, [.ref oc, .int (nI n1), .int tl1, .int omk])) ∧ (Rep ((A.drop u0).take u1) n1 tl1 f1))) (gv_up (gv_up V oc (.inl (cI, 486, .inl f1))) o (.inr (4, [.ref oc, .int (nI n1), .int tl1, .int omk]))) 0 0 [(3, .int (nI i)), (0, .ref no), (1, .ref a), (2, .ref o)] 5 [] := by
    intro zn1
    induction zn1 with
    | zero => intro i n1 tl1 f1 hlt; exact absurd hlt (Nat.not_lt_zero _)
    | succ zn1 ih5 =>
      intro i n1 tl1 f1 hlt5  hi hr1
      have hn1 := hr1.le
      refine k_iload_n C dX1_makeSlice_5 rfl 0 rfl ?_
      refine k_aload_n C dX1_makeSlice_6 rfl 2 rfl ?_
      have ne2 : nq a oc := gv_ne h_oc h_a (by simp)
      refine k_get (ci := 4) (k := 1) C fl_1_186 ((gv_up_n (Ne.symm hoa)).trans ((gv_up_n ne2).trans h_a)) rfl dX1_makeSlice_7 ?_
      refine k_icmp_ge (tgt := 38) C dX1_makeSlice_10 (by decide) (fun c10 => ?_) (fun c10 => ?_)
      · skip
        have b10 : n ≤ i := (nI_leI (a := n) (b := i) (by omega) (by omega)).mp c10
        exact k_vret C zr zlk ⟨n1, tl1, f1, rfl, rfl, by rw [slice_e (i := i) (by omega) (by omega)]; exact hr1⟩ (Nat.le_refl _) (Nat.le_refl _) dX1_makeSlice_38
      · skip
        have b10 : ¬ n ≤ i := fun z => c10 ((nI_leI (a := n) (b := i) (by omega) (by omega)).mpr z)
        refine k_iload_n C dX1_makeSlice_13 rfl 0 rfl ?_
        refine k_aload_n C dX1_makeSlice_14 rfl 1 rfl ?_
        have ne3 : nq no oc := gv_ne h_oc h_no (by simp)
        have ne4 : nq no o := gv_ne h_o h_no (by simp)
        refine k_get (ci := 2) (k := 9) C fl_1_228 ((gv_up_n ne4).trans ((gv_up_n ne3).trans h_no)) rfl dX1_makeSlice_15 ?_
        refine k_aload_n C dX1_makeSlice_18 rfl 1 rfl ?_
        refine k_get (ci := 2) (k := 10) C fl_1_231 ((gv_up_n ne4).trans ((gv_up_n ne3).trans h_no)) rfl dX1_makeSlice_19 ?_
        refine k_iadd C dX1_makeSlice_22 ?_
        refine k_val (y := nI (u0 + u1)) (nI_add u0 u1) ?_
        refine k_icmp_ge (tgt := 38) C dX1_makeSlice_23 (by decide) (fun c23 => ?_) (fun c23 => ?_)
        · skip
          have b23 : (u0 + u1) ≤ i := (nI_leI (a := u0 + u1) (b := i) (by omega) (by omega)).mp c23
          exact k_vret C zr zlk ⟨n1, tl1, f1, rfl, rfl, by rw [slice_e (i := i) (by omega) (by omega)]; exact hr1⟩ (Nat.le_refl _) (Nat.le_refl _) dX1_makeSlice_38
        · skip
          have b23 : ¬ (u0 + u1) ≤ i := fun z => c23 ((nI_leI (a := u0 + u1) (b := i) (by omega) (by omega)).mpr z)
          refine k_aload_n C dX1_makeSlice_26 rfl 3 rfl ?_
          refine k_aload_n C dX1_makeSlice_27 rfl 2 rfl ?_
          refine k_iload_n C dX1_makeSlice_28 rfl 0 rfl ?_
          have ne5 : nq oc o := gv_ne h_o h_oc (by simp)
          have ne6 : nq c o := gv_ne h_o h_c (by simp)
          refine k_callV_pv C mv_1_206 (c_X4_addRow  gv_up_s ((gv_up_n ne5).trans gv_up_s) ((gv_up_n (Ne.symm hoa)).trans ((gv_up_n ne2).trans h_a)) ((gv_up_n ne6).trans ((gv_up_n (Ne.symm hca)).trans h_c)) (by first | assumption | omega) (by first | assumption | omega) hca) gv_up_s rfl rfl (by simp [Value.category]) ⟨by decide, by decide⟩ ⟨(by decide), (by decide)⟩ dX1_makeSlice_29 ?_
          refine k_view (V1 := gv_up (gv_up (gv_up V oc (.inl (cI, 486, .inl (wrk f1 n1 (prj (nI 63) (rwf f i)) 6)))) o (.inr (4, [.ref oc, .int (nI n1), .int tl1, .int omk]))) o (.inr (4, [.ref oc, .int (nI (if n1 = 80 then 80 else n1 + 1)), .int (if n1 = 80 then 1 else tl1), .int omk]))) (congrArg (fun W => gv_up W o (.inr (4, [.ref oc, .int (nI (if n1 = 80 then 80 else n1 + 1)), .int (if n1 = 80 then 1 else tl1), .int omk]))) ((gv_uc ne5).trans (congrArg (fun W => gv_up W o (.inr (4, [.ref oc, .int (nI n1), .int tl1, .int omk]))) gv_uu))) ?_
          refine k_view (V1 := gv_up (gv_up V oc (.inl (cI, 486, .inl (wrk f1 n1 (prj (nI 63) (rwf f i)) 6)))) o (.inr (4, [.ref oc, .int (nI (if n1 = 80 then 80 else n1 + 1)), .int (if n1 = 80 then 1 else tl1), .int omk]))) gv_uu ?_
          refine k_iinc (v := nI (i + 1)) (lv' := [(3, .int (nI (i + 1))), (0, .ref no), (1, .ref a), (2, .ref o)]) C dX1_makeSlice_32 (k := 0) rfl (nI_add i 1) (by decide) rfl ?_
          refine k_goto (tgt := 5) C dX1_makeSlice_35 (by decide) ?_
          exact ih5 (i + 1) (if n1 = 80 then 80 else n1 + 1) (if n1 = 80 then 1 else tl1) (wrk f1 n1 (prj (nI 63) (rwf f i)) 6) (by omega)  (by omega) (by rw [slice_s hi.1 (by omega)]; exact hr1.add (eq6_prj (hA.at (by omega))))
  refine k_view (V1 := gv_up V oc (.inl (cI, 486, .inl of))) (gv_id h_oc).symm ?_
  have ne7 : nq o oc := gv_ne h_oc h_o (by simp)
  refine k_view (V1 := gv_up (gv_up V oc (.inl (cI, 486, .inl of))) o (.inr (4, [.ref oc, .int (nI 0), .int (nI 0), .int omk]))) (gv_id ((gv_up_n ne7).trans h_o)).symm ?_
  exact L5 _ u0 0 (nI 0) of (Nat.lt_succ_self _)  (by omega) (by rw [Nat.sub_self]; exact Rep.nil)
