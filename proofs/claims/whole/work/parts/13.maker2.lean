set_option maxHeartbeats 4000000 in
set_option maxRecDepth 100000 in
theorem c_makeLeftN {zl : Launch} {D : va_G} {cI cN cR : ClassId} {base : Nat} {V : gv_V} {mo tr nd tb wg ky pl : Nat} {no : Nat} {kind na nb ps pp po va st fr ln dn ag gr : Int32} {xe : Nat} {a c n : Nat} {tl mk : Int32} {f : Nat → Int32} {b c2 n2 : Nat} {tl2 mk2 : Int32} {g : Nat → Int32} {o oc : Nat} {omk : Int32} {of : Nat → Int32} {A B : List Row}  (h_mo : V mo = some (.inr (1, [.ref tr, .ref xe, .ref nd, .ref tb, .ref wg, .ref ky, .ref pl]))) (h_no : V no = some (.inr (2, [.int kind, .int na, .int nb, .int ps, .int pp, .int po, .int (-1 : Int32), .int va, .int st, .int fr, .int ln, .int dn, .int ag, .int gr]))) (h_a : V a = some (.inr (4, [.ref c, .int (nI n), .int tl, .int mk]))) (h_c : V c = some (.inl (cI, 486, .inl f))) (h_b : V b = some (.inr (4, [.ref c2, .int (nI n2), .int tl2, .int mk2]))) (h_c2 : V c2 = some (.inl (cI, 486, .inl g))) (h_o : V o = some (.inr (4, [.ref oc, .int (nI 0), .int (nI 0), .int omk]))) (h_oc : V oc = some (.inl (cI, 486, .inl of))) (hA : Tab A n f) (hoa : nq o a) (hca : nq oc c) (hB : Tab B n2 g) (hob : nq o b) (hcb : nq oc c2) : ct zl D [(cI, .int), (cN, .object "AlgebraTree$Node"), (cR, .object "AlgebraTree$Rows")] base yX1_makeLeft cX1_makeLeft 8 none 3 0 0 [.ref mo, .ref no, .ref a, .ref b, .ref o] V (fun zv zV => ∃ n1 : Nat, ∃ tl1 : Int32, ∃ f1 : Nat → Int32, zv = none ∧ zV = gv_up (gv_up V oc (.inl (cI, 486, .inl f1))) o (.inr (4, [.ref oc, .int (nI n1), .int tl1, .int omk])) ∧ (Rep (leftL (fun _ => true) A B) n1 tl1 f1)) := by
  refine ct_of "AlgebraTree$Maker" rfl (by decide) (Nat.le_of_ble_eq_true rfl) ?_
  intro zp ze zs zm zargs zbelow zmeth zc C zr zlk znm
  refine k_pc (pc' := 0) (st' := []) rfl rfl ?_
  show K zp zl ze (gv_rm 3 0 0) zs zm zargs zbelow zmeth zc D base 8 (gv_E D [(cI, .int), (cN, .object "AlgebraTree$Node"), (cR, .object "AlgebraTree$Rows")] base zbelow zargs zs 0 0 (fun zv zV => ∃ n1 : Nat, ∃ tl1 : Int32, ∃ f1 : Nat → Int32, zv = none ∧ zV = gv_up (gv_up V oc (.inl (cI, 486, .inl f1))) o (.inr (4, [.ref oc, .int (nI n1), .int tl1, .int omk])) ∧ (Rep (leftL (fun _ => true) A B) n1 tl1 f1))) V 0 0 [(0, .ref mo), (1, .ref no), (2, .ref a), (3, .ref b), (4, .ref o)] 0 []
  have hA1 := hA.1
  have hA2 := hA.2.1
  have hB1 := hB.1
  have hB2 := hB.2.1
  refine k_iconst (v := nI 0) C dX1_makeLeft_0 rfl ?_
  refine k_istore (lv' := [(5, .int (nI 0)), (0, .ref mo), (1, .ref no), (2, .ref a), (3, .ref b), (4, .ref o)]) C dX1_makeLeft_1 (by decide) rfl ?_
  have L3 : ∀ (zn1 : Nat) (i : Nat) (n1 : Nat) (tl1 : Int32) (f1 : Nat → Int32), n - i < zn1 → (i ≤ n) → (Rep (leftL (fun _ => true) (A.take i) B) n1 tl1 f1) → K zp zl ze (gv_rm 3 0 0) zs zm zargs zbelow zmeth zc D base 8 (gv_E D [(cI, .int), (cN, .object "AlgebraTree$Node"), (cR, .object "AlgebraTree$Rows")] base zbelow zargs zs 0 0 (fun zv zV => ∃ n1 : Nat, ∃ tl1 : Int32, ∃ f1 : Nat → Int32, zv = none ∧ zV = gv_up (gv_up V oc (.inl (cI, 486, .inl f1))) o (.inr (4, [.ref oc, .int (nI n1), .int tl1, .int omk])) ∧ (Rep (leftL (fun _ => true) A B) n1 tl1 f1))) (gv_up (gv_up V oc (.inl (cI, 486, .inl f1))) o (.inr (4, [.ref oc, .int (nI n1), .int tl1, .int omk]))) 0 0 [(5, .int (nI i)), (0, .ref mo), (1, .ref no), (2, .ref a), (3, .ref b), (4, .ref o)] 3 [] := by
    intro zn1
    induction zn1 with
    | zero => intro i n1 tl1 f1 hlt; exact absurd hlt (Nat.not_lt_zero _)
    | succ zn1 ih3 =>
      intro i n1 tl1 f1 hlt3  hi hr1
      have hn1 := hr1.le
      refine k_iload C dX1_makeLeft_3 0 rfl ?_
      refine k_aload_n C dX1_makeLeft_5 rfl 3 rfl ?_
      have ne2 : nq a oc := gv_ne h_oc h_a (by simp)
      refine k_get (ci := 4) (k := 1) C fl_1_186 ((gv_up_n (Ne.symm hoa)).trans ((gv_up_n ne2).trans h_a)) rfl dX1_makeLeft_6 ?_
      refine k_icmp_ge (tgt := 134) C dX1_makeLeft_9 (by decide) (fun c9 => ?_) (fun c9 => ?_)
      · skip
        have b9 : n ≤ i := (nI_leI (a := n) (b := i) (by omega) (by omega)).mp c9
        exact k_vret C zr zlk (by first | exact ⟨n1, tl1, f1, rfl, rfl, by rw [take_all (M := A) hA1 (show n ≤ i by omega)] at hr1; exact hr1⟩ | (obtain ⟨X, hX9⟩ := pre_flat (A := A) (F := leftX (fun _ => true) B) i; exact ⟨n1, tl1, f1, rfl, rfl, by unfold leftL at hr1 ⊢; rw [hX9]; exact hr1.ext c17⟩)) (Nat.le_refl _) (Nat.le_refl _) dX1_makeLeft_134
      · skip
        have b9 : ¬ n ≤ i := fun z => c9 ((nI_leI (a := n) (b := i) (by omega) (by omega)).mpr z)
        refine k_aload C dX1_makeLeft_12 5 rfl ?_
        refine k_get (ci := 4) (k := 2) C fl_1_109 gv_up_s rfl dX1_makeLeft_14 ?_
        refine k_if_ne (tgt := 134) C dX1_makeLeft_17 (by decide) (fun c17 => ?_) (fun c17 => ?_)
        · skip
          exact k_vret C zr zlk (by first | exact ⟨n1, tl1, f1, rfl, rfl, by rw [take_all (M := A) hA1 (show n ≤ i by omega)] at hr1; exact hr1⟩ | (obtain ⟨X, hX9⟩ := pre_flat (A := A) (F := leftX (fun _ => true) B) i; exact ⟨n1, tl1, f1, rfl, rfl, by unfold leftL at hr1 ⊢; rw [hX9]; exact hr1.ext c17⟩)) (Nat.le_refl _) (Nat.le_refl _) dX1_makeLeft_134
        · skip
          refine k_iconst (v := nI 1) C dX1_makeLeft_20 rfl ?_
          refine k_istore (lv' := [(6, .int (nI 1)), (5, .int (nI i)), (0, .ref mo), (1, .ref no), (2, .ref a), (3, .ref b), (4, .ref o)]) C dX1_makeLeft_21 (by decide) rfl ?_
          refine k_iconst (v := nI 0) C dX1_makeLeft_23 rfl ?_
          refine k_istore (lv' := [(7, .int (nI 0)), (6, .int (nI 1)), (5, .int (nI i)), (0, .ref mo), (1, .ref no), (2, .ref a), (3, .ref b), (4, .ref o)]) C dX1_makeLeft_24 (by decide) rfl ?_
          have L26 : ∀ (zn3 : Nat) (j : Nat) (w : Int32) (n3 : Nat) (tl3 : Int32) (f3 : Nat → Int32), n2 - j < zn3 → (j ≤ n2) → (Rep (leftL (fun _ => true) (A.take i) B ++ left1 (fun _ => true) (rowAt A i) (B.take j)) n3 tl3 f3) → (w = bI (left1 (fun _ => true) (rowAt A i) (B.take j)).isEmpty) → K zp zl ze (gv_rm 3 0 0) zs zm zargs zbelow zmeth zc D base 8 (gv_E D [(cI, .int), (cN, .object "AlgebraTree$Node"), (cR, .object "AlgebraTree$Rows")] base zbelow zargs zs 0 0 (fun zv zV => ∃ n1 : Nat, ∃ tl1 : Int32, ∃ f1 : Nat → Int32, zv = none ∧ zV = gv_up (gv_up V oc (.inl (cI, 486, .inl f1))) o (.inr (4, [.ref oc, .int (nI n1), .int tl1, .int omk])) ∧ (Rep (leftL (fun _ => true) A B) n1 tl1 f1))) (gv_up (gv_up V oc (.inl (cI, 486, .inl f3))) o (.inr (4, [.ref oc, .int (nI n3), .int tl3, .int omk]))) 0 0 [(7, .int (nI j)), (6, .int w), (5, .int (nI i)), (0, .ref mo), (1, .ref no), (2, .ref a), (3, .ref b), (4, .ref o)] 26 [] := by
            intro zn3
            induction zn3 with
            | zero => intro j w n3 tl3 f3 hlt; exact absurd hlt (Nat.not_lt_zero _)
            | succ zn3 ih26 =>
              intro j w n3 tl3 f3 hlt26  hj hr2 hw
              have hn3 := hr2.le
              refine k_iload C dX1_makeLeft_26 0 rfl ?_
              refine k_aload_n C dX1_makeLeft_28 rfl 6 rfl ?_
              have ne4 : nq b oc := gv_ne h_oc h_b (by simp)
              refine k_get (ci := 4) (k := 1) C fl_1_186 ((gv_up_n (Ne.symm hob)).trans ((gv_up_n ne4).trans h_b)) rfl dX1_makeLeft_29 ?_
              refine k_icmp_ge (tgt := 115) C dX1_makeLeft_32 (by decide) (fun c32 => ?_) (fun c32 => ?_)
              · skip
                have b32 : n2 ≤ j := (nI_leI (a := n2) (b := j) (by omega) (by omega)).mp c32
                refine k_iload C dX1_makeLeft_115 1 rfl ?_
                refine k_if_eq (tgt := 128) C dX1_makeLeft_117 (by decide) (fun c117 => ?_) (fun c117 => ?_)
                · skip
                  refine k_iinc (v := nI (i + 1)) (lv' := [(5, .int (nI (i + 1))), (7, .int (nI j)), (6, .int w), (0, .ref mo), (1, .ref no), (2, .ref a), (3, .ref b), (4, .ref o)]) C dX1_makeLeft_128 (k := 2) rfl (nI_add i 1) (by decide) rfl ?_
                  refine k_goto (tgt := 3) C dX1_makeLeft_131 (by decide) ?_
                  refine k_sub [0, 3, 4, 5, 6, 7] (lv' := [(5, .int (nI (i + 1))), (0, .ref mo), (1, .ref no), (2, .ref a), (3, .ref b), (4, .ref o)]) rfl ?_
                  exact ih3 (i + 1) n3 tl3 f3 (by omega)  (by omega) (by rw [leftL_s (by omega)]; exact left_no hr2 hB1 (by first | exact Or.inl (by omega) | exact Or.inr c40) (by rw [hw] at c117; exact bI_0.mp c117))
                · skip
                  refine k_aload C dX1_makeLeft_120 7 rfl ?_
                  refine k_aload_n C dX1_makeLeft_122 rfl 5 rfl ?_
                  refine k_iload C dX1_makeLeft_123 2 rfl ?_
                  have ne5 : nq oc o := gv_ne h_o h_oc (by simp)
                  have ne6 : nq c o := gv_ne h_o h_c (by simp)
                  refine k_callV_pv C mv_1_206 (c_X4_addRow  gv_up_s ((gv_up_n ne5).trans gv_up_s) ((gv_up_n (Ne.symm hoa)).trans ((gv_up_n ne2).trans h_a)) ((gv_up_n ne6).trans ((gv_up_n (Ne.symm hca)).trans h_c)) (by first | assumption | omega) (by first | assumption | omega) hca) gv_up_s rfl rfl (by simp [Value.category]) ⟨by decide, by decide⟩ ⟨(by decide), (by decide)⟩ dX1_makeLeft_125 ?_
                  refine k_view (V1 := gv_up (gv_up (gv_up V oc (.inl (cI, 486, .inl (wrk f3 n3 (prj (nI 63) (rwf f i)) 6)))) o (.inr (4, [.ref oc, .int (nI n3), .int tl3, .int omk]))) o (.inr (4, [.ref oc, .int (nI (if n3 = 80 then 80 else n3 + 1)), .int (if n3 = 80 then 1 else tl3), .int omk]))) (congrArg (fun W => gv_up W o (.inr (4, [.ref oc, .int (nI (if n3 = 80 then 80 else n3 + 1)), .int (if n3 = 80 then 1 else tl3), .int omk]))) ((gv_uc ne5).trans (congrArg (fun W => gv_up W o (.inr (4, [.ref oc, .int (nI n3), .int tl3, .int omk]))) gv_uu))) ?_
                  refine k_view (V1 := gv_up (gv_up V oc (.inl (cI, 486, .inl (wrk f3 n3 (prj (nI 63) (rwf f i)) 6)))) o (.inr (4, [.ref oc, .int (nI (if n3 = 80 then 80 else n3 + 1)), .int (if n3 = 80 then 1 else tl3), .int omk]))) gv_uu ?_
                  refine k_iinc (v := nI (i + 1)) (lv' := [(5, .int (nI (i + 1))), (7, .int (nI j)), (6, .int w), (0, .ref mo), (1, .ref no), (2, .ref a), (3, .ref b), (4, .ref o)]) C dX1_makeLeft_128 (k := 2) rfl (nI_add i 1) (by decide) rfl ?_
                  refine k_goto (tgt := 3) C dX1_makeLeft_131 (by decide) ?_
                  refine k_sub [0, 3, 4, 5, 6, 7] (lv' := [(5, .int (nI (i + 1))), (0, .ref mo), (1, .ref no), (2, .ref a), (3, .ref b), (4, .ref o)]) rfl ?_
                  exact ih3 (i + 1) (if n3 = 80 then 80 else n3 + 1) (if n3 = 80 then 1 else tl3) (wrk f3 n3 (prj (nI 63) (rwf f i)) 6) (by omega)  (by omega) (by rw [leftL_s (by omega)]; exact left_al hr2 hB1 (by first | exact Or.inl (by omega) | exact Or.inr c40) (by rw [hw] at c117; exact bI_n.mp c117) (eq6_prj (hA.at (by omega))))
              · skip
                have b32 : ¬ n2 ≤ j := fun z => c32 ((nI_leI (a := n2) (b := j) (by omega) (by omega)).mpr z)
                refine k_aload C dX1_makeLeft_35 7 rfl ?_
                refine k_get (ci := 4) (k := 2) C fl_1_109 gv_up_s rfl dX1_makeLeft_37 ?_
                refine k_if_ne (tgt := 115) C dX1_makeLeft_40 (by decide) (fun c40 => ?_) (fun c40 => ?_)
                · skip
                  refine k_iload C dX1_makeLeft_115 1 rfl ?_
                  refine k_if_eq (tgt := 128) C dX1_makeLeft_117 (by decide) (fun c117 => ?_) (fun c117 => ?_)
                  · skip
                    refine k_iinc (v := nI (i + 1)) (lv' := [(5, .int (nI (i + 1))), (7, .int (nI j)), (6, .int w), (0, .ref mo), (1, .ref no), (2, .ref a), (3, .ref b), (4, .ref o)]) C dX1_makeLeft_128 (k := 2) rfl (nI_add i 1) (by decide) rfl ?_
                    refine k_goto (tgt := 3) C dX1_makeLeft_131 (by decide) ?_
                    refine k_sub [0, 3, 4, 5, 6, 7] (lv' := [(5, .int (nI (i + 1))), (0, .ref mo), (1, .ref no), (2, .ref a), (3, .ref b), (4, .ref o)]) rfl ?_
                    exact ih3 (i + 1) n3 tl3 f3 (by omega)  (by omega) (by rw [leftL_s (by omega)]; exact left_no hr2 hB1 (by first | exact Or.inl (by omega) | exact Or.inr c40) (by rw [hw] at c117; exact bI_0.mp c117))
                  · skip
                    refine k_aload C dX1_makeLeft_120 7 rfl ?_
                    refine k_aload_n C dX1_makeLeft_122 rfl 5 rfl ?_
                    refine k_iload C dX1_makeLeft_123 2 rfl ?_
                    have ne7 : nq oc o := gv_ne h_o h_oc (by simp)
                    have ne8 : nq c o := gv_ne h_o h_c (by simp)
                    refine k_callV_pv C mv_1_206 (c_X4_addRow  gv_up_s ((gv_up_n ne7).trans gv_up_s) ((gv_up_n (Ne.symm hoa)).trans ((gv_up_n ne2).trans h_a)) ((gv_up_n ne8).trans ((gv_up_n (Ne.symm hca)).trans h_c)) (by first | assumption | omega) (by first | assumption | omega) hca) gv_up_s rfl rfl (by simp [Value.category]) ⟨by decide, by decide⟩ ⟨(by decide), (by decide)⟩ dX1_makeLeft_125 ?_
                    refine k_view (V1 := gv_up (gv_up (gv_up V oc (.inl (cI, 486, .inl (wrk f3 n3 (prj (nI 63) (rwf f i)) 6)))) o (.inr (4, [.ref oc, .int (nI n3), .int tl3, .int omk]))) o (.inr (4, [.ref oc, .int (nI (if n3 = 80 then 80 else n3 + 1)), .int (if n3 = 80 then 1 else tl3), .int omk]))) (congrArg (fun W => gv_up W o (.inr (4, [.ref oc, .int (nI (if n3 = 80 then 80 else n3 + 1)), .int (if n3 = 80 then 1 else tl3), .int omk]))) ((gv_uc ne7).trans (congrArg (fun W => gv_up W o (.inr (4, [.ref oc, .int (nI n3), .int tl3, .int omk]))) gv_uu))) ?_
                    refine k_view (V1 := gv_up (gv_up V oc (.inl (cI, 486, .inl (wrk f3 n3 (prj (nI 63) (rwf f i)) 6)))) o (.inr (4, [.ref oc, .int (nI (if n3 = 80 then 80 else n3 + 1)), .int (if n3 = 80 then 1 else tl3), .int omk]))) gv_uu ?_
                    refine k_iinc (v := nI (i + 1)) (lv' := [(5, .int (nI (i + 1))), (7, .int (nI j)), (6, .int w), (0, .ref mo), (1, .ref no), (2, .ref a), (3, .ref b), (4, .ref o)]) C dX1_makeLeft_128 (k := 2) rfl (nI_add i 1) (by decide) rfl ?_
                    refine k_goto (tgt := 3) C dX1_makeLeft_131 (by decide) ?_
                    refine k_sub [0, 3, 4, 5, 6, 7] (lv' := [(5, .int (nI (i + 1))), (0, .ref mo), (1, .ref no), (2, .ref a), (3, .ref b), (4, .ref o)]) rfl ?_
                    exact ih3 (i + 1) (if n3 = 80 then 80 else n3 + 1) (if n3 = 80 then 1 else tl3) (wrk f3 n3 (prj (nI 63) (rwf f i)) 6) (by omega)  (by omega) (by rw [leftL_s (by omega)]; exact left_al hr2 hB1 (by first | exact Or.inl (by omega) | exact Or.inr c40) (by rw [hw] at c117; exact bI_n.mp c117) (eq6_prj (hA.at (by omega))))
                · skip
                  refine k_aload_n C dX1_makeLeft_43 rfl 5 rfl ?_
                  refine k_iload C dX1_makeLeft_44 2 rfl ?_
                  refine k_aload_n C dX1_makeLeft_46 rfl 6 rfl ?_
                  refine k_iload C dX1_makeLeft_47 0 rfl ?_
                  have ne9 : nq c o := gv_ne h_o h_c (by simp)
                  have ne10 : nq c2 o := gv_ne h_o h_c2 (by simp)
                  refine k_callV_pi C mv_1_194 (c_X4_agrees  ((gv_up_n (Ne.symm hoa)).trans ((gv_up_n ne2).trans h_a)) ((gv_up_n ne9).trans ((gv_up_n (Ne.symm hca)).trans h_c)) ((gv_up_n (Ne.symm hob)).trans ((gv_up_n ne4).trans h_b)) ((gv_up_n ne10).trans ((gv_up_n (Ne.symm hcb)).trans h_c2)) (by first | assumption | omega) (by first | assumption | omega)) ((gv_up_n (Ne.symm hoa)).trans ((gv_up_n ne2).trans h_a)) rfl rfl (by simp [Value.category]) ⟨by decide, by decide⟩ ⟨(by decide), (by decide)⟩ dX1_makeLeft_49 ?_
                  refine k_if_ne (tgt := 58) C dX1_makeLeft_52 (by decide) (fun c52 => ?_) (fun c52 => ?_)
                  · skip
                    have b52 : (agr (rwf f i) (rwf g j)) = true := bI_n.mp c52
                    refine k_aload C dX1_makeLeft_58 7 rfl ?_
                    refine k_aload_n C dX1_makeLeft_60 rfl 5 rfl ?_
                    refine k_iload C dX1_makeLeft_61 2 rfl ?_
                    refine k_aload_n C dX1_makeLeft_63 rfl 6 rfl ?_
                    refine k_iload C dX1_makeLeft_64 0 rfl ?_
                    have ne11 : nq oc o := gv_ne h_o h_oc (by simp)
                    refine k_callV_pv C mv_1_198 (c_X4_draftTogether  gv_up_s ((gv_up_n ne11).trans gv_up_s) ((gv_up_n (Ne.symm hoa)).trans ((gv_up_n ne2).trans h_a)) ((gv_up_n ne9).trans ((gv_up_n (Ne.symm hca)).trans h_c)) ((gv_up_n (Ne.symm hob)).trans ((gv_up_n ne4).trans h_b)) ((gv_up_n ne10).trans ((gv_up_n (Ne.symm hcb)).trans h_c2)) (by first | assumption | omega) (by first | assumption | omega) (by first | assumption | omega) hca hcb) gv_up_s rfl rfl (by simp [Value.category]) ⟨by decide, by decide⟩ ⟨(by decide), (by decide)⟩ dX1_makeLeft_66 ?_
                    refine k_view (V1 := gv_up (gv_up V oc (.inl (cI, 486, .inl (wrk f3 n3 (tog (rwf f i) (rwf g j)) 6)))) o (.inr (4, [.ref oc, .int (nI n3), .int tl3, .int omk]))) ((gv_uc ne11).trans (congrArg (fun W => gv_up W o (.inr (4, [.ref oc, .int (nI n3), .int tl3, .int omk]))) gv_uu)) ?_
                    refine k_aload_n C dX1_makeLeft_69 rfl 4 rfl ?_
                    have ne12 : nq no oc := gv_ne h_oc h_no (by simp)
                    have ne13 : nq no o := gv_ne h_o h_no (by simp)
                    refine k_get (ci := 2) (k := 6) C fl_1_213 ((gv_up_n ne13).trans ((gv_up_n ne12).trans h_no)) rfl dX1_makeLeft_70 ?_
                    refine k_iconst (v := (-1 : Int32)) C dX1_makeLeft_73 (by decide) ?_
                    refine k_icmp_eq (tgt := 101) C dX1_makeLeft_74 (by decide) (fun c74 => ?_) (fun c74 => ?_)
                    · skip
                      refine k_aload C dX1_makeLeft_101 7 rfl ?_
                      refine k_callV_pv C mv_1_179 (c_X4_keepDraft  gv_up_s ((gv_up_n ne11).trans gv_up_s) (by first | assumption | omega)) gv_up_s rfl rfl (by simp [Value.category]) ⟨by decide, by decide⟩ ⟨(by decide), (by decide)⟩ dX1_makeLeft_103 ?_
                      refine k_view (V1 := gv_up (gv_up V oc (.inl (cI, 486, .inl (wrk f3 n3 (tog (rwf f i) (rwf g j)) 6)))) o (.inr (4, [.ref oc, .int (nI (if n3 = 80 then 80 else n3 + 1)), .int (if n3 = 80 then 1 else tl3), .int omk]))) gv_uu ?_
                      refine k_iconst (v := nI 0) C dX1_makeLeft_106 rfl ?_
                      refine k_istore (lv' := [(6, .int (nI 0)), (7, .int (nI j)), (5, .int (nI i)), (0, .ref mo), (1, .ref no), (2, .ref a), (3, .ref b), (4, .ref o)]) C dX1_makeLeft_107 (by decide) rfl ?_
                      refine k_iinc (v := nI (j + 1)) (lv' := [(7, .int (nI (j + 1))), (6, .int (nI 0)), (5, .int (nI i)), (0, .ref mo), (1, .ref no), (2, .ref a), (3, .ref b), (4, .ref o)]) C dX1_makeLeft_109 (k := 1) rfl (nI_add j 1) (by decide) rfl ?_
                      refine k_goto (tgt := 26) C dX1_makeLeft_112 (by decide) ?_
                      exact ih26 (j + 1) (nI 0) (if n3 = 80 then 80 else n3 + 1) (if n3 = 80 then 1 else tl3) (wrk f3 n3 (tog (rwf f i) (rwf g j)) 6) (by omega)  (by omega) (by rw [left1_s (by omega), if_pos (by rw [← (agr_c (hA.at (show i < n by omega)) (hB.at (show j < n2 by omega))), b52, Bool.true_and]), ← List.append_assoc]; exact hr2.add (tog_c (hA.at (show i < n by omega)) (hB.at (show j < n2 by omega)))) (by rw [left1_s (by omega), if_pos (by rw [← (agr_c (hA.at (show i < n by omega)) (hB.at (show j < n2 by omega))), b52, Bool.true_and]), empty_app]; rfl)
                    · skip
                      exact absurd rfl c74
                  · skip
                    have b52 : (agr (rwf f i) (rwf g j)) = false := bI_0.mp c52
                    refine k_goto (tgt := 109) C dX1_makeLeft_55 (by decide) ?_
                    refine k_iinc (v := nI (j + 1)) (lv' := [(7, .int (nI (j + 1))), (6, .int w), (5, .int (nI i)), (0, .ref mo), (1, .ref no), (2, .ref a), (3, .ref b), (4, .ref o)]) C dX1_makeLeft_109 (k := 0) rfl (nI_add j 1) (by decide) rfl ?_
                    refine k_goto (tgt := 26) C dX1_makeLeft_112 (by decide) ?_
                    exact ih26 (j + 1) w n3 tl3 f3 (by omega)  (by omega) (by rw [left1_s (by omega), if_neg (by rw [← (agr_c (hA.at (show i < n by omega)) (hB.at (show j < n2 by omega))), b52]; exact Bool.false_ne_true), List.append_nil]; exact hr2) (by rw [left1_s (by omega), if_neg (by rw [← (agr_c (hA.at (show i < n by omega)) (hB.at (show j < n2 by omega))), b52]; exact Bool.false_ne_true), List.append_nil]; exact hw)
          exact L26 _ 0 (nI 1) n1 tl1 f1 (Nat.lt_succ_self _)  (by omega) (by simpa [left1] using hr1) rfl
  refine k_view (V1 := gv_up V oc (.inl (cI, 486, .inl of))) (gv_id h_oc).symm ?_
  have ne14 : nq o oc := gv_ne h_oc h_o (by simp)
  refine k_view (V1 := gv_up (gv_up V oc (.inl (cI, 486, .inl of))) o (.inr (4, [.ref oc, .int (nI 0), .int (nI 0), .int omk]))) (gv_id ((gv_up_n ne14).trans h_o)).symm ?_
  exact L3 _ 0 0 (nI 0) of (Nat.lt_succ_self _)  (by omega) Rep.nil
set_option maxHeartbeats 4000000 in
set_option maxRecDepth 100000 in
theorem c_makeLeftE {zl : Launch} {D : va_G} {cI cN cR : ClassId} {base : Nat} {V : gv_V} {mo tr nd tb wg ky pl : Nat} {no : Nat} {kind na nb ps pp po va st fr ln dn ag gr : Int32} {e : Nat} {xe ak af as ap av ne : Nat} {kd fs sc pt vl : Nat → Int32} {E : Nat → Ex} {a c n : Nat} {tl mk : Int32} {f : Nat → Int32} {b c2 n2 : Nat} {tl2 mk2 : Int32} {g : Nat → Int32} {o oc : Nat} {omk : Int32} {of : Nat → Int32} {A B : List Row}  (h_mo : V mo = some (.inr (1, [.ref tr, .ref xe, .ref nd, .ref tb, .ref wg, .ref ky, .ref pl]))) (h_no : V no = some (.inr (2, [.int kind, .int na, .int nb, .int ps, .int pp, .int po, .int (nI e), .int va, .int st, .int fr, .int ln, .int dn, .int ag, .int gr]))) (h_xe : V xe = some (.inr (0, [.ref ak, .ref af, .ref as, .ref ap, .ref av, .int (nI ne)]))) (h_ak : V ak = some (.inl (cI, 30, .inl kd))) (h_af : V af = some (.inl (cI, 30, .inl fs))) (h_as : V as = some (.inl (cI, 30, .inl sc))) (h_ap : V ap = some (.inl (cI, 30, .inl pt))) (h_av : V av = some (.inl (cI, 30, .inl vl))) (h_a : V a = some (.inr (4, [.ref c, .int (nI n), .int tl, .int mk]))) (h_c : V c = some (.inl (cI, 486, .inl f))) (h_b : V b = some (.inr (4, [.ref c2, .int (nI n2), .int tl2, .int mk2]))) (h_c2 : V c2 = some (.inl (cI, 486, .inl g))) (h_o : V o = some (.inr (4, [.ref oc, .int (nI 0), .int (nI 0), .int omk]))) (h_oc : V oc = some (.inl (cI, 486, .inl of))) (hX : ExR E ne kd fs sc pt) (he : e < ne) (hd : [ak, af, as, ap, av].Nodup) (hA : Tab A n f) (hoa : nq o a) (hca : nq oc c) (hB : Tab B n2 g) (hob : nq o b) (hcb : nq oc c2) : ct zl D [(cI, .int), (cN, .object "AlgebraTree$Node"), (cR, .object "AlgebraTree$Rows")] base yX1_makeLeft cX1_makeLeft 8 none 3 0 0 [.ref mo, .ref no, .ref a, .ref b, .ref o] V (fun zv zV => ∃ n1 : Nat, ∃ tl1 : Int32, ∃ f1 : Nat → Int32, ∃ vl1 : Nat → Int32, zv = none ∧ zV = gv_up (gv_up (gv_up V av (.inl (cI, 30, .inl vl1))) oc (.inl (cI, 486, .inl f1))) o (.inr (4, [.ref oc, .int (nI n1), .int tl1, .int omk])) ∧ (Rep (leftL (fun x => isT (ev E x e)) A B) n1 tl1 f1)) := by
  refine ct_of "AlgebraTree$Maker" rfl (by decide) (Nat.le_of_ble_eq_true rfl) ?_
  intro zp ze zs zm zargs zbelow zmeth zc C zr zlk znm
  refine k_pc (pc' := 0) (st' := []) rfl rfl ?_
  show K zp zl ze (gv_rm 3 0 0) zs zm zargs zbelow zmeth zc D base 8 (gv_E D [(cI, .int), (cN, .object "AlgebraTree$Node"), (cR, .object "AlgebraTree$Rows")] base zbelow zargs zs 0 0 (fun zv zV => ∃ n1 : Nat, ∃ tl1 : Int32, ∃ f1 : Nat → Int32, ∃ vl1 : Nat → Int32, zv = none ∧ zV = gv_up (gv_up (gv_up V av (.inl (cI, 30, .inl vl1))) oc (.inl (cI, 486, .inl f1))) o (.inr (4, [.ref oc, .int (nI n1), .int tl1, .int omk])) ∧ (Rep (leftL (fun x => isT (ev E x e)) A B) n1 tl1 f1))) V 0 0 [(0, .ref mo), (1, .ref no), (2, .ref a), (3, .ref b), (4, .ref o)] 0 []
  have hA1 := hA.1
  have hA2 := hA.2.1
  have hB1 := hB.1
  have hB2 := hB.2.1
  refine k_iconst (v := nI 0) C dX1_makeLeft_0 rfl ?_
  refine k_istore (lv' := [(5, .int (nI 0)), (0, .ref mo), (1, .ref no), (2, .ref a), (3, .ref b), (4, .ref o)]) C dX1_makeLeft_1 (by decide) rfl ?_
  have L3 : ∀ (zn1 : Nat) (i : Nat) (n1 : Nat) (tl1 : Int32) (f1 : Nat → Int32) (vl1 : Nat → Int32), n - i < zn1 → (i ≤ n) → (Rep (leftL (fun x => isT (ev E x e)) (A.take i) B) n1 tl1 f1) → K zp zl ze (gv_rm 3 0 0) zs zm zargs zbelow zmeth zc D base 8 (gv_E D [(cI, .int), (cN, .object "AlgebraTree$Node"), (cR, .object "AlgebraTree$Rows")] base zbelow zargs zs 0 0 (fun zv zV => ∃ n1 : Nat, ∃ tl1 : Int32, ∃ f1 : Nat → Int32, ∃ vl1 : Nat → Int32, zv = none ∧ zV = gv_up (gv_up (gv_up V av (.inl (cI, 30, .inl vl1))) oc (.inl (cI, 486, .inl f1))) o (.inr (4, [.ref oc, .int (nI n1), .int tl1, .int omk])) ∧ (Rep (leftL (fun x => isT (ev E x e)) A B) n1 tl1 f1))) (gv_up (gv_up (gv_up V av (.inl (cI, 30, .inl vl1))) oc (.inl (cI, 486, .inl f1))) o (.inr (4, [.ref oc, .int (nI n1), .int tl1, .int omk]))) 0 0 [(5, .int (nI i)), (0, .ref mo), (1, .ref no), (2, .ref a), (3, .ref b), (4, .ref o)] 3 [] := by
    intro zn1
    induction zn1 with
    | zero => intro i n1 tl1 f1 vl1 hlt; exact absurd hlt (Nat.not_lt_zero _)
    | succ zn1 ih3 =>
      intro i n1 tl1 f1 vl1 hlt3  hi hr1
      have hn1 := hr1.le
      refine k_iload C dX1_makeLeft_3 0 rfl ?_
      refine k_aload_n C dX1_makeLeft_5 rfl 3 rfl ?_
      have ne2 : nq a av := gv_ne h_av h_a (by simp)
      have ne3 : nq a oc := gv_ne h_oc h_a (by simp)
      refine k_get (ci := 4) (k := 1) C fl_1_186 ((gv_up_n (Ne.symm hoa)).trans ((gv_up_n ne3).trans ((gv_up_n ne2).trans h_a))) rfl dX1_makeLeft_6 ?_
      refine k_icmp_ge (tgt := 134) C dX1_makeLeft_9 (by decide) (fun c9 => ?_) (fun c9 => ?_)
      · skip
        have b9 : n ≤ i := (nI_leI (a := n) (b := i) (by omega) (by omega)).mp c9
        exact k_vret C zr zlk (by first | exact ⟨n1, tl1, f1, vl1, rfl, rfl, by rw [take_all (M := A) hA1 (show n ≤ i by omega)] at hr1; exact hr1⟩ | (obtain ⟨X, hX9⟩ := pre_flat (A := A) (F := leftX (fun x => isT (ev E x e)) B) i; exact ⟨n1, tl1, f1, vl1, rfl, rfl, by unfold leftL at hr1 ⊢; rw [hX9]; exact hr1.ext c17⟩)) (Nat.le_refl _) (Nat.le_refl _) dX1_makeLeft_134
      · skip
        have b9 : ¬ n ≤ i := fun z => c9 ((nI_leI (a := n) (b := i) (by omega) (by omega)).mpr z)
        refine k_aload C dX1_makeLeft_12 5 rfl ?_
        refine k_get (ci := 4) (k := 2) C fl_1_109 gv_up_s rfl dX1_makeLeft_14 ?_
        refine k_if_ne (tgt := 134) C dX1_makeLeft_17 (by decide) (fun c17 => ?_) (fun c17 => ?_)
        · skip
          exact k_vret C zr zlk (by first | exact ⟨n1, tl1, f1, vl1, rfl, rfl, by rw [take_all (M := A) hA1 (show n ≤ i by omega)] at hr1; exact hr1⟩ | (obtain ⟨X, hX9⟩ := pre_flat (A := A) (F := leftX (fun x => isT (ev E x e)) B) i; exact ⟨n1, tl1, f1, vl1, rfl, rfl, by unfold leftL at hr1 ⊢; rw [hX9]; exact hr1.ext c17⟩)) (Nat.le_refl _) (Nat.le_refl _) dX1_makeLeft_134
        · skip
          refine k_iconst (v := nI 1) C dX1_makeLeft_20 rfl ?_
          refine k_istore (lv' := [(6, .int (nI 1)), (5, .int (nI i)), (0, .ref mo), (1, .ref no), (2, .ref a), (3, .ref b), (4, .ref o)]) C dX1_makeLeft_21 (by decide) rfl ?_
          refine k_iconst (v := nI 0) C dX1_makeLeft_23 rfl ?_
          refine k_istore (lv' := [(7, .int (nI 0)), (6, .int (nI 1)), (5, .int (nI i)), (0, .ref mo), (1, .ref no), (2, .ref a), (3, .ref b), (4, .ref o)]) C dX1_makeLeft_24 (by decide) rfl ?_
          have L26 : ∀ (zn4 : Nat) (j : Nat) (w : Int32) (n3 : Nat) (tl3 : Int32) (f3 : Nat → Int32) (vl3 : Nat → Int32), n2 - j < zn4 → (j ≤ n2) → (Rep (leftL (fun x => isT (ev E x e)) (A.take i) B ++ left1 (fun x => isT (ev E x e)) (rowAt A i) (B.take j)) n3 tl3 f3) → (w = bI (left1 (fun x => isT (ev E x e)) (rowAt A i) (B.take j)).isEmpty) → K zp zl ze (gv_rm 3 0 0) zs zm zargs zbelow zmeth zc D base 8 (gv_E D [(cI, .int), (cN, .object "AlgebraTree$Node"), (cR, .object "AlgebraTree$Rows")] base zbelow zargs zs 0 0 (fun zv zV => ∃ n1 : Nat, ∃ tl1 : Int32, ∃ f1 : Nat → Int32, ∃ vl1 : Nat → Int32, zv = none ∧ zV = gv_up (gv_up (gv_up V av (.inl (cI, 30, .inl vl1))) oc (.inl (cI, 486, .inl f1))) o (.inr (4, [.ref oc, .int (nI n1), .int tl1, .int omk])) ∧ (Rep (leftL (fun x => isT (ev E x e)) A B) n1 tl1 f1))) (gv_up (gv_up (gv_up V av (.inl (cI, 30, .inl vl3))) oc (.inl (cI, 486, .inl f3))) o (.inr (4, [.ref oc, .int (nI n3), .int tl3, .int omk]))) 0 0 [(7, .int (nI j)), (6, .int w), (5, .int (nI i)), (0, .ref mo), (1, .ref no), (2, .ref a), (3, .ref b), (4, .ref o)] 26 [] := by
            intro zn4
            induction zn4 with
            | zero => intro j w n3 tl3 f3 vl3 hlt; exact absurd hlt (Nat.not_lt_zero _)
            | succ zn4 ih26 =>
              intro j w n3 tl3 f3 vl3 hlt26  hj hr2 hw
              have hn3 := hr2.le
              refine k_iload C dX1_makeLeft_26 0 rfl ?_
              refine k_aload_n C dX1_makeLeft_28 rfl 6 rfl ?_
              have ne5 : nq b av := gv_ne h_av h_b (by simp)
              have ne6 : nq b oc := gv_ne h_oc h_b (by simp)
              refine k_get (ci := 4) (k := 1) C fl_1_186 ((gv_up_n (Ne.symm hob)).trans ((gv_up_n ne6).trans ((gv_up_n ne5).trans h_b))) rfl dX1_makeLeft_29 ?_
              refine k_icmp_ge (tgt := 115) C dX1_makeLeft_32 (by decide) (fun c32 => ?_) (fun c32 => ?_)
              · skip
                have b32 : n2 ≤ j := (nI_leI (a := n2) (b := j) (by omega) (by omega)).mp c32
                refine k_iload C dX1_makeLeft_115 1 rfl ?_
                refine k_if_eq (tgt := 128) C dX1_makeLeft_117 (by decide) (fun c117 => ?_) (fun c117 => ?_)
                · skip
                  refine k_iinc (v := nI (i + 1)) (lv' := [(5, .int (nI (i + 1))), (7, .int (nI j)), (6, .int w), (0, .ref mo), (1, .ref no), (2, .ref a), (3, .ref b), (4, .ref o)]) C dX1_makeLeft_128 (k := 2) rfl (nI_add i 1) (by decide) rfl ?_
                  refine k_goto (tgt := 3) C dX1_makeLeft_131 (by decide) ?_
                  refine k_sub [0, 3, 4, 5, 6, 7] (lv' := [(5, .int (nI (i + 1))), (0, .ref mo), (1, .ref no), (2, .ref a), (3, .ref b), (4, .ref o)]) rfl ?_
                  exact ih3 (i + 1) n3 tl3 f3 vl3 (by omega)  (by omega) (by rw [leftL_s (by omega)]; exact left_no hr2 hB1 (by first | exact Or.inl (by omega) | exact Or.inr c40) (by rw [hw] at c117; exact bI_0.mp c117))
                · skip
                  refine k_aload C dX1_makeLeft_120 7 rfl ?_
                  refine k_aload_n C dX1_makeLeft_122 rfl 5 rfl ?_
                  refine k_iload C dX1_makeLeft_123 2 rfl ?_
                  have ne7 : nq oc o := gv_ne h_o h_oc (by simp)
                  have ne8 : nq c av := gv_ne h_av h_c (by simp)
                  have ne9 : nq c o := gv_ne h_o h_c (by simp)
                  refine k_callV_pv C mv_1_206 (c_X4_addRow  gv_up_s ((gv_up_n ne7).trans gv_up_s) ((gv_up_n (Ne.symm hoa)).trans ((gv_up_n ne3).trans ((gv_up_n ne2).trans h_a))) ((gv_up_n ne9).trans ((gv_up_n (Ne.symm hca)).trans ((gv_up_n ne8).trans h_c))) (by first | assumption | omega) (by first | assumption | omega) hca) gv_up_s rfl rfl (by simp [Value.category]) ⟨by decide, by decide⟩ ⟨(by decide), (by decide)⟩ dX1_makeLeft_125 ?_
                  refine k_view (V1 := gv_up (gv_up (gv_up (gv_up V av (.inl (cI, 30, .inl vl3))) oc (.inl (cI, 486, .inl (wrk f3 n3 (prj (nI 63) (rwf f i)) 6)))) o (.inr (4, [.ref oc, .int (nI n3), .int tl3, .int omk]))) o (.inr (4, [.ref oc, .int (nI (if n3 = 80 then 80 else n3 + 1)), .int (if n3 = 80 then 1 else tl3), .int omk]))) (congrArg (fun W => gv_up W o (.inr (4, [.ref oc, .int (nI (if n3 = 80 then 80 else n3 + 1)), .int (if n3 = 80 then 1 else tl3), .int omk]))) ((gv_uc ne7).trans (congrArg (fun W => gv_up W o (.inr (4, [.ref oc, .int (nI n3), .int tl3, .int omk]))) gv_uu))) ?_
                  refine k_view (V1 := gv_up (gv_up (gv_up V av (.inl (cI, 30, .inl vl3))) oc (.inl (cI, 486, .inl (wrk f3 n3 (prj (nI 63) (rwf f i)) 6)))) o (.inr (4, [.ref oc, .int (nI (if n3 = 80 then 80 else n3 + 1)), .int (if n3 = 80 then 1 else tl3), .int omk]))) gv_uu ?_
                  refine k_iinc (v := nI (i + 1)) (lv' := [(5, .int (nI (i + 1))), (7, .int (nI j)), (6, .int w), (0, .ref mo), (1, .ref no), (2, .ref a), (3, .ref b), (4, .ref o)]) C dX1_makeLeft_128 (k := 2) rfl (nI_add i 1) (by decide) rfl ?_
                  refine k_goto (tgt := 3) C dX1_makeLeft_131 (by decide) ?_
                  refine k_sub [0, 3, 4, 5, 6, 7] (lv' := [(5, .int (nI (i + 1))), (0, .ref mo), (1, .ref no), (2, .ref a), (3, .ref b), (4, .ref o)]) rfl ?_
                  exact ih3 (i + 1) (if n3 = 80 then 80 else n3 + 1) (if n3 = 80 then 1 else tl3) (wrk f3 n3 (prj (nI 63) (rwf f i)) 6) vl3 (by omega)  (by omega) (by rw [leftL_s (by omega)]; exact left_al hr2 hB1 (by first | exact Or.inl (by omega) | exact Or.inr c40) (by rw [hw] at c117; exact bI_n.mp c117) (eq6_prj (hA.at (by omega))))
              · skip
                have b32 : ¬ n2 ≤ j := fun z => c32 ((nI_leI (a := n2) (b := j) (by omega) (by omega)).mpr z)
                refine k_aload C dX1_makeLeft_35 7 rfl ?_
                refine k_get (ci := 4) (k := 2) C fl_1_109 gv_up_s rfl dX1_makeLeft_37 ?_
                refine k_if_ne (tgt := 115) C dX1_makeLeft_40 (by decide) (fun c40 => ?_) (fun c40 => ?_)
                · skip
                  refine k_iload C dX1_makeLeft_115 1 rfl ?_
                  refine k_if_eq (tgt := 128) C dX1_makeLeft_117 (by decide) (fun c117 => ?_) (fun c117 => ?_)
                  · skip
                    refine k_iinc (v := nI (i + 1)) (lv' := [(5, .int (nI (i + 1))), (7, .int (nI j)), (6, .int w), (0, .ref mo), (1, .ref no), (2, .ref a), (3, .ref b), (4, .ref o)]) C dX1_makeLeft_128 (k := 2) rfl (nI_add i 1) (by decide) rfl ?_
                    refine k_goto (tgt := 3) C dX1_makeLeft_131 (by decide) ?_
                    refine k_sub [0, 3, 4, 5, 6, 7] (lv' := [(5, .int (nI (i + 1))), (0, .ref mo), (1, .ref no), (2, .ref a), (3, .ref b), (4, .ref o)]) rfl ?_
                    exact ih3 (i + 1) n3 tl3 f3 vl3 (by omega)  (by omega) (by rw [leftL_s (by omega)]; exact left_no hr2 hB1 (by first | exact Or.inl (by omega) | exact Or.inr c40) (by rw [hw] at c117; exact bI_0.mp c117))
                  · skip
                    refine k_aload C dX1_makeLeft_120 7 rfl ?_
                    refine k_aload_n C dX1_makeLeft_122 rfl 5 rfl ?_
                    refine k_iload C dX1_makeLeft_123 2 rfl ?_
                    have ne10 : nq oc o := gv_ne h_o h_oc (by simp)
                    have ne11 : nq c av := gv_ne h_av h_c (by simp)
                    have ne12 : nq c o := gv_ne h_o h_c (by simp)
                    refine k_callV_pv C mv_1_206 (c_X4_addRow  gv_up_s ((gv_up_n ne10).trans gv_up_s) ((gv_up_n (Ne.symm hoa)).trans ((gv_up_n ne3).trans ((gv_up_n ne2).trans h_a))) ((gv_up_n ne12).trans ((gv_up_n (Ne.symm hca)).trans ((gv_up_n ne11).trans h_c))) (by first | assumption | omega) (by first | assumption | omega) hca) gv_up_s rfl rfl (by simp [Value.category]) ⟨by decide, by decide⟩ ⟨(by decide), (by decide)⟩ dX1_makeLeft_125 ?_
                    refine k_view (V1 := gv_up (gv_up (gv_up (gv_up V av (.inl (cI, 30, .inl vl3))) oc (.inl (cI, 486, .inl (wrk f3 n3 (prj (nI 63) (rwf f i)) 6)))) o (.inr (4, [.ref oc, .int (nI n3), .int tl3, .int omk]))) o (.inr (4, [.ref oc, .int (nI (if n3 = 80 then 80 else n3 + 1)), .int (if n3 = 80 then 1 else tl3), .int omk]))) (congrArg (fun W => gv_up W o (.inr (4, [.ref oc, .int (nI (if n3 = 80 then 80 else n3 + 1)), .int (if n3 = 80 then 1 else tl3), .int omk]))) ((gv_uc ne10).trans (congrArg (fun W => gv_up W o (.inr (4, [.ref oc, .int (nI n3), .int tl3, .int omk]))) gv_uu))) ?_
                    refine k_view (V1 := gv_up (gv_up (gv_up V av (.inl (cI, 30, .inl vl3))) oc (.inl (cI, 486, .inl (wrk f3 n3 (prj (nI 63) (rwf f i)) 6)))) o (.inr (4, [.ref oc, .int (nI (if n3 = 80 then 80 else n3 + 1)), .int (if n3 = 80 then 1 else tl3), .int omk]))) gv_uu ?_
                    refine k_iinc (v := nI (i + 1)) (lv' := [(5, .int (nI (i + 1))), (7, .int (nI j)), (6, .int w), (0, .ref mo), (1, .ref no), (2, .ref a), (3, .ref b), (4, .ref o)]) C dX1_makeLeft_128 (k := 2) rfl (nI_add i 1) (by decide) rfl ?_
                    refine k_goto (tgt := 3) C dX1_makeLeft_131 (by decide) ?_
                    refine k_sub [0, 3, 4, 5, 6, 7] (lv' := [(5, .int (nI (i + 1))), (0, .ref mo), (1, .ref no), (2, .ref a), (3, .ref b), (4, .ref o)]) rfl ?_
                    exact ih3 (i + 1) (if n3 = 80 then 80 else n3 + 1) (if n3 = 80 then 1 else tl3) (wrk f3 n3 (prj (nI 63) (rwf f i)) 6) vl3 (by omega)  (by omega) (by rw [leftL_s (by omega)]; exact left_al hr2 hB1 (by first | exact Or.inl (by omega) | exact Or.inr c40) (by rw [hw] at c117; exact bI_n.mp c117) (eq6_prj (hA.at (by omega))))
                · skip
                  refine k_aload_n C dX1_makeLeft_43 rfl 5 rfl ?_
                  refine k_iload C dX1_makeLeft_44 2 rfl ?_
                  refine k_aload_n C dX1_makeLeft_46 rfl 6 rfl ?_
                  refine k_iload C dX1_makeLeft_47 0 rfl ?_
                  have ne13 : nq c av := gv_ne h_av h_c (by simp)
                  have ne14 : nq c o := gv_ne h_o h_c (by simp)
                  have ne15 : nq c2 av := gv_ne h_av h_c2 (by simp)
                  have ne16 : nq c2 o := gv_ne h_o h_c2 (by simp)
                  refine k_callV_pi C mv_1_194 (c_X4_agrees  ((gv_up_n (Ne.symm hoa)).trans ((gv_up_n ne3).trans ((gv_up_n ne2).trans h_a))) ((gv_up_n ne14).trans ((gv_up_n (Ne.symm hca)).trans ((gv_up_n ne13).trans h_c))) ((gv_up_n (Ne.symm hob)).trans ((gv_up_n ne6).trans ((gv_up_n ne5).trans h_b))) ((gv_up_n ne16).trans ((gv_up_n (Ne.symm hcb)).trans ((gv_up_n ne15).trans h_c2))) (by first | assumption | omega) (by first | assumption | omega)) ((gv_up_n (Ne.symm hoa)).trans ((gv_up_n ne3).trans ((gv_up_n ne2).trans h_a))) rfl rfl (by simp [Value.category]) ⟨by decide, by decide⟩ ⟨(by decide), (by decide)⟩ dX1_makeLeft_49 ?_
                  refine k_if_ne (tgt := 58) C dX1_makeLeft_52 (by decide) (fun c52 => ?_) (fun c52 => ?_)
                  · skip
                    have b52 : (agr (rwf f i) (rwf g j)) = true := bI_n.mp c52
                    refine k_aload C dX1_makeLeft_58 7 rfl ?_
                    refine k_aload_n C dX1_makeLeft_60 rfl 5 rfl ?_
                    refine k_iload C dX1_makeLeft_61 2 rfl ?_
                    refine k_aload_n C dX1_makeLeft_63 rfl 6 rfl ?_
                    refine k_iload C dX1_makeLeft_64 0 rfl ?_
                    have ne17 : nq oc o := gv_ne h_o h_oc (by simp)
                    refine k_callV_pv C mv_1_198 (c_X4_draftTogether  gv_up_s ((gv_up_n ne17).trans gv_up_s) ((gv_up_n (Ne.symm hoa)).trans ((gv_up_n ne3).trans ((gv_up_n ne2).trans h_a))) ((gv_up_n ne14).trans ((gv_up_n (Ne.symm hca)).trans ((gv_up_n ne13).trans h_c))) ((gv_up_n (Ne.symm hob)).trans ((gv_up_n ne6).trans ((gv_up_n ne5).trans h_b))) ((gv_up_n ne16).trans ((gv_up_n (Ne.symm hcb)).trans ((gv_up_n ne15).trans h_c2))) (by first | assumption | omega) (by first | assumption | omega) (by first | assumption | omega) hca hcb) gv_up_s rfl rfl (by simp [Value.category]) ⟨by decide, by decide⟩ ⟨(by decide), (by decide)⟩ dX1_makeLeft_66 ?_
                    refine k_view (V1 := gv_up (gv_up (gv_up V av (.inl (cI, 30, .inl vl3))) oc (.inl (cI, 486, .inl (wrk f3 n3 (tog (rwf f i) (rwf g j)) 6)))) o (.inr (4, [.ref oc, .int (nI n3), .int tl3, .int omk]))) ((gv_uc ne17).trans (congrArg (fun W => gv_up W o (.inr (4, [.ref oc, .int (nI n3), .int tl3, .int omk]))) gv_uu)) ?_
                    refine k_aload_n C dX1_makeLeft_69 rfl 4 rfl ?_
                    have ne18 : nq no av := gv_ne h_av h_no (by simp)
                    have ne19 : nq no oc := gv_ne h_oc h_no (by simp)
                    have ne20 : nq no o := gv_ne h_o h_no (by simp)
                    refine k_get (ci := 2) (k := 6) C fl_1_213 ((gv_up_n ne20).trans ((gv_up_n ne19).trans ((gv_up_n ne18).trans h_no))) rfl dX1_makeLeft_70 ?_
                    refine k_iconst (v := (-1 : Int32)) C dX1_makeLeft_73 (by decide) ?_
                    refine k_icmp_eq (tgt := 101) C dX1_makeLeft_74 (by decide) (fun c74 => ?_) (fun c74 => ?_)
                    · skip
                      exact absurd c74 (nI_n1 (by have := hX.1; omega))
                    · skip
                      refine k_aload_n C dX1_makeLeft_77 rfl 3 rfl ?_
                      have ne21 : nq mo av := gv_ne h_av h_mo (by simp)
                      have ne22 : nq mo oc := gv_ne h_oc h_mo (by simp)
                      have ne23 : nq mo o := gv_ne h_o h_mo (by simp)
                      refine k_get (ci := 1) (k := 1) C fl_1_21 ((gv_up_n ne23).trans ((gv_up_n ne22).trans ((gv_up_n ne21).trans h_mo))) rfl dX1_makeLeft_78 ?_
                      refine k_aload_n C dX1_makeLeft_81 rfl 4 rfl ?_
                      refine k_get (ci := 2) (k := 6) C fl_1_213 ((gv_up_n ne20).trans ((gv_up_n ne19).trans ((gv_up_n ne18).trans h_no))) rfl dX1_makeLeft_82 ?_
                      refine k_aload C dX1_makeLeft_85 7 rfl ?_
                      refine k_aload C dX1_makeLeft_87 7 rfl ?_
                      refine k_get (ci := 4) (k := 1) C fl_1_186 gv_up_s rfl dX1_makeLeft_89 ?_
                      have ne24 : nq xe av := gv_ne h_av h_xe (by simp)
                      have ne25 : nq xe oc := gv_ne h_oc h_xe (by simp)
                      have ne26 : nq xe o := gv_ne h_o h_xe (by simp)
                      have ne27 : nq ak oc := gv_ne h_oc h_ak (by simp)
                      have ne28 : nq ak o := gv_ne h_o h_ak (by simp)
                      have ne29 : nq af oc := gv_ne h_oc h_af (by simp)
                      have ne30 : nq af o := gv_ne h_o h_af (by simp)
                      have ne31 : nq as oc := gv_ne h_oc h_as (by simp)
                      have ne32 : nq as o := gv_ne h_o h_as (by simp)
                      have ne33 : nq ap oc := gv_ne h_oc h_ap (by simp)
                      have ne34 : nq ap o := gv_ne h_o h_ap (by simp)
                      have ne35 : nq av oc := gv_ne h_oc h_av (by simp)
                      have ne36 : nq av o := gv_ne h_o h_av (by simp)
                      refine k_callV C mv_1_216 (c_X0_valueOf  ((gv_up_n ne26).trans ((gv_up_n ne25).trans ((gv_up_n ne24).trans h_xe))) ((gv_up_n ne28).trans ((gv_up_n ne27).trans ((gv_up_n (Ne.symm (ndp hd 4 0 rfl rfl (by decide)))).trans h_ak))) ((gv_up_n ne30).trans ((gv_up_n ne29).trans ((gv_up_n (Ne.symm (ndp hd 4 1 rfl rfl (by decide)))).trans h_af))) ((gv_up_n ne32).trans ((gv_up_n ne31).trans ((gv_up_n (Ne.symm (ndp hd 4 2 rfl rfl (by decide)))).trans h_as))) ((gv_up_n ne34).trans ((gv_up_n ne33).trans ((gv_up_n (Ne.symm (ndp hd 4 3 rfl rfl (by decide)))).trans h_ap))) ((gv_up_n ne36).trans ((gv_up_n ne35).trans gv_up_s)) gv_up_s ((gv_up_n ne17).trans gv_up_s) (by first | assumption | omega) (by first | assumption | omega) (by first | assumption | omega) (by first | assumption | omega)) ((gv_up_n ne26).trans ((gv_up_n ne25).trans ((gv_up_n ne24).trans h_xe))) rfl rfl (by simp [Value.category]) ⟨by decide, by decide⟩ ⟨(by decide), (by decide)⟩ dX1_makeLeft_92 (fun zv zV zh => ?_)
                      obtain ⟨vl1_w37, rfl, rfl⟩ := zh
                      refine k_pc (pc' := 95) (st' := .int (ev E (rwf (wrk f3 n3 (tog (rwf f i) (rwf g j)) 6) n3) e) :: []) rfl rfl ?_
                      refine k_view (V1 := gv_up (gv_up (gv_up V av (.inl (cI, 30, .inl vl1_w37))) oc (.inl (cI, 486, .inl (wrk f3 n3 (tog (rwf f i) (rwf g j)) 6)))) o (.inr (4, [.ref oc, .int (nI n3), .int tl3, .int omk]))) ((gv_uc ne36).trans (congrArg (fun W => gv_up W o (.inr (4, [.ref oc, .int (nI n3), .int tl3, .int omk]))) ((gv_uc ne35).trans (congrArg (fun W => gv_up W oc (.inl (cI, 486, .inl (wrk f3 n3 (tog (rwf f i) (rwf g j)) 6)))) gv_uu)))) ?_
                      refine k_callS_pi C ms_1_220 (c_X6_isTrue   ) rfl rfl (by simp [Value.category]) ⟨by decide, by decide⟩ ⟨(by decide), (by decide)⟩ dX1_makeLeft_95 ?_
                      refine k_if_eq (tgt := 109) C dX1_makeLeft_98 (by decide) (fun c98 => ?_) (fun c98 => ?_)
                      · skip
                        have b98 : (isT (ev E (rwf (wrk f3 n3 (tog (rwf f i) (rwf g j)) 6) n3) e)) = false := bI_0.mp c98
                        refine k_iinc (v := nI (j + 1)) (lv' := [(7, .int (nI (j + 1))), (6, .int w), (5, .int (nI i)), (0, .ref mo), (1, .ref no), (2, .ref a), (3, .ref b), (4, .ref o)]) C dX1_makeLeft_109 (k := 0) rfl (nI_add j 1) (by decide) rfl ?_
                        refine k_goto (tgt := 26) C dX1_makeLeft_112 (by decide) ?_
                        exact ih26 (j + 1) w n3 tl3 (wrk f3 n3 (tog (rwf f i) (rwf g j)) 6) vl1_w37 (by omega)  (by omega) (by rw [left1_s (by omega), if_neg (by rw [← ev_c hX (fun v hv => (rwf_wrk_in (f := f3) (n := n3) hv).trans ((tog_c (hA.at (show i < n by omega)) (hB.at (show j < n2 by omega))) v hv)) (e + 1) e (by omega) he, b98, Bool.and_false]; decide), List.append_nil]; exact hr2.lo (fun q hq => wrk_lo hq)) (by rw [left1_s (by omega), if_neg (by rw [← ev_c hX (fun v hv => (rwf_wrk_in (f := f3) (n := n3) hv).trans ((tog_c (hA.at (show i < n by omega)) (hB.at (show j < n2 by omega))) v hv)) (e + 1) e (by omega) he, b98, Bool.and_false]; decide), List.append_nil]; exact hw)
                      · skip
                        have b98 : (isT (ev E (rwf (wrk f3 n3 (tog (rwf f i) (rwf g j)) 6) n3) e)) = true := bI_n.mp c98
                        refine k_aload C dX1_makeLeft_101 7 rfl ?_
                        refine k_callV_pv C mv_1_179 (c_X4_keepDraft  gv_up_s ((gv_up_n ne17).trans gv_up_s) (by first | assumption | omega)) gv_up_s rfl rfl (by simp [Value.category]) ⟨by decide, by decide⟩ ⟨(by decide), (by decide)⟩ dX1_makeLeft_103 ?_
                        refine k_view (V1 := gv_up (gv_up (gv_up V av (.inl (cI, 30, .inl vl1_w37))) oc (.inl (cI, 486, .inl (wrk f3 n3 (tog (rwf f i) (rwf g j)) 6)))) o (.inr (4, [.ref oc, .int (nI (if n3 = 80 then 80 else n3 + 1)), .int (if n3 = 80 then 1 else tl3), .int omk]))) gv_uu ?_
                        refine k_iconst (v := nI 0) C dX1_makeLeft_106 rfl ?_
                        refine k_istore (lv' := [(6, .int (nI 0)), (7, .int (nI j)), (5, .int (nI i)), (0, .ref mo), (1, .ref no), (2, .ref a), (3, .ref b), (4, .ref o)]) C dX1_makeLeft_107 (by decide) rfl ?_
                        refine k_iinc (v := nI (j + 1)) (lv' := [(7, .int (nI (j + 1))), (6, .int (nI 0)), (5, .int (nI i)), (0, .ref mo), (1, .ref no), (2, .ref a), (3, .ref b), (4, .ref o)]) C dX1_makeLeft_109 (k := 1) rfl (nI_add j 1) (by decide) rfl ?_
                        refine k_goto (tgt := 26) C dX1_makeLeft_112 (by decide) ?_
                        exact ih26 (j + 1) (nI 0) (if n3 = 80 then 80 else n3 + 1) (if n3 = 80 then 1 else tl3) (wrk f3 n3 (tog (rwf f i) (rwf g j)) 6) vl1_w37 (by omega)  (by omega) (by rw [left1_s (by omega), if_pos (by rw [← (agr_c (hA.at (show i < n by omega)) (hB.at (show j < n2 by omega))), b52, Bool.true_and]; rw [← ev_c hX (fun v hv => (rwf_wrk_in (f := f3) (n := n3) hv).trans ((tog_c (hA.at (show i < n by omega)) (hB.at (show j < n2 by omega))) v hv)) (e + 1) e (by omega) he]; exact b98), ← List.append_assoc]; exact hr2.add (tog_c (hA.at (show i < n by omega)) (hB.at (show j < n2 by omega)))) (by rw [left1_s (by omega), if_pos (by rw [← (agr_c (hA.at (show i < n by omega)) (hB.at (show j < n2 by omega))), b52, Bool.true_and]; rw [← ev_c hX (fun v hv => (rwf_wrk_in (f := f3) (n := n3) hv).trans ((tog_c (hA.at (show i < n by omega)) (hB.at (show j < n2 by omega))) v hv)) (e + 1) e (by omega) he]; exact b98), empty_app]; rfl)
                  · skip
                    have b52 : (agr (rwf f i) (rwf g j)) = false := bI_0.mp c52
                    refine k_goto (tgt := 109) C dX1_makeLeft_55 (by decide) ?_
                    refine k_iinc (v := nI (j + 1)) (lv' := [(7, .int (nI (j + 1))), (6, .int w), (5, .int (nI i)), (0, .ref mo), (1, .ref no), (2, .ref a), (3, .ref b), (4, .ref o)]) C dX1_makeLeft_109 (k := 0) rfl (nI_add j 1) (by decide) rfl ?_
                    refine k_goto (tgt := 26) C dX1_makeLeft_112 (by decide) ?_
                    exact ih26 (j + 1) w n3 tl3 f3 vl3 (by omega)  (by omega) (by rw [left1_s (by omega), if_neg (by rw [← (agr_c (hA.at (show i < n by omega)) (hB.at (show j < n2 by omega))), b52]; exact Bool.false_ne_true), List.append_nil]; exact hr2) (by rw [left1_s (by omega), if_neg (by rw [← (agr_c (hA.at (show i < n by omega)) (hB.at (show j < n2 by omega))), b52]; exact Bool.false_ne_true), List.append_nil]; exact hw)
          exact L26 _ 0 (nI 1) n1 tl1 f1 vl1 (Nat.lt_succ_self _)  (by omega) (by simpa [left1] using hr1) rfl
  refine k_view (V1 := gv_up V av (.inl (cI, 30, .inl vl))) (gv_id h_av).symm ?_
  have ne38 : nq oc av := gv_ne h_av h_oc (by simp)
  refine k_view (V1 := gv_up (gv_up V av (.inl (cI, 30, .inl vl))) oc (.inl (cI, 486, .inl of))) (gv_id ((gv_up_n ne38).trans h_oc)).symm ?_
  have ne39 : nq o av := gv_ne h_av h_o (by simp)
  have ne40 : nq o oc := gv_ne h_oc h_o (by simp)
  refine k_view (V1 := gv_up (gv_up (gv_up V av (.inl (cI, 30, .inl vl))) oc (.inl (cI, 486, .inl of))) o (.inr (4, [.ref oc, .int (nI 0), .int (nI 0), .int omk]))) (gv_id ((gv_up_n ne40).trans ((gv_up_n ne39).trans h_o))).symm ?_
  exact L3 _ 0 0 (nI 0) of vl (Nat.lt_succ_self _)  (by omega) Rep.nil
set_option maxHeartbeats 4000000 in
set_option maxRecDepth 100000 in
theorem c_X1_goesBefore {zl : Launch} {D : va_G} {cI cN cR : ClassId} {base : Nat} {V : gv_V} {x y dn : Int32}    : ct zl D [(cI, .int), (cN, .object "AlgebraTree$Node"), (cR, .object "AlgebraTree$Rows")] base yX1_goesBefore cX1_goesBefore 3 (some .boolean) 0 0 0 [.int x, .int y, .int dn] V (pi (bI (gbf dn x y)) V) := by
  refine ct_of "AlgebraTree$Maker" rfl (by decide) (Nat.le_of_ble_eq_true rfl) ?_
  intro zp ze zs zm zargs zbelow zmeth zc C zr zlk znm
  refine k_pc (pc' := 0) (st' := []) rfl rfl ?_
  show K zp zl ze (gv_rm 0 0 0) zs zm zargs zbelow zmeth zc D base 3 (gv_E D [(cI, .int), (cN, .object "AlgebraTree$Node"), (cR, .object "AlgebraTree$Rows")] base zbelow zargs zs 0 0 (pi (bI (gbf dn x y)) V)) V 0 0 [(0, .int x), (1, .int y), (2, .int dn)] 0 []
  refine k_iload_n C dX1_goesBefore_0 rfl 2 rfl ?_
  refine k_if_eq (tgt := 17) C dX1_goesBefore_1 (by decide) (fun c1 => ?_) (fun c1 => ?_)
  · skip
    refine k_iload_n C dX1_goesBefore_17 rfl 0 rfl ?_
    refine k_iload_n C dX1_goesBefore_18 rfl 1 rfl ?_
    refine k_icmp_ge (tgt := 26) C dX1_goesBefore_19 (by decide) (fun c19 => ?_) (fun c19 => ?_)
    · skip
      refine k_iconst (v := nI 0) C dX1_goesBefore_26 rfl ?_
      exact k_zret C zr zlk rfl (pi_of (by first | exact bI_t (by grind [gbf]) | exact bI_f (by grind [gbf])) rfl) (Nat.le_refl _) (Nat.le_refl _) dX1_goesBefore_27
    · skip
      refine k_iconst (v := nI 1) C dX1_goesBefore_22 rfl ?_
      refine k_goto (tgt := 27) C dX1_goesBefore_23 (by decide) ?_
      exact k_zret C zr zlk rfl (pi_of (by first | exact bI_t (by grind [gbf]) | exact bI_f (by grind [gbf])) rfl) (Nat.le_refl _) (Nat.le_refl _) dX1_goesBefore_27
  · skip
    refine k_iload_n C dX1_goesBefore_4 rfl 0 rfl ?_
    refine k_iload_n C dX1_goesBefore_5 rfl 1 rfl ?_
    refine k_icmp_le (tgt := 13) C dX1_goesBefore_6 (by decide) (fun c6 => ?_) (fun c6 => ?_)
    · skip
      refine k_iconst (v := nI 0) C dX1_goesBefore_13 rfl ?_
      refine k_goto (tgt := 27) C dX1_goesBefore_14 (by decide) ?_
      exact k_zret C zr zlk rfl (pi_of (by first | exact bI_t (by grind [gbf]) | exact bI_f (by grind [gbf])) rfl) (Nat.le_refl _) (Nat.le_refl _) dX1_goesBefore_27
    · skip
      refine k_iconst (v := nI 1) C dX1_goesBefore_9 rfl ?_
      refine k_goto (tgt := 27) C dX1_goesBefore_10 (by decide) ?_
      exact k_zret C zr zlk rfl (pi_of (by first | exact bI_t (by grind [gbf]) | exact bI_f (by grind [gbf])) rfl) (Nat.le_refl _) (Nat.le_refl _) dX1_goesBefore_27
set_option maxHeartbeats 4000000 in
set_option maxRecDepth 100000 in
theorem c_X1_fits {zl : Launch} {D : va_G} {cI cN cR : ClassId} {base : Nat} {V : gv_V} {o oc n : Nat} {tl mk : Int32} {f : Nat → Int32} {x t : Int32}  (h_o : V o = some (.inr (4, [.ref oc, .int (nI n), .int tl, .int mk]))) (h_oc : V oc = some (.inl (cI, 486, .inl f))) (hx : plc x = true) (hn : n ≤ 80) : ct zl D [(cI, .int), (cN, .object "AlgebraTree$Node"), (cR, .object "AlgebraTree$Rows")] base yX1_fits cX1_fits 3 (some .boolean) 2 0 0 [.int x, .int t, .ref o] V (fun zv zV => ∃ f1 : Nat → Int32, zv = some (.int (bI (fitB x t (rwf f n)))) ∧ zV = gv_up V oc (.inl (cI, 486, .inl f1)) ∧ (∀ v, v < 6 → f1 (n * 6 + v) = fitR x t (rwf f n) v) ∧ (∀ z, z < n * 6 → f1 z = f z)) := by
  refine ct_of "AlgebraTree$Maker" rfl (by decide) (Nat.le_of_ble_eq_true rfl) ?_
  intro zp ze zs zm zargs zbelow zmeth zc C zr zlk znm
  refine k_pc (pc' := 0) (st' := []) rfl rfl ?_
  show K zp zl ze (gv_rm 2 0 0) zs zm zargs zbelow zmeth zc D base 3 (gv_E D [(cI, .int), (cN, .object "AlgebraTree$Node"), (cR, .object "AlgebraTree$Rows")] base zbelow zargs zs 0 0 (fun zv zV => ∃ f1 : Nat → Int32, zv = some (.int (bI (fitB x t (rwf f n)))) ∧ zV = gv_up V oc (.inl (cI, 486, .inl f1)) ∧ (∀ v, v < 6 → f1 (n * 6 + v) = fitR x t (rwf f n) v) ∧ (∀ z, z < n * 6 → f1 z = f z))) V 0 0 [(0, .int x), (1, .int t), (2, .ref o)] 0 []
  refine k_iload_n C dX1_fits_0 rfl 0 rfl ?_
  refine k_if_lt (tgt := 17) C dX1_fits_1 (by decide) (fun c1 => ?_) (fun c1 => ?_)
  · skip
    obtain ⟨v, hv, hxv⟩ := plc_v hx (Int32.not_le.mpr c1)
    refine k_aload_n C dX1_fits_17 rfl 2 rfl ?_
    refine k_iconst (v := (-1 : Int32)) C dX1_fits_18 (by decide) ?_
    refine k_iload_n C dX1_fits_19 rfl 0 rfl ?_
    refine k_isub C dX1_fits_20 ?_
    refine k_val (y := nI v) hxv ?_
    refine k_iload_n C dX1_fits_21 rfl 1 rfl ?_
    refine k_callV_pi C mv_1_182 (c_X4_draftTakes  h_o h_oc (by first | assumption | omega) (by first | assumption | omega)) h_o rfl rfl (by simp [Value.category]) ⟨by decide, by decide⟩ ⟨(by decide), (by decide)⟩ dX1_fits_22 ?_
    exact k_zret C zr zlk (by first | rfl | exact bI_nar) ⟨tk f (n * 6 + v) t, (by rw [fit_tkB hv c1 hxv]), rfl, (fun z hz => fit_tk hz hv c1 hxv), (fun z hz => tk_lo (by omega))⟩ (Nat.le_refl _) (Nat.le_refl _) dX1_fits_25
  · skip
    refine k_iload_n C dX1_fits_4 rfl 0 rfl ?_
    refine k_iload_n C dX1_fits_5 rfl 1 rfl ?_
    refine k_icmp_ne (tgt := 13) C dX1_fits_6 (by decide) (fun c6 => ?_) (fun c6 => ?_)
    · skip
      refine k_iconst (v := nI 0) C dX1_fits_13 rfl ?_
      refine k_goto (tgt := 25) C dX1_fits_14 (by decide) ?_
      refine k_view (V1 := gv_up V oc (.inl (cI, 486, .inl f))) (gv_id h_oc).symm ?_
      exact k_zret C zr zlk (by first | rfl | exact bI_nar) ⟨f, (by rw [show bI (fitB x t (rwf f n)) = bI (x == t) by unfold fitB; rw [if_pos (Int32.not_lt.mp c1)]]; first | (rw [← bI_t (b := x == t) (by simpa using c6)]) | (rw [← bI_f (b := x == t) (by simpa using c6)])), rfl, (fun z hz => by unfold fitR; rw [if_pos (Int32.not_lt.mp c1)]; rfl), (fun z hz => rfl)⟩ (Nat.le_refl _) (Nat.le_refl _) dX1_fits_25
    · skip
      refine k_iconst (v := nI 1) C dX1_fits_9 rfl ?_
      refine k_goto (tgt := 25) C dX1_fits_10 (by decide) ?_
      refine k_view (V1 := gv_up V oc (.inl (cI, 486, .inl f))) (gv_id h_oc).symm ?_
      exact k_zret C zr zlk (by first | rfl | exact bI_nar) ⟨f, (by rw [show bI (fitB x t (rwf f n)) = bI (x == t) by unfold fitB; rw [if_pos (Int32.not_lt.mp c1)]]; first | (rw [← bI_t (b := x == t) (by simpa using c6)]) | (rw [← bI_f (b := x == t) (by simpa using c6)])), rfl, (fun z hz => by unfold fitR; rw [if_pos (Int32.not_lt.mp c1)]; rfl), (fun z hz => rfl)⟩ (Nat.le_refl _) (Nat.le_refl _) dX1_fits_25
set_option maxHeartbeats 4000000 in
set_option maxRecDepth 100000 in
theorem c_X1_makePattern {zl : Launch} {D : va_G} {cI cN cR : ClassId} {base : Nat} {V : gv_V} {mo tr nd tb wg ky pl : Nat} {xe : Nat} {no : Nat} {kind na nb ps pp po ex va st fr ln dn ag gr : Int32} {tga tsa tpa tqa nt : Nat} {tg ts tp tq : Nat → Int32} {o oc : Nat} {omk : Int32} {of : Nat → Int32} {gg : Int32} {T : List Tr}  (h_mo : V mo = some (.inr (1, [.ref tr, .ref xe, .ref nd, .ref tb, .ref wg, .ref ky, .ref pl]))) (h_no : V no = some (.inr (2, [.int kind, .int na, .int nb, .int ps, .int pp, .int po, .int ex, .int va, .int st, .int fr, .int ln, .int dn, .int ag, .int gr]))) (h_tr : V tr = some (.inr (5, [.ref tga, .ref tsa, .ref tpa, .ref tqa, .int (nI nt)]))) (h_tga : V tga = some (.inl (cI, 60, .inl tg))) (h_tsa : V tsa = some (.inl (cI, 60, .inl ts))) (h_tpa : V tpa = some (.inl (cI, 60, .inl tp))) (h_tqa : V tqa = some (.inl (cI, 60, .inl tq))) (h_o : V o = some (.inr (4, [.ref oc, .int (nI 0), .int (nI 0), .int omk]))) (h_oc : V oc = some (.inl (cI, 486, .inl of))) (hT : TrR T nt tg ts tp tq) (hps : plc ps = true) (hpp : plc pp = true) (hpo : plc po = true) : ct zl D [(cI, .int), (cN, .object "AlgebraTree$Node"), (cR, .object "AlgebraTree$Rows")] base yX1_makePattern cX1_makePattern 5 none 3 0 0 [.ref mo, .ref no, .int gg, .ref o] V (fun zv zV => ∃ n1 : Nat, ∃ tl1 : Int32, ∃ f1 : Nat → Int32, zv = none ∧ zV = gv_up (gv_up V oc (.inl (cI, 486, .inl f1))) o (.inr (4, [.ref oc, .int (nI n1), .int tl1, .int omk])) ∧ (Rep (patL T gg ps pp po) n1 tl1 f1)) := by
  refine ct_of "AlgebraTree$Maker" rfl (by decide) (Nat.le_of_ble_eq_true rfl) ?_
  intro zp ze zs zm zargs zbelow zmeth zc C zr zlk znm
  refine k_pc (pc' := 0) (st' := []) rfl rfl ?_
  show K zp zl ze (gv_rm 3 0 0) zs zm zargs zbelow zmeth zc D base 5 (gv_E D [(cI, .int), (cN, .object "AlgebraTree$Node"), (cR, .object "AlgebraTree$Rows")] base zbelow zargs zs 0 0 (fun zv zV => ∃ n1 : Nat, ∃ tl1 : Int32, ∃ f1 : Nat → Int32, zv = none ∧ zV = gv_up (gv_up V oc (.inl (cI, 486, .inl f1))) o (.inr (4, [.ref oc, .int (nI n1), .int tl1, .int omk])) ∧ (Rep (patL T gg ps pp po) n1 tl1 f1))) V 0 0 [(0, .ref mo), (1, .ref no), (2, .int gg), (3, .ref o)] 0 []
  have hT1 := hT.1
  have hT2 := hT.2.1
  refine k_iconst (v := nI 0) C dX1_makePattern_0 rfl ?_
  refine k_istore (lv' := [(4, .int (nI 0)), (0, .ref mo), (1, .ref no), (2, .int gg), (3, .ref o)]) C dX1_makePattern_1 (by decide) rfl ?_
  have L3 : ∀ (zn1 : Nat) (k : Nat) (n1 : Nat) (tl1 : Int32) (f1 : Nat → Int32), nt - k < zn1 → (k ≤ nt) → (Rep (patL (T.take k) gg ps pp po) n1 tl1 f1) → K zp zl ze (gv_rm 3 0 0) zs zm zargs zbelow zmeth zc D base 5 (gv_E D [(cI, .int), (cN, .object "AlgebraTree$Node"), (cR, .object "AlgebraTree$Rows")] base zbelow zargs zs 0 0 (fun zv zV => ∃ n1 : Nat, ∃ tl1 : Int32, ∃ f1 : Nat → Int32, zv = none ∧ zV = gv_up (gv_up V oc (.inl (cI, 486, .inl f1))) o (.inr (4, [.ref oc, .int (nI n1), .int tl1, .int omk])) ∧ (Rep (patL T gg ps pp po) n1 tl1 f1))) (gv_up (gv_up V oc (.inl (cI, 486, .inl f1))) o (.inr (4, [.ref oc, .int (nI n1), .int tl1, .int omk]))) 0 0 [(4, .int (nI k)), (0, .ref mo), (1, .ref no), (2, .int gg), (3, .ref o)] 3 [] := by
    intro zn1
    induction zn1 with
    | zero => intro k n1 tl1 f1 hlt; exact absurd hlt (Nat.not_lt_zero _)
    | succ zn1 ih3 =>
      intro k n1 tl1 f1 hlt3  hk hr1
      have hn1 := hr1.le
      refine k_iload C dX1_makePattern_3 0 rfl ?_
      refine k_aload_n C dX1_makePattern_5 rfl 1 rfl ?_
      have ne2 : nq mo oc := gv_ne h_oc h_mo (by simp)
      have ne3 : nq mo o := gv_ne h_o h_mo (by simp)
      refine k_get (ci := 1) (k := 0) C fl_1_12 ((gv_up_n ne3).trans ((gv_up_n ne2).trans h_mo)) rfl dX1_makePattern_6 ?_
      have ne4 : nq tr oc := gv_ne h_oc h_tr (by simp)
      have ne5 : nq tr o := gv_ne h_o h_tr (by simp)
      refine k_get (ci := 5) (k := 4) C fl_1_87 ((gv_up_n ne5).trans ((gv_up_n ne4).trans h_tr)) rfl dX1_makePattern_9 ?_
      refine k_icmp_ge (tgt := 109) C dX1_makePattern_12 (by decide) (fun c12 => ?_) (fun c12 => ?_)
      · skip
        have b12 : nt ≤ k := (nI_leI (a := nt) (b := k) (by omega) (by omega)).mp c12
        exact k_vret C zr zlk ⟨n1, tl1, f1, rfl, rfl, by rw [List.take_of_length_le (l := T) (i := k) (by omega)] at hr1; exact hr1⟩ (Nat.le_refl _) (Nat.le_refl _) dX1_makePattern_109
      · skip
        have b12 : ¬ nt ≤ k := fun z => c12 ((nI_leI (a := nt) (b := k) (by omega) (by omega)).mpr z)
        have ht4 := hT.2.2 k (by omega)
        refine k_aload_n C dX1_makePattern_15 rfl 1 rfl ?_
        refine k_get (ci := 1) (k := 0) C fl_1_12 ((gv_up_n ne3).trans ((gv_up_n ne2).trans h_mo)) rfl dX1_makePattern_16 ?_
        refine k_get (ci := 5) (k := 0) C fl_1_155 ((gv_up_n ne5).trans ((gv_up_n ne4).trans h_tr)) rfl dX1_makePattern_19 ?_
        refine k_iload C dX1_makePattern_22 0 rfl ?_
        have ne6 : nq tga oc := gv_ne h_oc h_tga (by simp)
        have ne7 : nq tga o := gv_ne h_o h_tga (by simp)
        refine k_iald (v := tg k) C 0 ((gv_up_n ne7).trans ((gv_up_n ne6).trans h_tga)) rfl (vp_in_nI (by omega) (by omega)) (by rw [nI_clamp (by omega)]) dX1_makePattern_24 ?_
        refine k_iload_n C dX1_makePattern_25 rfl 3 rfl ?_
        refine k_icmp_eq (tgt := 32) C dX1_makePattern_26 (by decide) (fun c26 => ?_) (fun c26 => ?_)
        · skip
          refine k_aload_n C dX1_makePattern_32 rfl 4 rfl ?_
          have ne8 : nq oc o := gv_ne h_o h_oc (by simp)
          refine k_callV_pv C mv_1_157 (c_X4_draftOpen  gv_up_s ((gv_up_n ne8).trans gv_up_s) (by first | assumption | omega)) gv_up_s rfl rfl (by simp [Value.category]) ⟨by decide, by decide⟩ ⟨(by decide), (by decide)⟩ dX1_makePattern_33 ?_
          refine k_view (V1 := gv_up (gv_up V oc (.inl (cI, 486, .inl (wrk f1 n1 opn 6)))) o (.inr (4, [.ref oc, .int (nI n1), .int tl1, .int omk]))) ((gv_uc ne8).trans (congrArg (fun W => gv_up W o (.inr (4, [.ref oc, .int (nI n1), .int tl1, .int omk]))) gv_uu)) ?_
          have hq0 : eq6 (rwf (wrk f1 n1 opn 6) n1) opn := fun v hv => rwf_wrk_in hv
          have hlo0 : ∀ z, z < n1 * 6 → wrk f1 n1 opn 6 z = f1 z := fun z hz => wrk_lo hz
          refine k_aload_n C dX1_makePattern_36 rfl 2 rfl ?_
          have ne9 : nq no oc := gv_ne h_oc h_no (by simp)
          have ne10 : nq no o := gv_ne h_o h_no (by simp)
          refine k_get (ci := 2) (k := 3) C fl_1_160 ((gv_up_n ne10).trans ((gv_up_n ne9).trans h_no)) rfl dX1_makePattern_37 ?_
          refine k_aload_n C dX1_makePattern_40 rfl 1 rfl ?_
          refine k_get (ci := 1) (k := 0) C fl_1_12 ((gv_up_n ne3).trans ((gv_up_n ne2).trans h_mo)) rfl dX1_makePattern_41 ?_
          refine k_get (ci := 5) (k := 1) C fl_1_163 ((gv_up_n ne5).trans ((gv_up_n ne4).trans h_tr)) rfl dX1_makePattern_44 ?_
          refine k_iload C dX1_makePattern_47 0 rfl ?_
          have ne11 : nq tsa oc := gv_ne h_oc h_tsa (by simp)
          have ne12 : nq tsa o := gv_ne h_o h_tsa (by simp)
          refine k_iald (v := ts k) C 0 ((gv_up_n ne12).trans ((gv_up_n ne11).trans h_tsa)) rfl (vp_in_nI (by omega) (by omega)) (by rw [nI_clamp (by omega)]) dX1_makePattern_49 ?_
          refine k_aload_n C dX1_makePattern_50 rfl 4 rfl ?_
          refine k_callS C ms_1_165 (c_X1_fits  gv_up_s ((gv_up_n ne8).trans gv_up_s) hps (by first | assumption | omega)) rfl rfl (by simp [Value.category]) ⟨by decide, by decide⟩ ⟨(by decide), (by decide)⟩ dX1_makePattern_51 (fun zv zV zh => ?_)
          obtain ⟨f1_w13, rfl, rfl, hf1_w13, hf2_w13⟩ := zh
          refine k_pc (pc' := 54) (st' := .int (bI (fitB ps (ts k) (rwf (wrk f1 n1 opn 6) n1))) :: []) rfl rfl ?_
          refine k_view (V1 := gv_up (gv_up V oc (.inl (cI, 486, .inl f1_w13))) o (.inr (4, [.ref oc, .int (nI n1), .int tl1, .int omk]))) ((gv_uc ne8).trans (congrArg (fun W => gv_up W o (.inr (4, [.ref oc, .int (nI n1), .int tl1, .int omk]))) gv_uu)) ?_
          have hq1 : eq6 (rwf f1_w13 n1) (fitR ps (ts k) opn) := fun v hv => (hf1_w13 v hv).trans (fitR_c hq0 v hv)
          have hlo1 : ∀ z, z < n1 * 6 → f1_w13 z = f1 z := fun z hz => (hf2_w13 z hz).trans (hlo0 z hz)
          refine k_if_eq (tgt := 103) C dX1_makePattern_54 (by decide) (fun c54 => ?_) (fun c54 => ?_)
          · skip
            have b54 : (fitB ps (ts k) (rwf (wrk f1 n1 opn 6) n1)) = false := bI_0.mp c54
            refine k_iinc (v := nI (k + 1)) (lv' := [(4, .int (nI (k + 1))), (0, .ref mo), (1, .ref no), (2, .int gg), (3, .ref o)]) C dX1_makePattern_103 (k := 0) rfl (nI_add k 1) (by decide) rfl ?_
            refine k_goto (tgt := 3) C dX1_makePattern_106 (by decide) ?_
            exact ih3 (k + 1) n1 tl1 f1_w13 (by omega)  (by omega) (by rw [pat_n (by omega) (by unfold pat1; exact if_neg (fun h => by rw [← ht4.2.1, ← fitB_c hps hq0, b54] at h; exact Bool.false_ne_true h.2.1))]; exact hr1.lo hlo1)
          · skip
            have b54 : (fitB ps (ts k) (rwf (wrk f1 n1 opn 6) n1)) = true := bI_n.mp c54
            refine k_aload_n C dX1_makePattern_57 rfl 2 rfl ?_
            refine k_get (ci := 2) (k := 4) C fl_1_169 ((gv_up_n ne10).trans ((gv_up_n ne9).trans h_no)) rfl dX1_makePattern_58 ?_
            refine k_aload_n C dX1_makePattern_61 rfl 1 rfl ?_
            refine k_get (ci := 1) (k := 0) C fl_1_12 ((gv_up_n ne3).trans ((gv_up_n ne2).trans h_mo)) rfl dX1_makePattern_62 ?_
            refine k_get (ci := 5) (k := 2) C fl_1_172 ((gv_up_n ne5).trans ((gv_up_n ne4).trans h_tr)) rfl dX1_makePattern_65 ?_
            refine k_iload C dX1_makePattern_68 0 rfl ?_
            have ne14 : nq tpa oc := gv_ne h_oc h_tpa (by simp)
            have ne15 : nq tpa o := gv_ne h_o h_tpa (by simp)
            refine k_iald (v := tp k) C 0 ((gv_up_n ne15).trans ((gv_up_n ne14).trans h_tpa)) rfl (vp_in_nI (by omega) (by omega)) (by rw [nI_clamp (by omega)]) dX1_makePattern_70 ?_
            refine k_aload_n C dX1_makePattern_71 rfl 4 rfl ?_
            refine k_callS C ms_1_165 (c_X1_fits  gv_up_s ((gv_up_n ne8).trans gv_up_s) hpp (by first | assumption | omega)) rfl rfl (by simp [Value.category]) ⟨by decide, by decide⟩ ⟨(by decide), (by decide)⟩ dX1_makePattern_72 (fun zv zV zh => ?_)
            obtain ⟨f1_w16, rfl, rfl, hf1_w16, hf2_w16⟩ := zh
            refine k_pc (pc' := 75) (st' := .int (bI (fitB pp (tp k) (rwf f1_w13 n1))) :: []) rfl rfl ?_
            refine k_view (V1 := gv_up (gv_up V oc (.inl (cI, 486, .inl f1_w16))) o (.inr (4, [.ref oc, .int (nI n1), .int tl1, .int omk]))) ((gv_uc ne8).trans (congrArg (fun W => gv_up W o (.inr (4, [.ref oc, .int (nI n1), .int tl1, .int omk]))) gv_uu)) ?_
            have hq2 : eq6 (rwf f1_w16 n1) (fitR pp (tp k) (fitR ps (ts k) opn)) := fun v hv => (hf1_w16 v hv).trans (fitR_c hq1 v hv)
            have hlo2 : ∀ z, z < n1 * 6 → f1_w16 z = f1 z := fun z hz => (hf2_w16 z hz).trans (hlo1 z hz)
            refine k_if_eq (tgt := 103) C dX1_makePattern_75 (by decide) (fun c75 => ?_) (fun c75 => ?_)
            · skip
              have b75 : (fitB pp (tp k) (rwf f1_w13 n1)) = false := bI_0.mp c75
              refine k_iinc (v := nI (k + 1)) (lv' := [(4, .int (nI (k + 1))), (0, .ref mo), (1, .ref no), (2, .int gg), (3, .ref o)]) C dX1_makePattern_103 (k := 0) rfl (nI_add k 1) (by decide) rfl ?_
              refine k_goto (tgt := 3) C dX1_makePattern_106 (by decide) ?_
              exact ih3 (k + 1) n1 tl1 f1_w16 (by omega)  (by omega) (by rw [pat_n (by omega) (by unfold pat1; exact if_neg (fun h => by rw [← ht4.2.1, ← ht4.2.2.1, ← fitB_c hpp hq1, b75] at h; exact Bool.false_ne_true h.2.2.1))]; exact hr1.lo hlo2)
            · skip
              have b75 : (fitB pp (tp k) (rwf f1_w13 n1)) = true := bI_n.mp c75
              refine k_aload_n C dX1_makePattern_78 rfl 2 rfl ?_
              refine k_get (ci := 2) (k := 5) C fl_1_174 ((gv_up_n ne10).trans ((gv_up_n ne9).trans h_no)) rfl dX1_makePattern_79 ?_
              refine k_aload_n C dX1_makePattern_82 rfl 1 rfl ?_
              refine k_get (ci := 1) (k := 0) C fl_1_12 ((gv_up_n ne3).trans ((gv_up_n ne2).trans h_mo)) rfl dX1_makePattern_83 ?_
              refine k_get (ci := 5) (k := 3) C fl_1_177 ((gv_up_n ne5).trans ((gv_up_n ne4).trans h_tr)) rfl dX1_makePattern_86 ?_
              refine k_iload C dX1_makePattern_89 0 rfl ?_
              have ne17 : nq tqa oc := gv_ne h_oc h_tqa (by simp)
              have ne18 : nq tqa o := gv_ne h_o h_tqa (by simp)
              refine k_iald (v := tq k) C 0 ((gv_up_n ne18).trans ((gv_up_n ne17).trans h_tqa)) rfl (vp_in_nI (by omega) (by omega)) (by rw [nI_clamp (by omega)]) dX1_makePattern_91 ?_
              refine k_aload_n C dX1_makePattern_92 rfl 4 rfl ?_
              refine k_callS C ms_1_165 (c_X1_fits  gv_up_s ((gv_up_n ne8).trans gv_up_s) hpo (by first | assumption | omega)) rfl rfl (by simp [Value.category]) ⟨by decide, by decide⟩ ⟨(by decide), (by decide)⟩ dX1_makePattern_93 (fun zv zV zh => ?_)
              obtain ⟨f1_w19, rfl, rfl, hf1_w19, hf2_w19⟩ := zh
              refine k_pc (pc' := 96) (st' := .int (bI (fitB po (tq k) (rwf f1_w16 n1))) :: []) rfl rfl ?_
              refine k_view (V1 := gv_up (gv_up V oc (.inl (cI, 486, .inl f1_w19))) o (.inr (4, [.ref oc, .int (nI n1), .int tl1, .int omk]))) ((gv_uc ne8).trans (congrArg (fun W => gv_up W o (.inr (4, [.ref oc, .int (nI n1), .int tl1, .int omk]))) gv_uu)) ?_
              have hq3 : eq6 (rwf f1_w19 n1) (fitR po (tq k) (fitR pp (tp k) (fitR ps (ts k) opn))) := fun v hv => (hf1_w19 v hv).trans (fitR_c hq2 v hv)
              have hlo3 : ∀ z, z < n1 * 6 → f1_w19 z = f1 z := fun z hz => (hf2_w19 z hz).trans (hlo2 z hz)
              refine k_if_eq (tgt := 103) C dX1_makePattern_96 (by decide) (fun c96 => ?_) (fun c96 => ?_)
              · skip
                have b96 : (fitB po (tq k) (rwf f1_w16 n1)) = false := bI_0.mp c96
                refine k_iinc (v := nI (k + 1)) (lv' := [(4, .int (nI (k + 1))), (0, .ref mo), (1, .ref no), (2, .int gg), (3, .ref o)]) C dX1_makePattern_103 (k := 0) rfl (nI_add k 1) (by decide) rfl ?_
                refine k_goto (tgt := 3) C dX1_makePattern_106 (by decide) ?_
                exact ih3 (k + 1) n1 tl1 f1_w19 (by omega)  (by omega) (by rw [pat_n (by omega) (by unfold pat1; exact if_neg (fun h => by rw [← ht4.2.1, ← ht4.2.2.1, ← ht4.2.2.2, ← fitB_c hpo hq2, b96] at h; exact Bool.false_ne_true h.2.2.2))]; exact hr1.lo hlo3)
              · skip
                have b96 : (fitB po (tq k) (rwf f1_w16 n1)) = true := bI_n.mp c96
                refine k_aload_n C dX1_makePattern_99 rfl 4 rfl ?_
                refine k_callV_pv C mv_1_179 (c_X4_keepDraft  gv_up_s ((gv_up_n ne8).trans gv_up_s) (by first | assumption | omega)) gv_up_s rfl rfl (by simp [Value.category]) ⟨by decide, by decide⟩ ⟨(by decide), (by decide)⟩ dX1_makePattern_100 ?_
                refine k_view (V1 := gv_up (gv_up V oc (.inl (cI, 486, .inl f1_w19))) o (.inr (4, [.ref oc, .int (nI (if n1 = 80 then 80 else n1 + 1)), .int (if n1 = 80 then 1 else tl1), .int omk]))) gv_uu ?_
                refine k_iinc (v := nI (k + 1)) (lv' := [(4, .int (nI (k + 1))), (0, .ref mo), (1, .ref no), (2, .int gg), (3, .ref o)]) C dX1_makePattern_103 (k := 0) rfl (nI_add k 1) (by decide) rfl ?_
                refine k_goto (tgt := 3) C dX1_makePattern_106 (by decide) ?_
                exact ih3 (k + 1) (if n1 = 80 then 80 else n1 + 1) (if n1 = 80 then 1 else tl1) f1_w19 (by omega)  (by omega) (by rw [pat_y (r := fitR po (trAt T k).2.2.2 (fitR pp (trAt T k).2.2.1 (fitR ps (trAt T k).2.1 opn))) (by omega) (by unfold pat1; rw [← ht4.1, ← ht4.2.1, ← ht4.2.2.1, ← ht4.2.2.2]; exact if_pos ⟨c26, (fitB_c hps hq0) ▸ b54, (fitB_c hpp hq1) ▸ b75, (fitB_c hpo hq2) ▸ b96⟩)]; exact hr1.addx (fun v hv => by rw [← ht4.2.1, ← ht4.2.2.1, ← ht4.2.2.2]; exact hq3 v hv) (fun z hz => hlo3 z hz))
        · skip
          refine k_goto (tgt := 103) C dX1_makePattern_29 (by decide) ?_
          refine k_iinc (v := nI (k + 1)) (lv' := [(4, .int (nI (k + 1))), (0, .ref mo), (1, .ref no), (2, .int gg), (3, .ref o)]) C dX1_makePattern_103 (k := 0) rfl (nI_add k 1) (by decide) rfl ?_
          refine k_goto (tgt := 3) C dX1_makePattern_106 (by decide) ?_
          exact ih3 (k + 1) n1 tl1 f1 (by omega)  (by omega) (by rw [pat_n (by omega) (by unfold pat1; exact if_neg (fun h => c26 (ht4.1.trans h.1)))]; exact hr1)
  refine k_view (V1 := gv_up V oc (.inl (cI, 486, .inl of))) (gv_id h_oc).symm ?_
  have ne20 : nq o oc := gv_ne h_oc h_o (by simp)
  refine k_view (V1 := gv_up (gv_up V oc (.inl (cI, 486, .inl of))) o (.inr (4, [.ref oc, .int (nI 0), .int (nI 0), .int omk]))) (gv_id ((gv_up_n ne20).trans h_o)).symm ?_
  exact L3 _ 0 0 (nI 0) of (Nat.lt_succ_self _)  (by omega) Rep.nil
set_option maxHeartbeats 4000000 in
set_option maxRecDepth 100000 in
theorem c_X1_makeKeys {zl : Launch} {D : va_G} {cI cN cR : ClassId} {base : Nat} {V : gv_V} {mo tr nd tb wg ky pl : Nat} {no : Nat} {kind na nb ps pp po va st fr ln dn ag gr : Int32} {e : Nat} {xe ak af as ap av ne : Nat} {kd fs sc pt vl : Nat → Int32} {a c n : Nat} {tl mk : Int32} {f : Nat → Int32} {kf : Nat → Int32} {A : List Row} {E : Nat → Ex}  (h_mo : V mo = some (.inr (1, [.ref tr, .ref xe, .ref nd, .ref tb, .ref wg, .ref ky, .ref pl]))) (h_no : V no = some (.inr (2, [.int kind, .int na, .int nb, .int ps, .int pp, .int po, .int (nI e), .int va, .int st, .int fr, .int ln, .int dn, .int ag, .int gr]))) (h_xe : V xe = some (.inr (0, [.ref ak, .ref af, .ref as, .ref ap, .ref av, .int (nI ne)]))) (h_ak : V ak = some (.inl (cI, 30, .inl kd))) (h_af : V af = some (.inl (cI, 30, .inl fs))) (h_as : V as = some (.inl (cI, 30, .inl sc))) (h_ap : V ap = some (.inl (cI, 30, .inl pt))) (h_av : V av = some (.inl (cI, 30, .inl vl))) (h_a : V a = some (.inr (4, [.ref c, .int (nI n), .int tl, .int mk]))) (h_c : V c = some (.inl (cI, 486, .inl f))) (h_ky : V ky = some (.inl (cI, 80, .inl kf))) (hX : ExR E ne kd fs sc pt) (he : e < ne) (hd : [ak, af, as, ap, av].Nodup) (hA : Tab A n f) : ct zl D [(cI, .int), (cN, .object "AlgebraTree$Node"), (cR, .object "AlgebraTree$Rows")] base yX1_makeKeys cX1_makeKeys 4 none 3 0 0 [.ref mo, .ref no, .ref a] V (fun zv zV => ∃ vl1 : Nat → Int32, ∃ kf1 : Nat → Int32, zv = none ∧ zV = gv_up (gv_up V av (.inl (cI, 30, .inl vl1))) ky (.inl (cI, 80, .inl kf1)) ∧ (∀ z, z < n → kf1 z = ev E (rowAt A z) e)) := by
  refine ct_of "AlgebraTree$Maker" rfl (by decide) (Nat.le_of_ble_eq_true rfl) ?_
  intro zp ze zs zm zargs zbelow zmeth zc C zr zlk znm
  refine k_pc (pc' := 0) (st' := []) rfl rfl ?_
  show K zp zl ze (gv_rm 3 0 0) zs zm zargs zbelow zmeth zc D base 4 (gv_E D [(cI, .int), (cN, .object "AlgebraTree$Node"), (cR, .object "AlgebraTree$Rows")] base zbelow zargs zs 0 0 (fun zv zV => ∃ vl1 : Nat → Int32, ∃ kf1 : Nat → Int32, zv = none ∧ zV = gv_up (gv_up V av (.inl (cI, 30, .inl vl1))) ky (.inl (cI, 80, .inl kf1)) ∧ (∀ z, z < n → kf1 z = ev E (rowAt A z) e))) V 0 0 [(0, .ref mo), (1, .ref no), (2, .ref a)] 0 []
  have hA1 := hA.1
  have hA2 := hA.2.1
  refine k_iconst (v := nI 0) C dX1_makeKeys_0 rfl ?_
  refine k_istore_n (lv' := [(3, .int (nI 0)), (0, .ref mo), (1, .ref no), (2, .ref a)]) C dX1_makeKeys_1 rfl (by decide) rfl ?_
  have L2 : ∀ (zn1 : Nat) (i : Nat) (vl1 : Nat → Int32) (kf1 : Nat → Int32), n - i < zn1 → (i ≤ n) → (∀ z, z < i → kf1 z = ev E (rowAt A z) e) → K zp zl ze (gv_rm 3 0 0) zs zm zargs zbelow zmeth zc D base 4 (gv_E D [(cI, .int), (cN, .object "AlgebraTree$Node"), (cR, .object "AlgebraTree$Rows")] base zbelow zargs zs 0 0 (fun zv zV => ∃ vl1 : Nat → Int32, ∃ kf1 : Nat → Int32, zv = none ∧ zV = gv_up (gv_up V av (.inl (cI, 30, .inl vl1))) ky (.inl (cI, 80, .inl kf1)) ∧ (∀ z, z < n → kf1 z = ev E (rowAt A z) e))) (gv_up (gv_up V av (.inl (cI, 30, .inl vl1))) ky (.inl (cI, 80, .inl kf1))) 0 0 [(3, .int (nI i)), (0, .ref mo), (1, .ref no), (2, .ref a)] 2 [] := by
    intro zn1
    induction zn1 with
    | zero => intro i vl1 kf1 hlt; exact absurd hlt (Nat.not_lt_zero _)
    | succ zn1 ih2 =>
      intro i vl1 kf1 hlt2  hi hkf
      refine k_iload_n C dX1_makeKeys_2 rfl 0 rfl ?_
      refine k_aload_n C dX1_makeKeys_3 rfl 3 rfl ?_
      have ne2 : nq a av := gv_ne h_av h_a (by simp)
      have ne3 : nq a ky := gv_ne h_ky h_a (by simp)
      refine k_get (ci := 4) (k := 1) C fl_1_186 ((gv_up_n ne3).trans ((gv_up_n ne2).trans h_a)) rfl dX1_makeKeys_4 ?_
      refine k_icmp_ge (tgt := 35) C dX1_makeKeys_7 (by decide) (fun c7 => ?_) (fun c7 => ?_)
      · skip
        have b7 : n ≤ i := (nI_leI (a := n) (b := i) (by omega) (by omega)).mp c7
        exact k_vret C zr zlk ⟨vl1, kf1, rfl, rfl, fun z hz => hkf z (by omega)⟩ (Nat.le_refl _) (Nat.le_refl _) dX1_makeKeys_35
      · skip
        have b7 : ¬ n ≤ i := fun z => c7 ((nI_leI (a := n) (b := i) (by omega) (by omega)).mpr z)
        refine k_aload_n C dX1_makeKeys_10 rfl 1 rfl ?_
        have ne4 : nq mo av := gv_ne h_av h_mo (by simp)
        have ne5 : nq mo ky := gv_ne h_ky h_mo (by simp)
        refine k_get (ci := 1) (k := 5) C fl_1_42 ((gv_up_n ne5).trans ((gv_up_n ne4).trans h_mo)) rfl dX1_makeKeys_11 ?_
        refine k_iload_n C dX1_makeKeys_14 rfl 0 rfl ?_
        refine k_aload_n C dX1_makeKeys_15 rfl 1 rfl ?_
        refine k_get (ci := 1) (k := 1) C fl_1_21 ((gv_up_n ne5).trans ((gv_up_n ne4).trans h_mo)) rfl dX1_makeKeys_16 ?_
        refine k_aload_n C dX1_makeKeys_19 rfl 2 rfl ?_
        have ne6 : nq no av := gv_ne h_av h_no (by simp)
        have ne7 : nq no ky := gv_ne h_ky h_no (by simp)
        refine k_get (ci := 2) (k := 6) C fl_1_213 ((gv_up_n ne7).trans ((gv_up_n ne6).trans h_no)) rfl dX1_makeKeys_20 ?_
        refine k_aload_n C dX1_makeKeys_23 rfl 3 rfl ?_
        refine k_iload_n C dX1_makeKeys_24 rfl 0 rfl ?_
        have ne8 : nq xe av := gv_ne h_av h_xe (by simp)
        have ne9 : nq xe ky := gv_ne h_ky h_xe (by simp)
        have ne10 : nq ak ky := gv_ne h_ky h_ak (by simp)
        have ne11 : nq af ky := gv_ne h_ky h_af (by simp)
        have ne12 : nq as ky := gv_ne h_ky h_as (by simp)
        have ne13 : nq ap ky := gv_ne h_ky h_ap (by simp)
        have ne14 : nq av ky := gv_ne h_ky h_av (by simp)
        have ne15 : nq c av := gv_ne h_av h_c (by simp)
        have ne16 : nq c ky := gv_ne h_ky h_c (by simp)
        refine k_callV C mv_1_216 (c_X0_valueOf  ((gv_up_n ne9).trans ((gv_up_n ne8).trans h_xe)) ((gv_up_n ne10).trans ((gv_up_n (Ne.symm (ndp hd 4 0 rfl rfl (by decide)))).trans h_ak)) ((gv_up_n ne11).trans ((gv_up_n (Ne.symm (ndp hd 4 1 rfl rfl (by decide)))).trans h_af)) ((gv_up_n ne12).trans ((gv_up_n (Ne.symm (ndp hd 4 2 rfl rfl (by decide)))).trans h_as)) ((gv_up_n ne13).trans ((gv_up_n (Ne.symm (ndp hd 4 3 rfl rfl (by decide)))).trans h_ap)) ((gv_up_n ne14).trans gv_up_s) ((gv_up_n ne3).trans ((gv_up_n ne2).trans h_a)) ((gv_up_n ne16).trans ((gv_up_n ne15).trans h_c)) (by first | assumption | omega) (by first | assumption | omega) (by first | assumption | omega) (by first | assumption | omega)) ((gv_up_n ne9).trans ((gv_up_n ne8).trans h_xe)) rfl rfl (by simp [Value.category]) ⟨by decide, by decide⟩ ⟨(by decide), (by decide)⟩ dX1_makeKeys_25 (fun zv zV zh => ?_)
        obtain ⟨vl1_w17, rfl, rfl⟩ := zh
        refine k_pc (pc' := 28) (st' := .int (ev E (rwf f i) e) :: [.int (nI i), .ref ky]) rfl rfl ?_
        refine k_view (V1 := gv_up (gv_up V av (.inl (cI, 30, .inl vl1_w17))) ky (.inl (cI, 80, .inl kf1))) ((gv_uc ne14).trans (congrArg (fun W => gv_up W ky (.inl (cI, 80, .inl kf1))) gv_uu)) ?_
        refine k_iast (f' := upd kf1 i (ev E (rwf f i) e)) C 0 gv_up_s rfl (vp_in_nI (by omega) (by omega)) (by rw [nI_clamp (by omega)]) dX1_makeKeys_28 ?_
        refine k_view (V1 := gv_up (gv_up V av (.inl (cI, 30, .inl vl1_w17))) ky (.inl (cI, 80, .inl (upd kf1 i (ev E (rwf f i) e))))) gv_uu ?_
        refine k_iinc (v := nI (i + 1)) (lv' := [(3, .int (nI (i + 1))), (0, .ref mo), (1, .ref no), (2, .ref a)]) C dX1_makeKeys_29 (k := 0) rfl (nI_add i 1) (by decide) rfl ?_
        refine k_goto (tgt := 2) C dX1_makeKeys_32 (by decide) ?_
        exact ih2 (i + 1) vl1_w17 (upd kf1 i (ev E (rwf f i) e)) (by omega)  (by omega) (upd_nx hkf (ev_c hX (hA.at (by omega)) (e + 1) e (by omega) he))
  refine k_view (V1 := gv_up V av (.inl (cI, 30, .inl vl))) (gv_id h_av).symm ?_
  have ne18 : nq ky av := gv_ne h_av h_ky (by simp)
  refine k_view (V1 := gv_up (gv_up V av (.inl (cI, 30, .inl vl))) ky (.inl (cI, 80, .inl kf))) (gv_id ((gv_up_n ne18).trans h_ky)).symm ?_
  exact L2 _ 0 vl kf (Nat.lt_succ_self _)  (by omega) (fun _ h => absurd h (Nat.not_lt_zero _))
