set_option maxHeartbeats 4000000 in
set_option maxRecDepth 100000 in
theorem c_X1_makeOrder {zl : Launch} {D : va_G} {cI cN cR : ClassId} {base : Nat} {V : gv_V} {mo tr nd tb wg ky pl : Nat} {xe : Nat} {no : Nat} {kind na nb ps pp po ex va st fr ln dn ag gr : Int32} {a c n : Nat} {tl mk : Int32} {f : Nat → Int32} {o oc : Nat} {omk : Int32} {of : Nat → Int32} {kf pf : Nat → Int32} {A : List Row} {kk : Row → Int32}  (h_mo : V mo = some (.inr (1, [.ref tr, .ref xe, .ref nd, .ref tb, .ref wg, .ref ky, .ref pl]))) (h_no : V no = some (.inr (2, [.int kind, .int na, .int nb, .int ps, .int pp, .int po, .int ex, .int va, .int st, .int fr, .int ln, .int dn, .int ag, .int gr]))) (h_a : V a = some (.inr (4, [.ref c, .int (nI n), .int tl, .int mk]))) (h_c : V c = some (.inl (cI, 486, .inl f))) (h_o : V o = some (.inr (4, [.ref oc, .int (nI 0), .int (nI 0), .int omk]))) (h_oc : V oc = some (.inl (cI, 486, .inl of))) (h_ky : V ky = some (.inl (cI, 80, .inl kf))) (h_pl : V pl = some (.inl (cI, 80, .inl pf))) (hA : Tab A n f) (hoa : nq o a) (hca : nq oc c) (hkf : ∀ z, z < n → kf z = kk (rowAt A z)) (hky : nq ky pl) : ct zl D [(cI, .int), (cN, .object "AlgebraTree$Node"), (cR, .object "AlgebraTree$Rows")] base yX1_makeOrder cX1_makeOrder 6 none 3 0 0 [.ref mo, .ref no, .ref a, .ref o] V (fun zv zV => ∃ n1 : Nat, ∃ tl1 : Int32, ∃ f1 : Nat → Int32, ∃ pf1 : Nat → Int32, zv = none ∧ zV = gv_up (gv_up (gv_up V pl (.inl (cI, 80, .inl pf1))) oc (.inl (cI, 486, .inl f1))) o (.inr (4, [.ref oc, .int (nI n1), .int tl1, .int omk])) ∧ (Rep (orderL dn kk A) n1 tl1 f1)) := by
  refine ct_of "AlgebraTree$Maker" rfl (by decide) (Nat.le_of_ble_eq_true rfl) ?_
  intro zp ze zs zm zargs zbelow zmeth zc C zr zlk znm
  refine k_pc (pc' := 0) (st' := []) rfl rfl ?_
  show K zp zl ze (gv_rm 3 0 0) zs zm zargs zbelow zmeth zc D base 6 (gv_E D [(cI, .int), (cN, .object "AlgebraTree$Node"), (cR, .object "AlgebraTree$Rows")] base zbelow zargs zs 0 0 (fun zv zV => ∃ n1 : Nat, ∃ tl1 : Int32, ∃ f1 : Nat → Int32, ∃ pf1 : Nat → Int32, zv = none ∧ zV = gv_up (gv_up (gv_up V pl (.inl (cI, 80, .inl pf1))) oc (.inl (cI, 486, .inl f1))) o (.inr (4, [.ref oc, .int (nI n1), .int tl1, .int omk])) ∧ (Rep (orderL dn kk A) n1 tl1 f1))) V 0 0 [(0, .ref mo), (1, .ref no), (2, .ref a), (3, .ref o)] 0 []
  have hA1 := hA.1
  have hA2 := hA.2.1
  refine k_iconst (v := nI 0) C dX1_makeOrder_0 rfl ?_
  refine k_istore (lv' := [(4, .int (nI 0)), (0, .ref mo), (1, .ref no), (2, .ref a), (3, .ref o)]) C dX1_makeOrder_1 (by decide) rfl ?_
  have L3 : ∀ (zn1 : Nat) (i : Nat) (L : List Nat) (pf1 : Nat → Int32), n - i < zn1 → (i ≤ n) → (Ord dn (fun z => kk (rowAt A z)) i L) → (∀ q, q < i → pf1 q = nI (plA L q)) → K zp zl ze (gv_rm 3 0 0) zs zm zargs zbelow zmeth zc D base 6 (gv_E D [(cI, .int), (cN, .object "AlgebraTree$Node"), (cR, .object "AlgebraTree$Rows")] base zbelow zargs zs 0 0 (fun zv zV => ∃ n1 : Nat, ∃ tl1 : Int32, ∃ f1 : Nat → Int32, ∃ pf1 : Nat → Int32, zv = none ∧ zV = gv_up (gv_up (gv_up V pl (.inl (cI, 80, .inl pf1))) oc (.inl (cI, 486, .inl f1))) o (.inr (4, [.ref oc, .int (nI n1), .int tl1, .int omk])) ∧ (Rep (orderL dn kk A) n1 tl1 f1))) (gv_up V pl (.inl (cI, 80, .inl pf1))) 0 0 [(4, .int (nI i)), (0, .ref mo), (1, .ref no), (2, .ref a), (3, .ref o)] 3 [] := by
    intro zn1
    induction zn1 with
    | zero => intro i L pf1 hlt; exact absurd hlt (Nat.not_lt_zero _)
    | succ zn1 ih3 =>
      intro i L pf1 hlt3  hi hO hpl
      refine k_iload C dX1_makeOrder_3 0 rfl ?_
      refine k_aload_n C dX1_makeOrder_5 rfl 3 rfl ?_
      have ne2 : nq a pl := gv_ne h_pl h_a (by simp)
      refine k_get (ci := 4) (k := 1) C fl_1_186 ((gv_up_n ne2).trans h_a) rfl dX1_makeOrder_6 ?_
      refine k_icmp_ge (tgt := 89) C dX1_makeOrder_9 (by decide) (fun c9 => ?_) (fun c9 => ?_)
      · skip
        have b9 : n ≤ i := (nI_leI (a := n) (b := i) (by omega) (by omega)).mp c9
        refine k_iconst (v := nI 0) C dX1_makeOrder_89 rfl ?_
        refine k_istore (lv' := [(4, .int (nI 0)), (0, .ref mo), (1, .ref no), (2, .ref a), (3, .ref o)]) C dX1_makeOrder_90 (by decide) rfl ?_
        have L92 : ∀ (zn3 : Nat) (i2 : Nat) (n1 : Nat) (tl1 : Int32) (f1 : Nat → Int32), n - i2 < zn3 → (i2 ≤ n) → (Rep ((L.take i2).map (rowAt A)) n1 tl1 f1) → K zp zl ze (gv_rm 3 0 0) zs zm zargs zbelow zmeth zc D base 6 (gv_E D [(cI, .int), (cN, .object "AlgebraTree$Node"), (cR, .object "AlgebraTree$Rows")] base zbelow zargs zs 0 0 (fun zv zV => ∃ n1 : Nat, ∃ tl1 : Int32, ∃ f1 : Nat → Int32, ∃ pf1 : Nat → Int32, zv = none ∧ zV = gv_up (gv_up (gv_up V pl (.inl (cI, 80, .inl pf1))) oc (.inl (cI, 486, .inl f1))) o (.inr (4, [.ref oc, .int (nI n1), .int tl1, .int omk])) ∧ (Rep (orderL dn kk A) n1 tl1 f1))) (gv_up (gv_up (gv_up V pl (.inl (cI, 80, .inl pf1))) oc (.inl (cI, 486, .inl f1))) o (.inr (4, [.ref oc, .int (nI n1), .int tl1, .int omk]))) 0 0 [(4, .int (nI i2)), (0, .ref mo), (1, .ref no), (2, .ref a), (3, .ref o)] 92 [] := by
          intro zn3
          induction zn3 with
          | zero => intro i2 n1 tl1 f1 hlt; exact absurd hlt (Nat.not_lt_zero _)
          | succ zn3 ih92 =>
            intro i2 n1 tl1 f1 hlt92  hi2 hr1
            have hn1 := hr1.le
            refine k_iload C dX1_makeOrder_92 0 rfl ?_
            refine k_aload_n C dX1_makeOrder_94 rfl 3 rfl ?_
            have ne4 : nq a oc := gv_ne h_oc h_a (by simp)
            refine k_get (ci := 4) (k := 1) C fl_1_186 ((gv_up_n (Ne.symm hoa)).trans ((gv_up_n ne4).trans ((gv_up_n ne2).trans h_a))) rfl dX1_makeOrder_95 ?_
            refine k_icmp_ge (tgt := 119) C dX1_makeOrder_98 (by decide) (fun c98 => ?_) (fun c98 => ?_)
            · skip
              have b98 : n ≤ i2 := (nI_leI (a := n) (b := i2) (by omega) (by omega)).mp c98
              exact k_vret C zr zlk ⟨n1, tl1, f1, pf1, rfl, rfl, by rw [order_fin hA1 (show i = n by omega) hO (show n ≤ i2 by omega)] at hr1; exact hr1⟩ (Nat.le_refl _) (Nat.le_refl _) dX1_makeOrder_119
            · skip
              have b98 : ¬ n ≤ i2 := fun z => c98 ((nI_leI (a := n) (b := i2) (by omega) (by omega)).mpr z)
              refine k_aload_n C dX1_makeOrder_101 rfl 4 rfl ?_
              refine k_aload_n C dX1_makeOrder_102 rfl 3 rfl ?_
              refine k_aload_n C dX1_makeOrder_103 rfl 1 rfl ?_
              have ne5 : nq mo pl := gv_ne h_pl h_mo (by simp)
              have ne6 : nq mo oc := gv_ne h_oc h_mo (by simp)
              have ne7 : nq mo o := gv_ne h_o h_mo (by simp)
              refine k_get (ci := 1) (k := 6) C fl_1_45 ((gv_up_n ne7).trans ((gv_up_n ne6).trans ((gv_up_n ne5).trans h_mo))) rfl dX1_makeOrder_104 ?_
              refine k_iload C dX1_makeOrder_107 0 rfl ?_
              have ne8 : nq pl oc := gv_ne h_oc h_pl (by simp)
              have ne9 : nq pl o := gv_ne h_o h_pl (by simp)
              refine k_iald (v := pf1 i2) C 0 ((gv_up_n ne9).trans ((gv_up_n ne8).trans gv_up_s)) rfl (vp_in_nI (by omega) (by omega)) (by rw [nI_clamp (by omega)]) dX1_makeOrder_109 ?_
              refine k_val (y := nI (plA L i2)) (hpl i2 (by omega)) ?_
              have ne10 : nq oc o := gv_ne h_o h_oc (by simp)
              have ne11 : nq c pl := gv_ne h_pl h_c (by simp)
              have ne12 : nq c o := gv_ne h_o h_c (by simp)
              refine k_callV_pv C mv_1_206 (c_X4_addRow  gv_up_s ((gv_up_n ne10).trans gv_up_s) ((gv_up_n (Ne.symm hoa)).trans ((gv_up_n ne4).trans ((gv_up_n ne2).trans h_a))) ((gv_up_n ne12).trans ((gv_up_n (Ne.symm hca)).trans ((gv_up_n ne11).trans h_c))) (by first | assumption | omega) (by have := hO.at (q := i2) (by omega); omega) hca) gv_up_s rfl rfl (by simp [Value.category]) ⟨by decide, by decide⟩ ⟨(by decide), (by decide)⟩ dX1_makeOrder_110 ?_
              refine k_view (V1 := gv_up (gv_up (gv_up (gv_up V pl (.inl (cI, 80, .inl pf1))) oc (.inl (cI, 486, .inl (wrk f1 n1 (prj (nI 63) (rwf f (plA L i2))) 6)))) o (.inr (4, [.ref oc, .int (nI n1), .int tl1, .int omk]))) o (.inr (4, [.ref oc, .int (nI (if n1 = 80 then 80 else n1 + 1)), .int (if n1 = 80 then 1 else tl1), .int omk]))) (congrArg (fun W => gv_up W o (.inr (4, [.ref oc, .int (nI (if n1 = 80 then 80 else n1 + 1)), .int (if n1 = 80 then 1 else tl1), .int omk]))) ((gv_uc ne10).trans (congrArg (fun W => gv_up W o (.inr (4, [.ref oc, .int (nI n1), .int tl1, .int omk]))) gv_uu))) ?_
              refine k_view (V1 := gv_up (gv_up (gv_up V pl (.inl (cI, 80, .inl pf1))) oc (.inl (cI, 486, .inl (wrk f1 n1 (prj (nI 63) (rwf f (plA L i2))) 6)))) o (.inr (4, [.ref oc, .int (nI (if n1 = 80 then 80 else n1 + 1)), .int (if n1 = 80 then 1 else tl1), .int omk]))) gv_uu ?_
              refine k_iinc (v := nI (i2 + 1)) (lv' := [(4, .int (nI (i2 + 1))), (0, .ref mo), (1, .ref no), (2, .ref a), (3, .ref o)]) C dX1_makeOrder_113 (k := 0) rfl (nI_add i2 1) (by decide) rfl ?_
              refine k_goto (tgt := 92) C dX1_makeOrder_116 (by decide) ?_
              exact ih92 (i2 + 1) (if n1 = 80 then 80 else n1 + 1) (if n1 = 80 then 1 else tl1) (wrk f1 n1 (prj (nI 63) (rwf f (plA L i2))) 6) (by omega)  (by omega) (by rw [idx_s (by rw [hO.len]; omega), List.map_append]; exact hr1.add (eq6_prj (hA.at (by have := hO.at (q := i2) (by omega); omega))))
        have ne13 : nq oc pl := gv_ne h_pl h_oc (by simp)
        refine k_view (V1 := gv_up (gv_up V pl (.inl (cI, 80, .inl pf1))) oc (.inl (cI, 486, .inl of))) (gv_id ((gv_up_n ne13).trans h_oc)).symm ?_
        have ne14 : nq o pl := gv_ne h_pl h_o (by simp)
        have ne15 : nq o oc := gv_ne h_oc h_o (by simp)
        refine k_view (V1 := gv_up (gv_up (gv_up V pl (.inl (cI, 80, .inl pf1))) oc (.inl (cI, 486, .inl of))) o (.inr (4, [.ref oc, .int (nI 0), .int (nI 0), .int omk]))) (gv_id ((gv_up_n ne15).trans ((gv_up_n ne14).trans h_o))).symm ?_
        exact L92 _ 0 0 (nI 0) of (Nat.lt_succ_self _)  (by omega) Rep.nil
      · skip
        have b9 : ¬ n ≤ i := fun z => c9 ((nI_leI (a := n) (b := i) (by omega) (by omega)).mpr z)
        refine k_iload C dX1_makeOrder_12 0 rfl ?_
        refine k_istore (lv' := [(5, .int (nI i)), (4, .int (nI i)), (0, .ref mo), (1, .ref no), (2, .ref a), (3, .ref o)]) C dX1_makeOrder_14 (by decide) rfl ?_
        have L16 : ∀ (zn16 : Nat) (p : Nat) (pf2 : Nat → Int32), p < zn16 → (p ≤ i) → (∀ q, q < p → pf2 q = nI (plA L q)) → (∀ q, p ≤ q → q < i → pf2 (q + 1) = nI (plA L q)) → (∀ q, p ≤ q → q < i → gbf dn (kk (rowAt A i)) (kk (rowAt A (plA L q))) = true) → K zp zl ze (gv_rm 3 0 0) zs zm zargs zbelow zmeth zc D base 6 (gv_E D [(cI, .int), (cN, .object "AlgebraTree$Node"), (cR, .object "AlgebraTree$Rows")] base zbelow zargs zs 0 0 (fun zv zV => ∃ n1 : Nat, ∃ tl1 : Int32, ∃ f1 : Nat → Int32, ∃ pf1 : Nat → Int32, zv = none ∧ zV = gv_up (gv_up (gv_up V pl (.inl (cI, 80, .inl pf1))) oc (.inl (cI, 486, .inl f1))) o (.inr (4, [.ref oc, .int (nI n1), .int tl1, .int omk])) ∧ (Rep (orderL dn kk A) n1 tl1 f1))) (gv_up V pl (.inl (cI, 80, .inl pf2))) 0 0 [(5, .int (nI p)), (4, .int (nI i)), (0, .ref mo), (1, .ref no), (2, .ref a), (3, .ref o)] 16 [] := by
          intro zn16
          induction zn16 with
          | zero => intro p pf2 hlt; exact absurd hlt (Nat.not_lt_zero _)
          | succ zn16 ih16 =>
            intro p pf2 hlt16  hp hp1 hp2 hp3
            refine k_iload C dX1_makeOrder_16 0 rfl ?_
            refine k_if_le (tgt := 74) C dX1_makeOrder_18 (by decide) (fun c18 => ?_) (fun c18 => ?_)
            · skip
              have b18 : p ≤ 0 := (nI_leI (a := p) (b := 0) (by omega) (by omega)).mp c18
              refine k_aload_n C dX1_makeOrder_74 rfl 2 rfl ?_
              have ne17 : nq mo pl := gv_ne h_pl h_mo (by simp)
              refine k_get (ci := 1) (k := 6) C fl_1_45 ((gv_up_n ne17).trans h_mo) rfl dX1_makeOrder_75 ?_
              refine k_iload C dX1_makeOrder_78 0 rfl ?_
              refine k_iload C dX1_makeOrder_80 1 rfl ?_
              refine k_iast (f' := upd pf2 p (nI i)) C 0 gv_up_s rfl (vp_in_nI (by omega) (by omega)) (by rw [nI_clamp (by omega)]) dX1_makeOrder_82 ?_
              refine k_view (V1 := gv_up V pl (.inl (cI, 80, .inl (upd pf2 p (nI i))))) gv_uu ?_
              refine k_iinc (v := nI (i + 1)) (lv' := [(4, .int (nI (i + 1))), (5, .int (nI p)), (0, .ref mo), (1, .ref no), (2, .ref a), (3, .ref o)]) C dX1_makeOrder_83 (k := 1) rfl (nI_add i 1) (by decide) rfl ?_
              refine k_goto (tgt := 3) C dX1_makeOrder_86 (by decide) ?_
              refine k_sub [0, 2, 3, 4, 5] (lv' := [(4, .int (nI (i + 1))), (0, .ref mo), (1, .ref no), (2, .ref a), (3, .ref o)]) rfl ?_
              exact ih3 (i + 1) (insA L p i) (upd pf2 p (nI i)) (by omega)  (by omega) (hO.ins (by omega) hp3 (by first | exact Or.inl (by omega) | (refine Or.inr ?_; rw [hkf i (by omega), hkf (plA L (p - 1)) (by omega)] at b49; exact b49))) (fun q hq => by
                rcases Nat.lt_trichotomy q p with h | h | h
                · rw [plA_lo (by rw [hO.len]; omega) h]; simp only [upd]; rw [if_neg (by omega)]; exact hp1 q h
                · subst h; rw [plA_eq (by rw [hO.len]; omega)]; simp [upd]
                · obtain ⟨q2, rfl⟩ : ∃ q2, q = q2 + 1 := ⟨q - 1, by omega⟩
                  rw [plA_hi (by rw [hO.len]; omega) (by omega)]; simp only [upd]; rw [if_neg (by omega)]; exact hp2 q2 (by omega) (by omega))
            · skip
              have b18 : ¬ p ≤ 0 := fun z => c18 ((nI_leI (a := p) (b := 0) (by omega) (by omega)).mpr z)
              have hpl1 := hp1 (p - 1) (by omega)
              have hpp1 := hO.at (q := p - 1) (by omega)
              refine k_aload_n C dX1_makeOrder_21 rfl 2 rfl ?_
              have ne18 : nq mo pl := gv_ne h_pl h_mo (by simp)
              refine k_get (ci := 1) (k := 5) C fl_1_42 ((gv_up_n ne18).trans h_mo) rfl dX1_makeOrder_22 ?_
              refine k_iload C dX1_makeOrder_25 1 rfl ?_
              refine k_iald (v := kf i) C 0 ((gv_up_n hky).trans h_ky) rfl (vp_in_nI (by omega) (by omega)) (by rw [nI_clamp (by omega)]) dX1_makeOrder_27 ?_
              refine k_aload_n C dX1_makeOrder_28 rfl 2 rfl ?_
              refine k_get (ci := 1) (k := 5) C fl_1_42 ((gv_up_n ne18).trans h_mo) rfl dX1_makeOrder_29 ?_
              refine k_aload_n C dX1_makeOrder_32 rfl 2 rfl ?_
              refine k_get (ci := 1) (k := 6) C fl_1_45 ((gv_up_n ne18).trans h_mo) rfl dX1_makeOrder_33 ?_
              refine k_iload C dX1_makeOrder_36 0 rfl ?_
              refine k_iconst (v := nI 1) C dX1_makeOrder_38 rfl ?_
              refine k_isub C dX1_makeOrder_39 ?_
              refine k_val (y := nI (p - 1)) (by rw [pk_sub (by omega)]) ?_
              refine k_iald (v := pf2 (p - 1)) C 0 gv_up_s rfl (vp_in_nI (by omega) (by omega)) (by rw [nI_clamp (by omega)]) dX1_makeOrder_40 ?_
              refine k_val (y := nI (plA L (p - 1))) hpl1 ?_
              refine k_iald (v := kf (plA L (p - 1))) C 0 ((gv_up_n hky).trans h_ky) rfl (vp_in_nI (by omega) (by omega)) (by rw [nI_clamp (by omega)]) dX1_makeOrder_41 ?_
              refine k_aload_n C dX1_makeOrder_42 rfl 3 rfl ?_
              have ne19 : nq no pl := gv_ne h_pl h_no (by simp)
              refine k_get (ci := 2) (k := 11) C fl_1_234 ((gv_up_n ne19).trans h_no) rfl dX1_makeOrder_43 ?_
              refine k_callS_pi C ms_1_237 (c_X1_goesBefore   ) rfl rfl (by simp [Value.category]) ⟨by decide, by decide⟩ ⟨(by decide), (by decide)⟩ dX1_makeOrder_46 ?_
              refine k_if_eq (tgt := 74) C dX1_makeOrder_49 (by decide) (fun c49 => ?_) (fun c49 => ?_)
              · skip
                have b49 : (gbf dn (kf i) (kf (plA L (p - 1)))) = false := bI_0.mp c49
                refine k_aload_n C dX1_makeOrder_74 rfl 2 rfl ?_
                refine k_get (ci := 1) (k := 6) C fl_1_45 ((gv_up_n ne18).trans h_mo) rfl dX1_makeOrder_75 ?_
                refine k_iload C dX1_makeOrder_78 0 rfl ?_
                refine k_iload C dX1_makeOrder_80 1 rfl ?_
                refine k_iast (f' := upd pf2 p (nI i)) C 0 gv_up_s rfl (vp_in_nI (by omega) (by omega)) (by rw [nI_clamp (by omega)]) dX1_makeOrder_82 ?_
                refine k_view (V1 := gv_up V pl (.inl (cI, 80, .inl (upd pf2 p (nI i))))) gv_uu ?_
                refine k_iinc (v := nI (i + 1)) (lv' := [(4, .int (nI (i + 1))), (5, .int (nI p)), (0, .ref mo), (1, .ref no), (2, .ref a), (3, .ref o)]) C dX1_makeOrder_83 (k := 1) rfl (nI_add i 1) (by decide) rfl ?_
                refine k_goto (tgt := 3) C dX1_makeOrder_86 (by decide) ?_
                refine k_sub [0, 2, 3, 4, 5] (lv' := [(4, .int (nI (i + 1))), (0, .ref mo), (1, .ref no), (2, .ref a), (3, .ref o)]) rfl ?_
                exact ih3 (i + 1) (insA L p i) (upd pf2 p (nI i)) (by omega)  (by omega) (hO.ins (by omega) hp3 (by first | exact Or.inl (by omega) | (refine Or.inr ?_; rw [hkf i (by omega), hkf (plA L (p - 1)) (by omega)] at b49; exact b49))) (fun q hq => by
                  rcases Nat.lt_trichotomy q p with h | h | h
                  · rw [plA_lo (by rw [hO.len]; omega) h]; simp only [upd]; rw [if_neg (by omega)]; exact hp1 q h
                  · subst h; rw [plA_eq (by rw [hO.len]; omega)]; simp [upd]
                  · obtain ⟨q2, rfl⟩ : ∃ q2, q = q2 + 1 := ⟨q - 1, by omega⟩
                    rw [plA_hi (by rw [hO.len]; omega) (by omega)]; simp only [upd]; rw [if_neg (by omega)]; exact hp2 q2 (by omega) (by omega))
              · skip
                have b49 : (gbf dn (kf i) (kf (plA L (p - 1)))) = true := bI_n.mp c49
                refine k_aload_n C dX1_makeOrder_52 rfl 2 rfl ?_
                refine k_get (ci := 1) (k := 6) C fl_1_45 ((gv_up_n ne18).trans h_mo) rfl dX1_makeOrder_53 ?_
                refine k_iload C dX1_makeOrder_56 0 rfl ?_
                refine k_aload_n C dX1_makeOrder_58 rfl 2 rfl ?_
                refine k_get (ci := 1) (k := 6) C fl_1_45 ((gv_up_n ne18).trans h_mo) rfl dX1_makeOrder_59 ?_
                refine k_iload C dX1_makeOrder_62 0 rfl ?_
                refine k_iconst (v := nI 1) C dX1_makeOrder_64 rfl ?_
                refine k_isub C dX1_makeOrder_65 ?_
                refine k_val (y := nI (p - 1)) (by rw [pk_sub (by omega)]) ?_
                refine k_iald (v := pf2 (p - 1)) C 0 gv_up_s rfl (vp_in_nI (by omega) (by omega)) (by rw [nI_clamp (by omega)]) dX1_makeOrder_66 ?_
                refine k_val (y := nI (plA L (p - 1))) hpl1 ?_
                refine k_iast (f' := upd pf2 p (nI (plA L (p - 1)))) C 0 gv_up_s rfl (vp_in_nI (by omega) (by omega)) (by rw [nI_clamp (by omega)]) dX1_makeOrder_67 ?_
                refine k_view (V1 := gv_up V pl (.inl (cI, 80, .inl (upd pf2 p (nI (plA L (p - 1))))))) gv_uu ?_
                refine k_iinc (v := nI (p - 1)) (lv' := [(5, .int (nI (p - 1))), (4, .int (nI i)), (0, .ref mo), (1, .ref no), (2, .ref a), (3, .ref o)]) C dX1_makeOrder_68 (k := 0) rfl (by rw [show (Int32.ofInt (-1)) = -1 from rfl]; exact sb_m1 (by omega)) (by decide) rfl ?_
                refine k_goto (tgt := 16) C dX1_makeOrder_71 (by decide) ?_
                exact ih16 (p - 1) (upd pf2 p (nI (plA L (p - 1)))) (by omega)  (by omega) (fun q hq => by simp only [upd]; rw [if_neg (by omega)]; exact hp1 q (by omega)) (fun q h1 h2 => by
                  by_cases h : q + 1 = p
                  · simp only [upd]; rw [if_pos h, show p - 1 = q by omega]
                  · simp only [upd]; rw [if_neg h]; exact hp2 q (by omega) h2) (fun q h1 h2 => by
                  by_cases h : q + 1 = p
                  · rw [hkf i (by omega), hkf (plA L (p - 1)) (by omega)] at b49; rw [show q = p - 1 by omega]; exact b49
                  · exact hp3 q (by omega) h2)
        exact L16 _ i pf1 (Nat.lt_succ_self _)  (by omega) hpl (fun q h1 h2 => by omega) (fun q h1 h2 => by omega)
  refine k_view (V1 := gv_up V pl (.inl (cI, 80, .inl pf))) (gv_id h_pl).symm ?_
  exact L3 _ 0 ([]) pf (Nat.lt_succ_self _)  (by omega) Ord.zero (fun _ h => absurd h (Nat.not_lt_zero _))
set_option maxHeartbeats 4000000 in
set_option maxRecDepth 100000 in
theorem c_X1_aggregate {zl : Launch} {D : va_G} {cI cN cR : ClassId} {base : Nat} {V : gv_V} {mo tr nd tb wg ky pl : Nat} {xe : Nat} {no : Nat} {kind na nb ps pp po ex va st fr ln dn ag gr : Int32} {a c n : Nat} {tl mk : Int32} {f : Nat → Int32} {o oc n1 : Nat} {tl1 omk : Int32} {f1 : Nat → Int32} {kf : Nat → Int32} {g0 : Nat}  (h_mo : V mo = some (.inr (1, [.ref tr, .ref xe, .ref nd, .ref tb, .ref wg, .ref ky, .ref pl]))) (h_no : V no = some (.inr (2, [.int kind, .int na, .int nb, .int ps, .int pp, .int po, .int ex, .int va, .int st, .int fr, .int ln, .int dn, .int ag, .int gr]))) (h_a : V a = some (.inr (4, [.ref c, .int (nI n), .int tl, .int mk]))) (h_c : V c = some (.inl (cI, 486, .inl f))) (h_o : V o = some (.inr (4, [.ref oc, .int (nI n1), .int tl1, .int omk]))) (h_oc : V oc = some (.inl (cI, 486, .inl f1))) (h_ky : V ky = some (.inl (cI, 80, .inl kf))) (hn : n ≤ 80) (hg : g0 < n1) (hn1 : n1 ≤ 80) : ct zl D [(cI, .int), (cN, .object "AlgebraTree$Node"), (cR, .object "AlgebraTree$Rows")] base yX1_aggregate cX1_aggregate 12 (some .int) 2 0 0 [.ref mo, .ref no, .ref a, .ref o, .int (nI g0)] V (pi (agR ag (agF (fun z => lik st (rwf f1 g0) (rwf f z)) kf n)) V) := by
  refine ct_of "AlgebraTree$Maker" rfl (by decide) (Nat.le_of_ble_eq_true rfl) ?_
  intro zp ze zs zm zargs zbelow zmeth zc C zr zlk znm
  refine k_pc (pc' := 0) (st' := []) rfl rfl ?_
  show K zp zl ze (gv_rm 2 0 0) zs zm zargs zbelow zmeth zc D base 12 (gv_E D [(cI, .int), (cN, .object "AlgebraTree$Node"), (cR, .object "AlgebraTree$Rows")] base zbelow zargs zs 0 0 (pi (agR ag (agF (fun z => lik st (rwf f1 g0) (rwf f z)) kf n)) V)) V 0 0 [(0, .ref mo), (1, .ref no), (2, .ref a), (3, .ref o), (4, .int (nI g0))] 0 []
  refine k_iconst (v := nI 0) C dX1_aggregate_0 rfl ?_
  refine k_istore (lv' := [(5, .int (nI 0)), (0, .ref mo), (1, .ref no), (2, .ref a), (3, .ref o), (4, .int (nI g0))]) C dX1_aggregate_1 (by decide) rfl ?_
  refine k_iconst (v := nI 0) C dX1_aggregate_3 rfl ?_
  refine k_istore (lv' := [(6, .int (nI 0)), (5, .int (nI 0)), (0, .ref mo), (1, .ref no), (2, .ref a), (3, .ref o), (4, .int (nI g0))]) C dX1_aggregate_4 (by decide) rfl ?_
  refine k_lconst (v := 0) C dX1_aggregate_6 rfl ?_
  refine k_lstore (lv' := [(7, .long (0 : Int64)), (6, .int (nI 0)), (5, .int (nI 0)), (0, .ref mo), (1, .ref no), (2, .ref a), (3, .ref o), (4, .int (nI g0))]) C dX1_aggregate_7 (by decide) rfl ?_
  refine k_ldc (v := (1000000000)) C wd_541 dX1_aggregate_9 ?_
  refine k_istore (lv' := [(9, .int (1000000000 : Int32)), (7, .long (0 : Int64)), (6, .int (nI 0)), (5, .int (nI 0)), (0, .ref mo), (1, .ref no), (2, .ref a), (3, .ref o), (4, .int (nI g0))]) C dX1_aggregate_11 (by decide) rfl ?_
  refine k_ldc (v := (-1000000000)) C wd_542 dX1_aggregate_13 ?_
  refine k_istore (lv' := [(10, .int (-1000000000 : Int32)), (9, .int (1000000000 : Int32)), (7, .long (0 : Int64)), (6, .int (nI 0)), (5, .int (nI 0)), (0, .ref mo), (1, .ref no), (2, .ref a), (3, .ref o), (4, .int (nI g0))]) C dX1_aggregate_15 (by decide) rfl ?_
  refine k_iconst (v := nI 0) C dX1_aggregate_17 rfl ?_
  refine k_istore (lv' := [(11, .int (nI 0)), (10, .int (-1000000000 : Int32)), (9, .int (1000000000 : Int32)), (7, .long (0 : Int64)), (6, .int (nI 0)), (5, .int (nI 0)), (0, .ref mo), (1, .ref no), (2, .ref a), (3, .ref o), (4, .int (nI g0))]) C dX1_aggregate_18 (by decide) rfl ?_
  have L20 : ∀ (zn1 : Nat) (k : Nat) (ze1 : Nat) (zc1 : Nat) (zs1 : Int64) (zl1 : Int32) (zg1 : Int32), n - k < zn1 → (k ≤ n) → ((ze1, zc1, zs1, zl1, zg1) = agF (fun z => lik st (rwf f1 g0) (rwf f z)) kf k) → (ze1 + zc1 ≤ k) → K zp zl ze (gv_rm 2 0 0) zs zm zargs zbelow zmeth zc D base 12 (gv_E D [(cI, .int), (cN, .object "AlgebraTree$Node"), (cR, .object "AlgebraTree$Rows")] base zbelow zargs zs 0 0 (pi (agR ag (agF (fun z => lik st (rwf f1 g0) (rwf f z)) kf n)) V)) V 0 0 [(11, .int (nI k)), (10, .int zg1), (9, .int zl1), (7, .long zs1), (6, .int (nI zc1)), (5, .int (nI ze1)), (0, .ref mo), (1, .ref no), (2, .ref a), (3, .ref o), (4, .int (nI g0))] 20 [] := by
    intro zn1
    induction zn1 with
    | zero => intro k ze1 zc1 zs1 zl1 zg1 hlt; exact absurd hlt (Nat.not_lt_zero _)
    | succ zn1 ih20 =>
      intro k ze1 zc1 zs1 zl1 zg1 hlt20  hk hS hle
      refine k_iload C dX1_aggregate_20 0 rfl ?_
      refine k_aload_n C dX1_aggregate_22 rfl 8 rfl ?_
      refine k_get (ci := 4) (k := 1) C fl_1_186 h_a rfl dX1_aggregate_23 ?_
      refine k_icmp_ge (tgt := 116) C dX1_aggregate_26 (by decide) (fun c26 => ?_) (fun c26 => ?_)
      · skip
        have b26 : n ≤ k := (nI_leI (a := n) (b := k) (by omega) (by omega)).mp c26
        refine k_aload_n C dX1_aggregate_116 rfl 7 rfl ?_
        refine k_get (ci := 2) (k := 12) C fl_1_265 h_no rfl dX1_aggregate_117 ?_
        refine k_if_ne (tgt := 126) C dX1_aggregate_120 (by decide) (fun c120 => ?_) (fun c120 => ?_)
        · skip
          refine k_iload C dX1_aggregate_126 5 rfl ?_
          refine k_if_le (tgt := 134) C dX1_aggregate_128 (by decide) (fun c128 => ?_) (fun c128 => ?_)
          · skip
            have b128 : ze1 ≤ 0 := (nI_leI (a := ze1) (b := 0) (by omega) (by omega)).mp c128
            refine k_aload_n C dX1_aggregate_134 rfl 7 rfl ?_
            refine k_get (ci := 2) (k := 12) C fl_1_265 h_no rfl dX1_aggregate_135 ?_
            refine k_iconst (v := nI 1) C dX1_aggregate_138 rfl ?_
            refine k_icmp_ne (tgt := 148) C dX1_aggregate_139 (by decide) (fun c139 => ?_) (fun c139 => ?_)
            · skip
              refine k_iload C dX1_aggregate_148 4 rfl ?_
              refine k_if_ne (tgt := 156) C dX1_aggregate_150 (by decide) (fun c150 => ?_) (fun c150 => ?_)
              · skip
                have b150 : ¬ zc1 = 0 := fun z => c150 ((nI_eq (a := zc1) (b := 0) (by omega) (by omega)).mpr z)
                refine k_aload_n C dX1_aggregate_156 rfl 7 rfl ?_
                refine k_get (ci := 2) (k := 12) C fl_1_265 h_no rfl dX1_aggregate_157 ?_
                refine k_iconst (v := nI 2) C dX1_aggregate_160 rfl ?_
                refine k_icmp_ne (tgt := 169) C dX1_aggregate_161 (by decide) (fun c161 => ?_) (fun c161 => ?_)
                · skip
                  refine k_iload C dX1_aggregate_169 1 rfl ?_
                  exact k_iret C zr zlk (pi_of (by rw [show n = k by omega, ← hS]; unfold agR; simp_all) rfl) (Nat.le_refl _) (Nat.le_refl _) dX1_aggregate_171
                · skip
                  refine k_iload C dX1_aggregate_164 2 rfl ?_
                  refine k_goto (tgt := 171) C dX1_aggregate_166 (by decide) ?_
                  exact k_iret C zr zlk (pi_of (by rw [show n = k by omega, ← hS]; unfold agR; simp_all) rfl) (Nat.le_refl _) (Nat.le_refl _) dX1_aggregate_171
              · skip
                have b150 : zc1 = 0 := (nI_eq (a := zc1) (b := 0) (by omega) (by omega)).mp c150
                refine k_ldc (v := (-2147483648)) C wd_544 dX1_aggregate_153 ?_
                exact k_iret C zr zlk (pi_of (by rw [show n = k by omega, ← hS]; unfold agR; simp_all) rfl) (Nat.le_refl _) (Nat.le_refl _) dX1_aggregate_155
            · skip
              refine k_lload C dX1_aggregate_142 3 rfl ?_
              refine k_callS_pi C ms_1_267 (c_X6_valueOrError   ) rfl rfl (by simp [Value.category]) ⟨by decide, by decide⟩ ⟨(by decide), (by decide)⟩ dX1_aggregate_144 ?_
              exact k_iret C zr zlk (pi_of (by rw [show n = k by omega, ← hS]; unfold agR; simp_all) rfl) (Nat.le_refl _) (Nat.le_refl _) dX1_aggregate_147
          · skip
            have b128 : ¬ ze1 ≤ 0 := fun z => c128 ((nI_leI (a := ze1) (b := 0) (by omega) (by omega)).mpr z)
            refine k_ldc (v := (-2147483648)) C wd_544 dX1_aggregate_131 ?_
            exact k_iret C zr zlk (pi_of (by rw [show n = k by omega, ← hS]; unfold agR; simp_all) rfl) (Nat.le_refl _) (Nat.le_refl _) dX1_aggregate_133
        · skip
          refine k_iload C dX1_aggregate_123 4 rfl ?_
          exact k_iret C zr zlk (pi_of (by rw [show n = k by omega, ← hS]; unfold agR; simp_all) rfl) (Nat.le_refl _) (Nat.le_refl _) dX1_aggregate_125
      · skip
        have b26 : ¬ n ≤ k := fun z => c26 ((nI_leI (a := n) (b := k) (by omega) (by omega)).mpr z)
        refine k_aload_n C dX1_aggregate_29 rfl 9 rfl ?_
        refine k_iload C dX1_aggregate_30 10 rfl ?_
        refine k_aload_n C dX1_aggregate_32 rfl 8 rfl ?_
        refine k_iload C dX1_aggregate_33 0 rfl ?_
        refine k_aload_n C dX1_aggregate_35 rfl 7 rfl ?_
        refine k_get (ci := 2) (k := 8) C fl_1_135 h_no rfl dX1_aggregate_36 ?_
        refine k_callV_pi C mv_1_251 (c_X4_isLike  h_o h_oc h_a h_c (by first | assumption | omega) (by first | assumption | omega)) h_o rfl rfl (by simp [Value.category]) ⟨by decide, by decide⟩ ⟨(by decide), (by decide)⟩ dX1_aggregate_39 ?_
        refine k_if_ne (tgt := 48) C dX1_aggregate_42 (by decide) (fun c42 => ?_) (fun c42 => ?_)
        · skip
          have b42 : (lik st (rwf f1 g0) (rwf f k)) = true := bI_n.mp c42
          refine k_aload_n C dX1_aggregate_48 rfl 6 rfl ?_
          refine k_get (ci := 1) (k := 5) C fl_1_42 h_mo rfl dX1_aggregate_49 ?_
          refine k_iload C dX1_aggregate_52 0 rfl ?_
          refine k_iald (v := kf k) C 0 h_ky rfl (vp_in_nI (by omega) (by omega)) (by rw [nI_clamp (by omega)]) dX1_aggregate_54 ?_
          refine k_ldc (v := (-2147483648)) C wd_544 dX1_aggregate_55 ?_
          refine k_icmp_ne (tgt := 66) C dX1_aggregate_57 (by decide) (fun c57 => ?_) (fun c57 => ?_)
          · skip
            refine k_iinc (v := nI (zc1 + 1)) (lv' := [(6, .int (nI (zc1 + 1))), (11, .int (nI k)), (10, .int zg1), (9, .int zl1), (7, .long zs1), (5, .int (nI ze1)), (0, .ref mo), (1, .ref no), (2, .ref a), (3, .ref o), (4, .int (nI g0))]) C dX1_aggregate_66 (k := 4) rfl (nI_add zc1 1) (by decide) rfl ?_
            refine k_lload C dX1_aggregate_69 4 rfl ?_
            refine k_aload_n C dX1_aggregate_71 rfl 6 rfl ?_
            refine k_get (ci := 1) (k := 5) C fl_1_42 h_mo rfl dX1_aggregate_72 ?_
            refine k_iload C dX1_aggregate_75 1 rfl ?_
            refine k_iald (v := kf k) C 0 h_ky rfl (vp_in_nI (by omega) (by omega)) (by rw [nI_clamp (by omega)]) dX1_aggregate_77 ?_
            refine k_i2l C dX1_aggregate_78 rfl ?_
            refine k_ladd C dX1_aggregate_79 ?_
            refine k_lstore (lv' := [(7, .long (zs1 + ((kf k).toInt64))), (6, .int (nI (zc1 + 1))), (11, .int (nI k)), (10, .int zg1), (9, .int zl1), (5, .int (nI ze1)), (0, .ref mo), (1, .ref no), (2, .ref a), (3, .ref o), (4, .int (nI g0))]) C dX1_aggregate_80 (by decide) rfl ?_
            refine k_iload C dX1_aggregate_82 4 rfl ?_
            refine k_aload_n C dX1_aggregate_84 rfl 6 rfl ?_
            refine k_get (ci := 1) (k := 5) C fl_1_42 h_mo rfl dX1_aggregate_85 ?_
            refine k_iload C dX1_aggregate_88 2 rfl ?_
            refine k_iald (v := kf k) C 0 h_ky rfl (vp_in_nI (by omega) (by omega)) (by rw [nI_clamp (by omega)]) dX1_aggregate_90 ?_
            refine k_mmin C wd_545 wd_546 wd_53 wd_547 (by decide) (by decide) (by decide) (by decide) dX1_aggregate_91 ?_
            refine k_istore (lv' := [(9, .int (if (kf k) < zl1 then (kf k) else zl1)), (7, .long (zs1 + ((kf k).toInt64))), (6, .int (nI (zc1 + 1))), (11, .int (nI k)), (10, .int zg1), (5, .int (nI ze1)), (0, .ref mo), (1, .ref no), (2, .ref a), (3, .ref o), (4, .int (nI g0))]) C dX1_aggregate_94 (by decide) rfl ?_
            refine k_iload C dX1_aggregate_96 4 rfl ?_
            refine k_aload_n C dX1_aggregate_98 rfl 6 rfl ?_
            refine k_get (ci := 1) (k := 5) C fl_1_42 h_mo rfl dX1_aggregate_99 ?_
            refine k_iload C dX1_aggregate_102 3 rfl ?_
            refine k_iald (v := kf k) C 0 h_ky rfl (vp_in_nI (by omega) (by omega)) (by rw [nI_clamp (by omega)]) dX1_aggregate_104 ?_
            refine k_mmax C wd_548 wd_549 wd_53 wd_550 (by decide) (by decide) (by decide) (by decide) dX1_aggregate_105 ?_
            refine k_istore (lv' := [(10, .int (if zg1 < (kf k) then (kf k) else zg1)), (9, .int (if (kf k) < zl1 then (kf k) else zl1)), (7, .long (zs1 + ((kf k).toInt64))), (6, .int (nI (zc1 + 1))), (11, .int (nI k)), (5, .int (nI ze1)), (0, .ref mo), (1, .ref no), (2, .ref a), (3, .ref o), (4, .int (nI g0))]) C dX1_aggregate_108 (by decide) rfl ?_
            refine k_iinc (v := nI (k + 1)) (lv' := [(11, .int (nI (k + 1))), (10, .int (if zg1 < (kf k) then (kf k) else zg1)), (9, .int (if (kf k) < zl1 then (kf k) else zl1)), (7, .long (zs1 + ((kf k).toInt64))), (6, .int (nI (zc1 + 1))), (5, .int (nI ze1)), (0, .ref mo), (1, .ref no), (2, .ref a), (3, .ref o), (4, .int (nI g0))]) C dX1_aggregate_110 (k := 4) rfl (nI_add k 1) (by decide) rfl ?_
            refine k_goto (tgt := 20) C dX1_aggregate_113 (by decide) ?_
            exact ih20 (k + 1) ze1 (zc1 + 1) (zs1 + ((kf k).toInt64)) (if (kf k) < zl1 then (kf k) else zl1) (if zg1 < (kf k) then (kf k) else zg1) (by omega)  (by omega) (by simp only [agF]; rw [if_pos b42, ← hS]; unfold agN; rw [if_neg c57]) (by omega)
          · skip
            refine k_iinc (v := nI (ze1 + 1)) (lv' := [(5, .int (nI (ze1 + 1))), (11, .int (nI k)), (10, .int zg1), (9, .int zl1), (7, .long zs1), (6, .int (nI zc1)), (0, .ref mo), (1, .ref no), (2, .ref a), (3, .ref o), (4, .int (nI g0))]) C dX1_aggregate_60 (k := 5) rfl (nI_add ze1 1) (by decide) rfl ?_
            refine k_goto (tgt := 110) C dX1_aggregate_63 (by decide) ?_
            refine k_iinc (v := nI (k + 1)) (lv' := [(11, .int (nI (k + 1))), (5, .int (nI (ze1 + 1))), (10, .int zg1), (9, .int zl1), (7, .long zs1), (6, .int (nI zc1)), (0, .ref mo), (1, .ref no), (2, .ref a), (3, .ref o), (4, .int (nI g0))]) C dX1_aggregate_110 (k := 1) rfl (nI_add k 1) (by decide) rfl ?_
            refine k_goto (tgt := 20) C dX1_aggregate_113 (by decide) ?_
            refine k_sub [0, 2, 3, 4, 5, 1, 6, 7, 8, 9, 10] (lv' := [(11, .int (nI (k + 1))), (10, .int zg1), (9, .int zl1), (7, .long zs1), (6, .int (nI zc1)), (5, .int (nI (ze1 + 1))), (0, .ref mo), (1, .ref no), (2, .ref a), (3, .ref o), (4, .int (nI g0))]) rfl ?_
            exact ih20 (k + 1) (ze1 + 1) zc1 zs1 zl1 zg1 (by omega)  (by omega) (by simp only [agF]; rw [if_pos b42, ← hS]; unfold agN; rw [if_pos c57]) (by omega)
        · skip
          have b42 : (lik st (rwf f1 g0) (rwf f k)) = false := bI_0.mp c42
          refine k_goto (tgt := 110) C dX1_aggregate_45 (by decide) ?_
          refine k_iinc (v := nI (k + 1)) (lv' := [(11, .int (nI (k + 1))), (10, .int zg1), (9, .int zl1), (7, .long zs1), (6, .int (nI zc1)), (5, .int (nI ze1)), (0, .ref mo), (1, .ref no), (2, .ref a), (3, .ref o), (4, .int (nI g0))]) C dX1_aggregate_110 (k := 0) rfl (nI_add k 1) (by decide) rfl ?_
          refine k_goto (tgt := 20) C dX1_aggregate_113 (by decide) ?_
          exact ih20 (k + 1) ze1 zc1 zs1 zl1 zg1 (by omega)  (by omega) (by simp only [agF]; rw [if_neg (by rw [b42]; decide), ← hS]) (by omega)
  exact L20 _ 0 0 0 0 1000000000 (-1000000000) (Nat.lt_succ_self _)  (by omega) rfl (by omega)
set_option maxHeartbeats 4000000 in
set_option maxRecDepth 100000 in
theorem c_X1_makeAggregates {zl : Launch} {D : va_G} {cI cN cR : ClassId} {base : Nat} {V : gv_V} {mo tr nd tb wg ky pl : Nat} {xe vv : Nat} {no : Nat} {kind na nb ps pp po ex st fr ln dn ag gr : Int32} {a c n : Nat} {tl mk : Int32} {f : Nat → Int32} {o oc n1 : Nat} {tl1 omk : Int32} {f1 : Nat → Int32} {kf : Nat → Int32} {A : List Row} {kk : Row → Int32}  (h_mo : V mo = some (.inr (1, [.ref tr, .ref xe, .ref nd, .ref tb, .ref wg, .ref ky, .ref pl]))) (h_no : V no = some (.inr (2, [.int kind, .int na, .int nb, .int ps, .int pp, .int po, .int ex, .int (nI vv), .int st, .int fr, .int ln, .int dn, .int ag, .int gr]))) (h_a : V a = some (.inr (4, [.ref c, .int (nI n), .int tl, .int mk]))) (h_c : V c = some (.inl (cI, 486, .inl f))) (h_o : V o = some (.inr (4, [.ref oc, .int (nI n1), .int tl1, .int omk]))) (h_oc : V oc = some (.inl (cI, 486, .inl f1))) (h_ky : V ky = some (.inl (cI, 80, .inl kf))) (hA : Tab A n f) (hr : Rep (distL st A) n1 tl1 f1) (hkf : ∀ z, z < n → kf z = kk (rowAt A z)) (hvv : vv < 6) (hoa : nq o a) (hca : nq oc c) : ct zl D [(cI, .int), (cN, .object "AlgebraTree$Node"), (cR, .object "AlgebraTree$Rows")] base yX1_makeAggregates cX1_makeAggregates 5 none 3 0 0 [.ref mo, .ref no, .ref a, .ref o] V (fun zv zV => ∃ n2 : Nat, ∃ tl2 : Int32, ∃ f2 : Nat → Int32, zv = none ∧ zV = gv_up (gv_up V oc (.inl (cI, 486, .inl f2))) o (.inr (4, [.ref oc, .int (nI n2), .int tl2, .int omk])) ∧ (Rep (groupL st ag vv kk A) n2 tl2 f2)) := by
  refine ct_of "AlgebraTree$Maker" rfl (by decide) (Nat.le_of_ble_eq_true rfl) ?_
  intro zp ze zs zm zargs zbelow zmeth zc C zr zlk znm
  refine k_pc (pc' := 0) (st' := []) rfl rfl ?_
  show K zp zl ze (gv_rm 3 0 0) zs zm zargs zbelow zmeth zc D base 5 (gv_E D [(cI, .int), (cN, .object "AlgebraTree$Node"), (cR, .object "AlgebraTree$Rows")] base zbelow zargs zs 0 0 (fun zv zV => ∃ n2 : Nat, ∃ tl2 : Int32, ∃ f2 : Nat → Int32, zv = none ∧ zV = gv_up (gv_up V oc (.inl (cI, 486, .inl f2))) o (.inr (4, [.ref oc, .int (nI n2), .int tl2, .int omk])) ∧ (Rep (groupL st ag vv kk A) n2 tl2 f2))) V 0 0 [(0, .ref mo), (1, .ref no), (2, .ref a), (3, .ref o)] 0 []
  have hA1 := hA.1
  have hA2 := hA.2.1
  have hn1 := hr.le
  refine k_aload_n C dX1_makeAggregates_0 rfl 2 rfl ?_
  refine k_get (ci := 4) (k := 1) C fl_1_186 h_a rfl dX1_makeAggregates_1 ?_
  refine k_if_ne (tgt := 22) C dX1_makeAggregates_4 (by decide) (fun c4 => ?_) (fun c4 => ?_)
  · skip
    have b4 : ¬ n = 0 := fun z => c4 ((nI_eq (a := n) (b := 0) (by omega) (by omega)).mpr z)
    refine k_iconst (v := nI 0) C dX1_makeAggregates_22 rfl ?_
    refine k_istore (lv' := [(4, .int (nI 0)), (0, .ref mo), (1, .ref no), (2, .ref a), (3, .ref o)]) C dX1_makeAggregates_23 (by decide) rfl ?_
    have L25 : ∀ (zn1 : Nat) (k : Nat) (m : Nat) (tl2 : Int32) (f2 : Nat → Int32), m - k < zn1 → (k ≤ m) → (Grp vv (aggV st ag kk A) (grp0 st A) k m tl2 f2) → K zp zl ze (gv_rm 3 0 0) zs zm zargs zbelow zmeth zc D base 5 (gv_E D [(cI, .int), (cN, .object "AlgebraTree$Node"), (cR, .object "AlgebraTree$Rows")] base zbelow zargs zs 0 0 (fun zv zV => ∃ n2 : Nat, ∃ tl2 : Int32, ∃ f2 : Nat → Int32, zv = none ∧ zV = gv_up (gv_up V oc (.inl (cI, 486, .inl f2))) o (.inr (4, [.ref oc, .int (nI n2), .int tl2, .int omk])) ∧ (Rep (groupL st ag vv kk A) n2 tl2 f2))) (gv_up (gv_up V oc (.inl (cI, 486, .inl f2))) o (.inr (4, [.ref oc, .int (nI m), .int tl2, .int omk]))) 0 0 [(4, .int (nI k)), (0, .ref mo), (1, .ref no), (2, .ref a), (3, .ref o)] 25 [] := by
      intro zn1
      induction zn1 with
      | zero => intro k m tl2 f2 hlt; exact absurd hlt (Nat.not_lt_zero _)
      | succ zn1 ih25 =>
        intro k m tl2 f2 hlt25  hk hgr
        have hm8 := hgr.le
        refine k_iload C dX1_makeAggregates_25 0 rfl ?_
        refine k_aload_n C dX1_makeAggregates_27 rfl 4 rfl ?_
        refine k_get (ci := 4) (k := 1) C fl_1_186 gv_up_s rfl dX1_makeAggregates_28 ?_
        refine k_icmp_ge (tgt := 59) C dX1_makeAggregates_31 (by decide) (fun c31 => ?_) (fun c31 => ?_)
        · skip
          have b31 : m ≤ k := (nI_leI (a := m) (b := k) (by omega) (by omega)).mp c31
          exact k_vret C zr zlk ⟨m, tl2, f2, rfl, rfl, hgr.fin (by omega)⟩ (Nat.le_refl _) (Nat.le_refl _) dX1_makeAggregates_59
        · skip
          have b31 : ¬ m ≤ k := fun z => c31 ((nI_leI (a := m) (b := k) (by omega) (by omega)).mpr z)
          refine k_aload_n C dX1_makeAggregates_34 rfl 4 rfl ?_
          refine k_iload C dX1_makeAggregates_35 0 rfl ?_
          refine k_aload_n C dX1_makeAggregates_37 rfl 2 rfl ?_
          have ne2 : nq no oc := gv_ne h_oc h_no (by simp)
          have ne3 : nq no o := gv_ne h_o h_no (by simp)
          refine k_get (ci := 2) (k := 7) C fl_1_191 ((gv_up_n ne3).trans ((gv_up_n ne2).trans h_no)) rfl dX1_makeAggregates_38 ?_
          refine k_aload_n C dX1_makeAggregates_41 rfl 1 rfl ?_
          refine k_aload_n C dX1_makeAggregates_42 rfl 2 rfl ?_
          refine k_aload_n C dX1_makeAggregates_43 rfl 3 rfl ?_
          refine k_aload_n C dX1_makeAggregates_44 rfl 4 rfl ?_
          refine k_iload C dX1_makeAggregates_45 0 rfl ?_
          have ne4 : nq mo oc := gv_ne h_oc h_mo (by simp)
          have ne5 : nq mo o := gv_ne h_o h_mo (by simp)
          have ne6 : nq a oc := gv_ne h_oc h_a (by simp)
          have ne7 : nq c o := gv_ne h_o h_c (by simp)
          have ne8 : nq oc o := gv_ne h_o h_oc (by simp)
          have ne9 : nq ky oc := gv_ne h_oc h_ky (by simp)
          have ne10 : nq ky o := gv_ne h_o h_ky (by simp)
          refine k_callV_pi C mv_1_241 (c_X1_aggregate  ((gv_up_n ne5).trans ((gv_up_n ne4).trans h_mo)) ((gv_up_n ne3).trans ((gv_up_n ne2).trans h_no)) ((gv_up_n (Ne.symm hoa)).trans ((gv_up_n ne6).trans h_a)) ((gv_up_n ne7).trans ((gv_up_n (Ne.symm hca)).trans h_c)) gv_up_s ((gv_up_n ne8).trans gv_up_s) ((gv_up_n ne10).trans ((gv_up_n ne9).trans h_ky)) (by first | assumption | omega) (by first | assumption | omega) (by first | assumption | omega)) ((gv_up_n ne5).trans ((gv_up_n ne4).trans h_mo)) rfl rfl (by simp [Value.category]) ⟨by decide, by decide⟩ ⟨(by decide), (by decide)⟩ dX1_makeAggregates_47 ?_
          refine k_callV_pv C mv_1_245 (c_X4_put  gv_up_s ((gv_up_n ne8).trans gv_up_s) (by first | assumption | omega) (by first | assumption | omega)) gv_up_s rfl rfl (by simp [Value.category]) ⟨by decide, by decide⟩ ⟨(by decide), (by decide)⟩ dX1_makeAggregates_50 ?_
          refine k_view (V1 := gv_up (gv_up V oc (.inl (cI, 486, .inl (upd f2 (k * 6 + vv) (agR ag (agF (fun z => lik st (rwf f2 k) (rwf f z)) kf n)))))) o (.inr (4, [.ref oc, .int (nI m), .int tl2, .int omk]))) ((gv_uc ne8).trans (congrArg (fun W => gv_up W o (.inr (4, [.ref oc, .int (nI m), .int tl2, .int omk]))) gv_uu)) ?_
          refine k_iinc (v := nI (k + 1)) (lv' := [(4, .int (nI (k + 1))), (0, .ref mo), (1, .ref no), (2, .ref a), (3, .ref o)]) C dX1_makeAggregates_53 (k := 0) rfl (nI_add k 1) (by decide) rfl ?_
          refine k_goto (tgt := 25) C dX1_makeAggregates_56 (by decide) ?_
          exact ih25 (k + 1) m tl2 (upd f2 (k * 6 + vv) (agR ag (agF (fun z => lik st (rwf f2 k) (rwf f z)) kf n))) (by omega)  (by omega) (hgr.next hvv (by omega) (by unfold aggV; rw [← hA1]; rw [agF_c (fun z hz => lik_c (hgr.2.2.2.1 k (Nat.le_refl _) (by omega)) (hA.at hz)) hkf]))
    refine k_view (V1 := gv_up V oc (.inl (cI, 486, .inl f1))) (gv_id h_oc).symm ?_
    have ne11 : nq o oc := gv_ne h_oc h_o (by simp)
    refine k_view (V1 := gv_up (gv_up V oc (.inl (cI, 486, .inl f1))) o (.inr (4, [.ref oc, .int (nI n1), .int tl1, .int omk]))) (gv_id ((gv_up_n ne11).trans h_o)).symm ?_
    exact L25 _ 0 n1 tl1 f1 (Nat.lt_succ_self _)  (by omega) (Grp.init (by rw [grp0_n (fun h => by first | exact c11 h.2 | omega)]; exact hr) (grp0_len (by omega)))
  · skip
    have b4 : n = 0 := (nI_eq (a := n) (b := 0) (by omega) (by omega)).mp c4
    refine k_aload_n C dX1_makeAggregates_7 rfl 1 rfl ?_
    refine k_get (ci := 2) (k := 8) C fl_1_135 h_no rfl dX1_makeAggregates_8 ?_
    refine k_if_ne (tgt := 22) C dX1_makeAggregates_11 (by decide) (fun c11 => ?_) (fun c11 => ?_)
    · skip
      refine k_iconst (v := nI 0) C dX1_makeAggregates_22 rfl ?_
      refine k_istore (lv' := [(4, .int (nI 0)), (0, .ref mo), (1, .ref no), (2, .ref a), (3, .ref o)]) C dX1_makeAggregates_23 (by decide) rfl ?_
      have L25 : ∀ (zn12 : Nat) (k : Nat) (m : Nat) (tl2 : Int32) (f2 : Nat → Int32), m - k < zn12 → (k ≤ m) → (Grp vv (aggV st ag kk A) (grp0 st A) k m tl2 f2) → K zp zl ze (gv_rm 3 0 0) zs zm zargs zbelow zmeth zc D base 5 (gv_E D [(cI, .int), (cN, .object "AlgebraTree$Node"), (cR, .object "AlgebraTree$Rows")] base zbelow zargs zs 0 0 (fun zv zV => ∃ n2 : Nat, ∃ tl2 : Int32, ∃ f2 : Nat → Int32, zv = none ∧ zV = gv_up (gv_up V oc (.inl (cI, 486, .inl f2))) o (.inr (4, [.ref oc, .int (nI n2), .int tl2, .int omk])) ∧ (Rep (groupL st ag vv kk A) n2 tl2 f2))) (gv_up (gv_up V oc (.inl (cI, 486, .inl f2))) o (.inr (4, [.ref oc, .int (nI m), .int tl2, .int omk]))) 0 0 [(4, .int (nI k)), (0, .ref mo), (1, .ref no), (2, .ref a), (3, .ref o)] 25 [] := by
        intro zn12
        induction zn12 with
        | zero => intro k m tl2 f2 hlt; exact absurd hlt (Nat.not_lt_zero _)
        | succ zn12 ih25 =>
          intro k m tl2 f2 hlt25  hk hgr
          have hm8 := hgr.le
          refine k_iload C dX1_makeAggregates_25 0 rfl ?_
          refine k_aload_n C dX1_makeAggregates_27 rfl 4 rfl ?_
          refine k_get (ci := 4) (k := 1) C fl_1_186 gv_up_s rfl dX1_makeAggregates_28 ?_
          refine k_icmp_ge (tgt := 59) C dX1_makeAggregates_31 (by decide) (fun c31 => ?_) (fun c31 => ?_)
          · skip
            have b31 : m ≤ k := (nI_leI (a := m) (b := k) (by omega) (by omega)).mp c31
            exact k_vret C zr zlk ⟨m, tl2, f2, rfl, rfl, hgr.fin (by omega)⟩ (Nat.le_refl _) (Nat.le_refl _) dX1_makeAggregates_59
          · skip
            have b31 : ¬ m ≤ k := fun z => c31 ((nI_leI (a := m) (b := k) (by omega) (by omega)).mpr z)
            refine k_aload_n C dX1_makeAggregates_34 rfl 4 rfl ?_
            refine k_iload C dX1_makeAggregates_35 0 rfl ?_
            refine k_aload_n C dX1_makeAggregates_37 rfl 2 rfl ?_
            have ne13 : nq no oc := gv_ne h_oc h_no (by simp)
            have ne14 : nq no o := gv_ne h_o h_no (by simp)
            refine k_get (ci := 2) (k := 7) C fl_1_191 ((gv_up_n ne14).trans ((gv_up_n ne13).trans h_no)) rfl dX1_makeAggregates_38 ?_
            refine k_aload_n C dX1_makeAggregates_41 rfl 1 rfl ?_
            refine k_aload_n C dX1_makeAggregates_42 rfl 2 rfl ?_
            refine k_aload_n C dX1_makeAggregates_43 rfl 3 rfl ?_
            refine k_aload_n C dX1_makeAggregates_44 rfl 4 rfl ?_
            refine k_iload C dX1_makeAggregates_45 0 rfl ?_
            have ne15 : nq mo oc := gv_ne h_oc h_mo (by simp)
            have ne16 : nq mo o := gv_ne h_o h_mo (by simp)
            have ne17 : nq a oc := gv_ne h_oc h_a (by simp)
            have ne18 : nq c o := gv_ne h_o h_c (by simp)
            have ne19 : nq oc o := gv_ne h_o h_oc (by simp)
            have ne20 : nq ky oc := gv_ne h_oc h_ky (by simp)
            have ne21 : nq ky o := gv_ne h_o h_ky (by simp)
            refine k_callV_pi C mv_1_241 (c_X1_aggregate  ((gv_up_n ne16).trans ((gv_up_n ne15).trans h_mo)) ((gv_up_n ne14).trans ((gv_up_n ne13).trans h_no)) ((gv_up_n (Ne.symm hoa)).trans ((gv_up_n ne17).trans h_a)) ((gv_up_n ne18).trans ((gv_up_n (Ne.symm hca)).trans h_c)) gv_up_s ((gv_up_n ne19).trans gv_up_s) ((gv_up_n ne21).trans ((gv_up_n ne20).trans h_ky)) (by first | assumption | omega) (by first | assumption | omega) (by first | assumption | omega)) ((gv_up_n ne16).trans ((gv_up_n ne15).trans h_mo)) rfl rfl (by simp [Value.category]) ⟨by decide, by decide⟩ ⟨(by decide), (by decide)⟩ dX1_makeAggregates_47 ?_
            refine k_callV_pv C mv_1_245 (c_X4_put  gv_up_s ((gv_up_n ne19).trans gv_up_s) (by first | assumption | omega) (by first | assumption | omega)) gv_up_s rfl rfl (by simp [Value.category]) ⟨by decide, by decide⟩ ⟨(by decide), (by decide)⟩ dX1_makeAggregates_50 ?_
            refine k_view (V1 := gv_up (gv_up V oc (.inl (cI, 486, .inl (upd f2 (k * 6 + vv) (agR ag (agF (fun z => lik st (rwf f2 k) (rwf f z)) kf n)))))) o (.inr (4, [.ref oc, .int (nI m), .int tl2, .int omk]))) ((gv_uc ne19).trans (congrArg (fun W => gv_up W o (.inr (4, [.ref oc, .int (nI m), .int tl2, .int omk]))) gv_uu)) ?_
            refine k_iinc (v := nI (k + 1)) (lv' := [(4, .int (nI (k + 1))), (0, .ref mo), (1, .ref no), (2, .ref a), (3, .ref o)]) C dX1_makeAggregates_53 (k := 0) rfl (nI_add k 1) (by decide) rfl ?_
            refine k_goto (tgt := 25) C dX1_makeAggregates_56 (by decide) ?_
            exact ih25 (k + 1) m tl2 (upd f2 (k * 6 + vv) (agR ag (agF (fun z => lik st (rwf f2 k) (rwf f z)) kf n))) (by omega)  (by omega) (hgr.next hvv (by omega) (by unfold aggV; rw [← hA1]; rw [agF_c (fun z hz => lik_c (hgr.2.2.2.1 k (Nat.le_refl _) (by omega)) (hA.at hz)) hkf]))
      refine k_view (V1 := gv_up V oc (.inl (cI, 486, .inl f1))) (gv_id h_oc).symm ?_
      have ne22 : nq o oc := gv_ne h_oc h_o (by simp)
      refine k_view (V1 := gv_up (gv_up V oc (.inl (cI, 486, .inl f1))) o (.inr (4, [.ref oc, .int (nI n1), .int tl1, .int omk]))) (gv_id ((gv_up_n ne22).trans h_o)).symm ?_
      exact L25 _ 0 n1 tl1 f1 (Nat.lt_succ_self _)  (by omega) (Grp.init (by rw [grp0_n (fun h => by first | exact c11 h.2 | omega)]; exact hr) (grp0_len (by omega)))
    · skip
      refine k_aload_n C dX1_makeAggregates_14 rfl 3 rfl ?_
      refine k_callV_pv C mv_1_157 (c_X4_draftOpen  h_o h_oc (by first | assumption | omega)) h_o rfl rfl (by simp [Value.category]) ⟨by decide, by decide⟩ ⟨(by decide), (by decide)⟩ dX1_makeAggregates_15 ?_
      refine k_aload_n C dX1_makeAggregates_18 rfl 3 rfl ?_
      have ne23 : nq o oc := gv_ne h_oc h_o (by simp)
      refine k_callV_pv C mv_1_179 (c_X4_keepDraft  ((gv_up_n ne23).trans h_o) gv_up_s (by first | assumption | omega)) ((gv_up_n ne23).trans h_o) rfl rfl (by simp [Value.category]) ⟨by decide, by decide⟩ ⟨(by decide), (by decide)⟩ dX1_makeAggregates_19 ?_
      refine k_iconst (v := nI 0) C dX1_makeAggregates_22 rfl ?_
      refine k_istore (lv' := [(4, .int (nI 0)), (0, .ref mo), (1, .ref no), (2, .ref a), (3, .ref o)]) C dX1_makeAggregates_23 (by decide) rfl ?_
      have L25 : ∀ (zn24 : Nat) (k : Nat) (m : Nat) (tl2 : Int32) (f2 : Nat → Int32), m - k < zn24 → (k ≤ m) → (Grp vv (aggV st ag kk A) (grp0 st A) k m tl2 f2) → K zp zl ze (gv_rm 3 0 0) zs zm zargs zbelow zmeth zc D base 5 (gv_E D [(cI, .int), (cN, .object "AlgebraTree$Node"), (cR, .object "AlgebraTree$Rows")] base zbelow zargs zs 0 0 (fun zv zV => ∃ n2 : Nat, ∃ tl2 : Int32, ∃ f2 : Nat → Int32, zv = none ∧ zV = gv_up (gv_up V oc (.inl (cI, 486, .inl f2))) o (.inr (4, [.ref oc, .int (nI n2), .int tl2, .int omk])) ∧ (Rep (groupL st ag vv kk A) n2 tl2 f2))) (gv_up (gv_up V oc (.inl (cI, 486, .inl f2))) o (.inr (4, [.ref oc, .int (nI m), .int tl2, .int omk]))) 0 0 [(4, .int (nI k)), (0, .ref mo), (1, .ref no), (2, .ref a), (3, .ref o)] 25 [] := by
        intro zn24
        induction zn24 with
        | zero => intro k m tl2 f2 hlt; exact absurd hlt (Nat.not_lt_zero _)
        | succ zn24 ih25 =>
          intro k m tl2 f2 hlt25  hk hgr
          have hm8 := hgr.le
          refine k_iload C dX1_makeAggregates_25 0 rfl ?_
          refine k_aload_n C dX1_makeAggregates_27 rfl 4 rfl ?_
          refine k_get (ci := 4) (k := 1) C fl_1_186 gv_up_s rfl dX1_makeAggregates_28 ?_
          refine k_icmp_ge (tgt := 59) C dX1_makeAggregates_31 (by decide) (fun c31 => ?_) (fun c31 => ?_)
          · skip
            have b31 : m ≤ k := (nI_leI (a := m) (b := k) (by omega) (by omega)).mp c31
            exact k_vret C zr zlk ⟨m, tl2, f2, rfl, rfl, hgr.fin (by omega)⟩ (Nat.le_refl _) (Nat.le_refl _) dX1_makeAggregates_59
          · skip
            have b31 : ¬ m ≤ k := fun z => c31 ((nI_leI (a := m) (b := k) (by omega) (by omega)).mpr z)
            refine k_aload_n C dX1_makeAggregates_34 rfl 4 rfl ?_
            refine k_iload C dX1_makeAggregates_35 0 rfl ?_
            refine k_aload_n C dX1_makeAggregates_37 rfl 2 rfl ?_
            have ne25 : nq no oc := gv_ne h_oc h_no (by simp)
            have ne26 : nq no o := gv_ne h_o h_no (by simp)
            refine k_get (ci := 2) (k := 7) C fl_1_191 ((gv_up_n ne26).trans ((gv_up_n ne25).trans h_no)) rfl dX1_makeAggregates_38 ?_
            refine k_aload_n C dX1_makeAggregates_41 rfl 1 rfl ?_
            refine k_aload_n C dX1_makeAggregates_42 rfl 2 rfl ?_
            refine k_aload_n C dX1_makeAggregates_43 rfl 3 rfl ?_
            refine k_aload_n C dX1_makeAggregates_44 rfl 4 rfl ?_
            refine k_iload C dX1_makeAggregates_45 0 rfl ?_
            have ne27 : nq mo oc := gv_ne h_oc h_mo (by simp)
            have ne28 : nq mo o := gv_ne h_o h_mo (by simp)
            have ne29 : nq a oc := gv_ne h_oc h_a (by simp)
            have ne30 : nq c o := gv_ne h_o h_c (by simp)
            have ne31 : nq ky oc := gv_ne h_oc h_ky (by simp)
            have ne32 : nq ky o := gv_ne h_o h_ky (by simp)
            refine k_callV_pi C mv_1_241 (c_X1_aggregate  ((gv_up_n ne28).trans ((gv_up_n ne27).trans h_mo)) ((gv_up_n ne26).trans ((gv_up_n ne25).trans h_no)) ((gv_up_n (Ne.symm hoa)).trans ((gv_up_n ne29).trans h_a)) ((gv_up_n ne30).trans ((gv_up_n (Ne.symm hca)).trans h_c)) gv_up_s ((gv_up_n (Ne.symm ne23)).trans gv_up_s) ((gv_up_n ne32).trans ((gv_up_n ne31).trans h_ky)) (by first | assumption | omega) (by first | assumption | omega) (by first | assumption | omega)) ((gv_up_n ne28).trans ((gv_up_n ne27).trans h_mo)) rfl rfl (by simp [Value.category]) ⟨by decide, by decide⟩ ⟨(by decide), (by decide)⟩ dX1_makeAggregates_47 ?_
            refine k_callV_pv C mv_1_245 (c_X4_put  gv_up_s ((gv_up_n (Ne.symm ne23)).trans gv_up_s) (by first | assumption | omega) (by first | assumption | omega)) gv_up_s rfl rfl (by simp [Value.category]) ⟨by decide, by decide⟩ ⟨(by decide), (by decide)⟩ dX1_makeAggregates_50 ?_
            refine k_view (V1 := gv_up (gv_up V oc (.inl (cI, 486, .inl (upd f2 (k * 6 + vv) (agR ag (agF (fun z => lik st (rwf f2 k) (rwf f z)) kf n)))))) o (.inr (4, [.ref oc, .int (nI m), .int tl2, .int omk]))) ((gv_uc (Ne.symm ne23)).trans (congrArg (fun W => gv_up W o (.inr (4, [.ref oc, .int (nI m), .int tl2, .int omk]))) gv_uu)) ?_
            refine k_iinc (v := nI (k + 1)) (lv' := [(4, .int (nI (k + 1))), (0, .ref mo), (1, .ref no), (2, .ref a), (3, .ref o)]) C dX1_makeAggregates_53 (k := 0) rfl (nI_add k 1) (by decide) rfl ?_
            refine k_goto (tgt := 25) C dX1_makeAggregates_56 (by decide) ?_
            exact ih25 (k + 1) m tl2 (upd f2 (k * 6 + vv) (agR ag (agF (fun z => lik st (rwf f2 k) (rwf f z)) kf n))) (by omega)  (by omega) (hgr.next hvv (by omega) (by unfold aggV; rw [← hA1]; rw [agF_c (fun z hz => lik_c (hgr.2.2.2.1 k (Nat.le_refl _) (by omega)) (hA.at hz)) hkf]))
      exact L25 _ 0 (if n1 = 80 then 80 else n1 + 1) (if n1 = 80 then 1 else tl1) (wrk f1 n1 opn 6) (Nat.lt_succ_self _)  (by omega) (Grp.init (by rw [grp0_y ⟨by omega, c11⟩]; exact hr.add eq6.rf) (grp0_len (by omega)))
