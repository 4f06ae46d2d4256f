set_option maxHeartbeats 4000000 in
set_option maxRecDepth 100000 in
theorem c_ref0E {zl : Launch} {D : va_G} {cI cN cR : ClassId} {base : Nat} {V : gv_V} {mo tr nd tb wg ky pl : Nat} {tga tsa tpa tqa nt : Nat} {tg ts tp tq : Nat → Int32} {nl nn : Nat} {nf : Nat → Option Nat} {no : Nat} {ps pp po ex va st fr ln dn ag gr : Int32} {xe ak af as ap av ne : Nat} {kd fs sc pt vl : Nat → Int32} {kf pf : Nat → Int32} {tf : Nat → Option Nat} {i g n0 : Nat} {o oc : Nat} {tl0 omk : Int32} {of : Nat → Int32} {E : Nat → Ex} {T : List Tr}  (h_mo : V mo = some (.inr (1, [.ref tr, .ref xe, .ref nd, .ref tb, .ref wg, .ref ky, .ref pl]))) (h_tr : V tr = some (.inr (5, [.ref tga, .ref tsa, .ref tpa, .ref tqa, .int (nI nt)]))) (h_tga : V tga = some (.inl (cI, 60, .inl tg))) (h_tsa : V tsa = some (.inl (cI, 60, .inl ts))) (h_tpa : V tpa = some (.inl (cI, 60, .inl tp))) (h_tqa : V tqa = some (.inl (cI, 60, .inl tq))) (h_nd : V nd = some (.inr (3, [.ref nl, .int (nI nn)]))) (h_nl : V nl = some (.inl (cN, 30, .inr (.inr (.inr (.inr nf)))))) (h_no : V no = some (.inr (2, [.int (nI 0), .int (-1 : Int32), .int (-1 : Int32), .int ps, .int pp, .int po, .int ex, .int va, .int st, .int fr, .int ln, .int dn, .int ag, .int gr]))) (h_xe : V xe = some (.inr (0, [.ref ak, .ref af, .ref as, .ref ap, .ref av, .int (nI ne)]))) (h_ak : V ak = some (.inl (cI, 30, .inl kd))) (h_af : V af = some (.inl (cI, 30, .inl fs))) (h_as : V as = some (.inl (cI, 30, .inl sc))) (h_ap : V ap = some (.inl (cI, 30, .inl pt))) (h_av : V av = some (.inl (cI, 30, .inl vl))) (h_ky : V ky = some (.inl (cI, 80, .inl kf))) (h_pl : V pl = some (.inl (cI, 80, .inl pf))) (h_tb : V tb = some (.inl (cR, 120, .inr (.inr (.inr (.inr tf)))))) (h_o : V o = some (.inr (4, [.ref oc, .int (nI n0), .int tl0, .int omk]))) (h_oc : V oc = some (.inl (cI, 486, .inl of))) (hX : ExR E ne kd fs sc pt) (hd : [ak, af, as, ap, av].Nodup) (hi : i < 30) (hg : g < 4) (hnf : nf i = some no) (hky : nq ky pl) (hnt : nt ≤ 60) (ht : tf (i * 4 + g) = some o) (hst : ¬ omk = nI nt) (hT : TrR T nt tg ts tp tq) (hps : plc ps = true) (hpp : plc pp = true) (hpo : plc po = true) : ct zl D [(cI, .int), (cN, .object "AlgebraTree$Node"), (cR, .object "AlgebraTree$Rows")] base yX1_refresh cX1_refresh 6 none 5 0 0 [.ref mo, .int (nI i), .int (nI g)] V (fun zv zV => ∃ vl1 : Nat → Int32, ∃ kf1 : Nat → Int32, ∃ pf1 : Nat → Int32, ∃ n1 : Nat, ∃ tl1 : Int32, ∃ f1 : Nat → Int32, zv = none ∧ zV = gv_up (gv_up (gv_up (gv_up (gv_up V av (.inl (cI, 30, .inl vl1))) ky (.inl (cI, 80, .inl kf1))) pl (.inl (cI, 80, .inl pf1))) oc (.inl (cI, 486, .inl f1))) o (.inr (4, [.ref oc, .int (nI n1), .int tl1, .int (nI nt)])) ∧ (TRep (cap (patL T (nI g) ps pp po)) n1 tl1 f1)) := by
  refine ct_of "AlgebraTree$Maker" rfl (by decide) (Nat.le_of_ble_eq_true rfl) ?_
  intro zp ze zs zm zargs zbelow zmeth zc C zr zlk znm
  refine k_pc (pc' := 0) (st' := []) rfl rfl ?_
  show K zp zl ze (gv_rm 5 0 0) zs zm zargs zbelow zmeth zc D base 6 (gv_E D [(cI, .int), (cN, .object "AlgebraTree$Node"), (cR, .object "AlgebraTree$Rows")] base zbelow zargs zs 0 0 (fun zv zV => ∃ vl1 : Nat → Int32, ∃ kf1 : Nat → Int32, ∃ pf1 : Nat → Int32, ∃ n1 : Nat, ∃ tl1 : Int32, ∃ f1 : Nat → Int32, zv = none ∧ zV = gv_up (gv_up (gv_up (gv_up (gv_up V av (.inl (cI, 30, .inl vl1))) ky (.inl (cI, 80, .inl kf1))) pl (.inl (cI, 80, .inl pf1))) oc (.inl (cI, 486, .inl f1))) o (.inr (4, [.ref oc, .int (nI n1), .int tl1, .int (nI nt)])) ∧ (TRep (cap (patL T (nI g) ps pp po)) n1 tl1 f1))) V 0 0 [(0, .ref mo), (1, .int (nI i)), (2, .int (nI g))] 0 []
  refine k_aload_n C dX1_refresh_0 rfl 0 rfl ?_
  refine k_iload_n C dX1_refresh_1 rfl 1 rfl ?_
  refine k_iload_n C dX1_refresh_2 rfl 2 rfl ?_
  refine k_callV_pr C mv_1_56 (c_tableOf  h_mo h_tb (by first | assumption | omega) (by first | assumption | omega) (by first | assumption | omega)) h_mo rfl rfl (by simp [Value.category]) ⟨by decide, by decide⟩ ⟨(by decide), (by decide)⟩ dX1_refresh_3 ?_
  refine k_astore_n (lv' := [(3, .ref o), (0, .ref mo), (1, .int (nI i)), (2, .int (nI g))]) C dX1_refresh_6 rfl (by decide) rfl ?_
  refine k_aload_n C dX1_refresh_7 rfl 0 rfl ?_
  refine k_get (ci := 4) (k := 3) C fl_1_84 h_o rfl dX1_refresh_8 ?_
  refine k_aload_n C dX1_refresh_11 rfl 1 rfl ?_
  refine k_get (ci := 1) (k := 0) C fl_1_12 h_mo rfl dX1_refresh_12 ?_
  refine k_get (ci := 5) (k := 4) C fl_1_87 h_tr rfl dX1_refresh_15 ?_
  refine k_icmp_ne (tgt := 22) C dX1_refresh_18 (by decide) (fun c18 => ?_) (fun c18 => ?_)
  · skip
    refine k_aload_n C dX1_refresh_22 rfl 0 rfl ?_
    refine k_callV_pv C mv_1_90 (c_X4_clear  h_o h_oc ) h_o rfl rfl (by simp [Value.category]) ⟨by decide, by decide⟩ ⟨(by decide), (by decide)⟩ dX1_refresh_23 ?_
    refine k_aload_n C dX1_refresh_26 rfl 0 rfl ?_
    refine k_aload_n C dX1_refresh_27 rfl 1 rfl ?_
    have ne1 : nq mo o := gv_ne h_o h_mo (by simp)
    refine k_get (ci := 1) (k := 0) C fl_1_12 ((gv_up_n ne1).trans h_mo) rfl dX1_refresh_28 ?_
    have ne2 : nq tr o := gv_ne h_o h_tr (by simp)
    refine k_get (ci := 5) (k := 4) C fl_1_87 ((gv_up_n ne2).trans h_tr) rfl dX1_refresh_31 ?_
    refine k_put (ci := 4) (k := 3) (fs' := [.ref oc, .int (nI 0), .int (nI 0), .int (nI nt)]) C fl_1_84 pf_4_3 gv_up_s rfl rfl (Nat.le_of_ble_eq_true rfl) rfl dX1_refresh_34 ?_
    refine k_view (V1 := gv_up V o (.inr (4, [.ref oc, .int (nI 0), .int (nI 0), .int (nI nt)]))) gv_uu ?_
    refine k_aload_n C dX1_refresh_37 rfl 1 rfl ?_
    refine k_get (ci := 1) (k := 2) C fl_1_28 ((gv_up_n ne1).trans h_mo) rfl dX1_refresh_38 ?_
    refine k_iload_n C dX1_refresh_41 rfl 2 rfl ?_
    have ne3 : nq nd o := gv_ne h_o h_nd (by simp)
    have ne4 : nq nl o := gv_ne h_o h_nl (by simp)
    refine k_callV_pr C mv_1_60 (c_X3_at  ((gv_up_n ne3).trans h_nd) ((gv_up_n ne4).trans h_nl) (by first | assumption | omega) hnf) ((gv_up_n ne3).trans h_nd) rfl rfl (by simp [Value.category]) ⟨by decide, by decide⟩ ⟨(by decide), (by decide)⟩ dX1_refresh_42 ?_
    refine k_astore (lv' := [(4, .ref no), (3, .ref o), (0, .ref mo), (1, .int (nI i)), (2, .int (nI g))]) C dX1_refresh_45 (by decide) rfl ?_
    refine k_aload C dX1_refresh_47 0 rfl ?_
    have ne5 : nq no o := gv_ne h_o h_no (by simp)
    refine k_get (ci := 2) (k := 0) C fl_1_77 ((gv_up_n ne5).trans h_no) rfl dX1_refresh_49 ?_
    refine k_bipush (v := nI 12) C dX1_refresh_52 rfl ?_
    refine k_icmp_ne (tgt := 65) C dX1_refresh_54 (by decide) (fun c54 => ?_) (fun c54 => ?_)
    · skip
      have b54 : ¬ 0 = 12 := fun z => c54 ((nI_eq (a := 0) (b := 12) (by omega) (by omega)).mpr z)
      refine k_iload_n C dX1_refresh_65 rfl 4 rfl ?_
      refine k_istore (lv' := [(5, .int (nI g)), (4, .ref no), (3, .ref o), (0, .ref mo), (1, .int (nI i)), (2, .int (nI g))]) C dX1_refresh_66 (by decide) rfl ?_
      refine k_aload C dX1_refresh_68 1 rfl ?_
      refine k_get (ci := 2) (k := 0) C fl_1_77 ((gv_up_n ne5).trans h_no) rfl dX1_refresh_70 ?_
      refine k_if_ne (tgt := 87) C dX1_refresh_73 (by decide) (fun c73 => ?_) (fun c73 => ?_)
      · skip
        exact absurd rfl c73
      · skip
        have b73 : 0 = 0 := (nI_eq (a := 0) (b := 0) (by omega) (by omega)).mp c73
        refine k_aload_n C dX1_refresh_76 rfl 3 rfl ?_
        refine k_aload C dX1_refresh_77 1 rfl ?_
        refine k_iload_n C dX1_refresh_79 rfl 5 rfl ?_
        refine k_aload_n C dX1_refresh_80 rfl 2 rfl ?_
        have ne6 : nq tga o := gv_ne h_o h_tga (by simp)
        have ne7 : nq tsa o := gv_ne h_o h_tsa (by simp)
        have ne8 : nq tpa o := gv_ne h_o h_tpa (by simp)
        have ne9 : nq tqa o := gv_ne h_o h_tqa (by simp)
        have ne10 : nq oc o := gv_ne h_o h_oc (by simp)
        refine k_callV C mv_1_93 (c_X1_makePattern  ((gv_up_n ne1).trans h_mo) ((gv_up_n ne5).trans h_no) ((gv_up_n ne2).trans h_tr) ((gv_up_n ne6).trans h_tga) ((gv_up_n ne7).trans h_tsa) ((gv_up_n ne8).trans h_tpa) ((gv_up_n ne9).trans h_tqa) gv_up_s ((gv_up_n ne10).trans h_oc) (by first | assumption | omega) (by first | assumption | omega) (by first | assumption | omega) (by first | assumption | omega)) ((gv_up_n ne1).trans h_mo) rfl rfl (by simp [Value.category]) ⟨by decide, by decide⟩ ⟨(by decide), (by decide)⟩ dX1_refresh_81 (fun zv zV zh => ?_)
        obtain ⟨n1_w11, tl1_w11, f1_w11, rfl, rfl, hr1_w11⟩ := zh
        refine k_pc (pc' := 84) (st' := []) rfl rfl ?_
        refine k_view (V1 := gv_up (gv_up V o (.inr (4, [.ref oc, .int (nI n1_w11), .int tl1_w11, .int (nI nt)]))) oc (.inl (cI, 486, .inl f1_w11))) ((gv_uc (Ne.symm ne10)).trans (congrArg (fun W => gv_up W oc (.inl (cI, 486, .inl f1_w11))) gv_uu)) ?_
        refine k_goto (tgt := 166) C dX1_refresh_84 (by decide) ?_
        have ne12 : nq av o := gv_ne h_o h_av (by simp)
        have ne13 : nq av oc := gv_ne h_oc h_av (by simp)
        refine k_view (V1 := gv_up (gv_up (gv_up V o (.inr (4, [.ref oc, .int (nI n1_w11), .int tl1_w11, .int (nI nt)]))) oc (.inl (cI, 486, .inl f1_w11))) av (.inl (cI, 30, .inl vl))) (gv_id ((gv_up_n ne13).trans ((gv_up_n ne12).trans h_av))).symm ?_
        have ne14 : nq ky o := gv_ne h_o h_ky (by simp)
        have ne15 : nq ky oc := gv_ne h_oc h_ky (by simp)
        have ne16 : nq ky av := gv_ne h_av h_ky (by simp)
        refine k_view (V1 := gv_up (gv_up (gv_up (gv_up V o (.inr (4, [.ref oc, .int (nI n1_w11), .int tl1_w11, .int (nI nt)]))) oc (.inl (cI, 486, .inl f1_w11))) av (.inl (cI, 30, .inl vl))) ky (.inl (cI, 80, .inl kf))) (gv_id ((gv_up_n ne16).trans ((gv_up_n ne15).trans ((gv_up_n ne14).trans h_ky)))).symm ?_
        have ne17 : nq pl o := gv_ne h_o h_pl (by simp)
        have ne18 : nq pl oc := gv_ne h_oc h_pl (by simp)
        have ne19 : nq pl av := gv_ne h_av h_pl (by simp)
        refine k_view (V1 := gv_up (gv_up (gv_up (gv_up (gv_up V o (.inr (4, [.ref oc, .int (nI n1_w11), .int tl1_w11, .int (nI nt)]))) oc (.inl (cI, 486, .inl f1_w11))) av (.inl (cI, 30, .inl vl))) ky (.inl (cI, 80, .inl kf))) pl (.inl (cI, 80, .inl pf))) (gv_id ((gv_up_n (Ne.symm hky)).trans ((gv_up_n ne19).trans ((gv_up_n ne18).trans ((gv_up_n ne17).trans h_pl))))).symm ?_
        refine k_view (V1 := gv_up (gv_up (gv_up (gv_up (gv_up V o (.inr (4, [.ref oc, .int (nI n1_w11), .int tl1_w11, .int (nI nt)]))) av (.inl (cI, 30, .inl vl))) oc (.inl (cI, 486, .inl f1_w11))) ky (.inl (cI, 80, .inl kf))) pl (.inl (cI, 80, .inl pf))) (congrArg (fun W => gv_up W pl (.inl (cI, 80, .inl pf))) (congrArg (fun W => gv_up W ky (.inl (cI, 80, .inl kf))) (gv_uc ne13))) ?_
        refine k_view (V1 := gv_up (gv_up (gv_up (gv_up (gv_up V av (.inl (cI, 30, .inl vl))) o (.inr (4, [.ref oc, .int (nI n1_w11), .int tl1_w11, .int (nI nt)]))) oc (.inl (cI, 486, .inl f1_w11))) ky (.inl (cI, 80, .inl kf))) pl (.inl (cI, 80, .inl pf))) (congrArg (fun W => gv_up W pl (.inl (cI, 80, .inl pf))) (congrArg (fun W => gv_up W ky (.inl (cI, 80, .inl kf))) (congrArg (fun W => gv_up W oc (.inl (cI, 486, .inl f1_w11))) (gv_uc ne12)))) ?_
        refine k_view (V1 := gv_up (gv_up (gv_up (gv_up (gv_up V av (.inl (cI, 30, .inl vl))) o (.inr (4, [.ref oc, .int (nI n1_w11), .int tl1_w11, .int (nI nt)]))) ky (.inl (cI, 80, .inl kf))) oc (.inl (cI, 486, .inl f1_w11))) pl (.inl (cI, 80, .inl pf))) (congrArg (fun W => gv_up W pl (.inl (cI, 80, .inl pf))) (gv_uc ne15)) ?_
        refine k_view (V1 := gv_up (gv_up (gv_up (gv_up (gv_up V av (.inl (cI, 30, .inl vl))) ky (.inl (cI, 80, .inl kf))) o (.inr (4, [.ref oc, .int (nI n1_w11), .int tl1_w11, .int (nI nt)]))) oc (.inl (cI, 486, .inl f1_w11))) pl (.inl (cI, 80, .inl pf))) (congrArg (fun W => gv_up W pl (.inl (cI, 80, .inl pf))) (congrArg (fun W => gv_up W oc (.inl (cI, 486, .inl f1_w11))) (gv_uc ne14))) ?_
        refine k_view (V1 := gv_up (gv_up (gv_up (gv_up (gv_up V av (.inl (cI, 30, .inl vl))) ky (.inl (cI, 80, .inl kf))) o (.inr (4, [.ref oc, .int (nI n1_w11), .int tl1_w11, .int (nI nt)]))) pl (.inl (cI, 80, .inl pf))) oc (.inl (cI, 486, .inl f1_w11))) (gv_uc ne18) ?_
        refine k_view (V1 := gv_up (gv_up (gv_up (gv_up (gv_up V av (.inl (cI, 30, .inl vl))) ky (.inl (cI, 80, .inl kf))) pl (.inl (cI, 80, .inl pf))) o (.inr (4, [.ref oc, .int (nI n1_w11), .int tl1_w11, .int (nI nt)]))) oc (.inl (cI, 486, .inl f1_w11))) (congrArg (fun W => gv_up W oc (.inl (cI, 486, .inl f1_w11))) (gv_uc ne17)) ?_
        refine k_view (V1 := gv_up (gv_up (gv_up (gv_up (gv_up V av (.inl (cI, 30, .inl vl))) ky (.inl (cI, 80, .inl kf))) pl (.inl (cI, 80, .inl pf))) oc (.inl (cI, 486, .inl f1_w11))) o (.inr (4, [.ref oc, .int (nI n1_w11), .int tl1_w11, .int (nI nt)]))) (gv_uc ne10) ?_
        exact k_vret C zr zlk ⟨vl, kf, pf, n1_w11, tl1_w11, f1_w11, rfl, rfl, hr1_w11.tr⟩ (Nat.le_refl _) (Nat.le_refl _) dX1_refresh_166
    · skip
      exact absurd c54 (by decide)
  · skip
    exact absurd c18 hst
set_option maxHeartbeats 4000000 in
set_option maxRecDepth 100000 in
theorem c_ref13E {zl : Launch} {D : va_G} {cI cN cR : ClassId} {base : Nat} {V : gv_V} {mo tr nd tb wg ky pl : Nat} {tga tsa tpa tqa nt : Nat} {tg ts tp tq : Nat → Int32} {nl nn : Nat} {nf : Nat → Option Nat} {no : Nat} {ps pp po ex st fr ln dn ag gr : Int32} {vv : Nat} {xe ak af as ap av ne : Nat} {kd fs sc pt vl : Nat → Int32} {kf pf : Nat → Int32} {tf : Nat → Option Nat} {i g a0 n0 : Nat} {o oc : Nat} {tl0 omk : Int32} {of : Nat → Int32} {E : Nat → Ex} {tA cA nA : Nat → Nat} {tlA mkA : Nat → Int32} {fA : Nat → Nat → Int32} {SA : Nat → Option (List Row)}  (h_mo : V mo = some (.inr (1, [.ref tr, .ref xe, .ref nd, .ref tb, .ref wg, .ref ky, .ref pl]))) (h_tr : V tr = some (.inr (5, [.ref tga, .ref tsa, .ref tpa, .ref tqa, .int (nI nt)]))) (h_tga : V tga = some (.inl (cI, 60, .inl tg))) (h_tsa : V tsa = some (.inl (cI, 60, .inl ts))) (h_tpa : V tpa = some (.inl (cI, 60, .inl tp))) (h_tqa : V tqa = some (.inl (cI, 60, .inl tq))) (h_nd : V nd = some (.inr (3, [.ref nl, .int (nI nn)]))) (h_nl : V nl = some (.inl (cN, 30, .inr (.inr (.inr (.inr nf)))))) (h_no : V no = some (.inr (2, [.int (nI 13), .int (nI a0), .int (-1 : Int32), .int ps, .int pp, .int po, .int ex, .int (nI vv), .int st, .int fr, .int ln, .int dn, .int ag, .int gr]))) (h_xe : V xe = some (.inr (0, [.ref ak, .ref af, .ref as, .ref ap, .ref av, .int (nI ne)]))) (h_ak : V ak = some (.inl (cI, 30, .inl kd))) (h_af : V af = some (.inl (cI, 30, .inl fs))) (h_as : V as = some (.inl (cI, 30, .inl sc))) (h_ap : V ap = some (.inl (cI, 30, .inl pt))) (h_av : V av = some (.inl (cI, 30, .inl vl))) (h_ky : V ky = some (.inl (cI, 80, .inl kf))) (h_pl : V pl = some (.inl (cI, 80, .inl pf))) (h_tb : V tb = some (.inl (cR, 120, .inr (.inr (.inr (.inr tf)))))) (h_o : V o = some (.inr (4, [.ref oc, .int (nI n0), .int tl0, .int omk]))) (h_oc : V oc = some (.inl (cI, 486, .inl of))) (hX : ExR E ne kd fs sc pt) (hd : [ak, af, as, ap, av].Nodup) (hi : i < 30) (hg : g < 4) (hnf : nf i = some no) (hky : nq ky pl) (hnt : nt ≤ 60) (ht : tf (i * 4 + g) = some o) (hst : ¬ omk = nI nt) (ha0 : a0 < i) (hch : ∀ z, 1 ≤ z → z < 4 → tf (a0 * 4 + z) = some (tA z) ∧ V (tA z) = some (.inr (4, [.ref (cA z), .int (nI (nA z)), .int (tlA z), .int (mkA z)])) ∧ V (cA z) = some (.inl (cI, 486, .inl (fA z))) ∧ nq o (tA z) ∧ nq oc (cA z) ∧ TRep (SA z) (nA z) (tlA z) (fA z)) (hvv : vv < 6) : ct zl D [(cI, .int), (cN, .object "AlgebraTree$Node"), (cR, .object "AlgebraTree$Rows")] base yX1_refresh cX1_refresh 6 none 5 0 0 [.ref mo, .int (nI i), .int (nI g)] V (fun zv zV => ∃ vl1 : Nat → Int32, ∃ kf1 : Nat → Int32, ∃ pf1 : Nat → Int32, ∃ n1 : Nat, ∃ tl1 : Int32, ∃ f1 : Nat → Int32, zv = none ∧ zV = gv_up (gv_up (gv_up (gv_up (gv_up V av (.inl (cI, 30, .inl vl1))) ky (.inl (cI, 80, .inl kf1))) pl (.inl (cI, 80, .inl pf1))) oc (.inl (cI, 486, .inl f1))) o (.inr (4, [.ref oc, .int (nI n1), .int tl1, .int (nI nt)])) ∧ (TRep (eachS SA vv) n1 tl1 f1)) := by
  refine ct_of "AlgebraTree$Maker" rfl (by decide) (Nat.le_of_ble_eq_true rfl) ?_
  intro zp ze zs zm zargs zbelow zmeth zc C zr zlk znm
  refine k_pc (pc' := 0) (st' := []) rfl rfl ?_
  show K zp zl ze (gv_rm 5 0 0) zs zm zargs zbelow zmeth zc D base 6 (gv_E D [(cI, .int), (cN, .object "AlgebraTree$Node"), (cR, .object "AlgebraTree$Rows")] base zbelow zargs zs 0 0 (fun zv zV => ∃ vl1 : Nat → Int32, ∃ kf1 : Nat → Int32, ∃ pf1 : Nat → Int32, ∃ n1 : Nat, ∃ tl1 : Int32, ∃ f1 : Nat → Int32, zv = none ∧ zV = gv_up (gv_up (gv_up (gv_up (gv_up V av (.inl (cI, 30, .inl vl1))) ky (.inl (cI, 80, .inl kf1))) pl (.inl (cI, 80, .inl pf1))) oc (.inl (cI, 486, .inl f1))) o (.inr (4, [.ref oc, .int (nI n1), .int tl1, .int (nI nt)])) ∧ (TRep (eachS SA vv) n1 tl1 f1))) V 0 0 [(0, .ref mo), (1, .int (nI i)), (2, .int (nI g))] 0 []
  refine k_aload_n C dX1_refresh_0 rfl 0 rfl ?_
  refine k_iload_n C dX1_refresh_1 rfl 1 rfl ?_
  refine k_iload_n C dX1_refresh_2 rfl 2 rfl ?_
  refine k_callV_pr C mv_1_56 (c_tableOf  h_mo h_tb (by first | assumption | omega) (by first | assumption | omega) (by first | assumption | omega)) h_mo rfl rfl (by simp [Value.category]) ⟨by decide, by decide⟩ ⟨(by decide), (by decide)⟩ dX1_refresh_3 ?_
  refine k_astore_n (lv' := [(3, .ref o), (0, .ref mo), (1, .int (nI i)), (2, .int (nI g))]) C dX1_refresh_6 rfl (by decide) rfl ?_
  refine k_aload_n C dX1_refresh_7 rfl 0 rfl ?_
  refine k_get (ci := 4) (k := 3) C fl_1_84 h_o rfl dX1_refresh_8 ?_
  refine k_aload_n C dX1_refresh_11 rfl 1 rfl ?_
  refine k_get (ci := 1) (k := 0) C fl_1_12 h_mo rfl dX1_refresh_12 ?_
  refine k_get (ci := 5) (k := 4) C fl_1_87 h_tr rfl dX1_refresh_15 ?_
  refine k_icmp_ne (tgt := 22) C dX1_refresh_18 (by decide) (fun c18 => ?_) (fun c18 => ?_)
  · skip
    refine k_aload_n C dX1_refresh_22 rfl 0 rfl ?_
    refine k_callV_pv C mv_1_90 (c_X4_clear  h_o h_oc ) h_o rfl rfl (by simp [Value.category]) ⟨by decide, by decide⟩ ⟨(by decide), (by decide)⟩ dX1_refresh_23 ?_
    refine k_aload_n C dX1_refresh_26 rfl 0 rfl ?_
    refine k_aload_n C dX1_refresh_27 rfl 1 rfl ?_
    have ne1 : nq mo o := gv_ne h_o h_mo (by simp)
    refine k_get (ci := 1) (k := 0) C fl_1_12 ((gv_up_n ne1).trans h_mo) rfl dX1_refresh_28 ?_
    have ne2 : nq tr o := gv_ne h_o h_tr (by simp)
    refine k_get (ci := 5) (k := 4) C fl_1_87 ((gv_up_n ne2).trans h_tr) rfl dX1_refresh_31 ?_
    refine k_put (ci := 4) (k := 3) (fs' := [.ref oc, .int (nI 0), .int (nI 0), .int (nI nt)]) C fl_1_84 pf_4_3 gv_up_s rfl rfl (Nat.le_of_ble_eq_true rfl) rfl dX1_refresh_34 ?_
    refine k_view (V1 := gv_up V o (.inr (4, [.ref oc, .int (nI 0), .int (nI 0), .int (nI nt)]))) gv_uu ?_
    refine k_aload_n C dX1_refresh_37 rfl 1 rfl ?_
    refine k_get (ci := 1) (k := 2) C fl_1_28 ((gv_up_n ne1).trans h_mo) rfl dX1_refresh_38 ?_
    refine k_iload_n C dX1_refresh_41 rfl 2 rfl ?_
    have ne3 : nq nd o := gv_ne h_o h_nd (by simp)
    have ne4 : nq nl o := gv_ne h_o h_nl (by simp)
    refine k_callV_pr C mv_1_60 (c_X3_at  ((gv_up_n ne3).trans h_nd) ((gv_up_n ne4).trans h_nl) (by first | assumption | omega) hnf) ((gv_up_n ne3).trans h_nd) rfl rfl (by simp [Value.category]) ⟨by decide, by decide⟩ ⟨(by decide), (by decide)⟩ dX1_refresh_42 ?_
    refine k_astore (lv' := [(4, .ref no), (3, .ref o), (0, .ref mo), (1, .int (nI i)), (2, .int (nI g))]) C dX1_refresh_45 (by decide) rfl ?_
    refine k_aload C dX1_refresh_47 0 rfl ?_
    have ne5 : nq no o := gv_ne h_o h_no (by simp)
    refine k_get (ci := 2) (k := 0) C fl_1_77 ((gv_up_n ne5).trans h_no) rfl dX1_refresh_49 ?_
    refine k_bipush (v := nI 12) C dX1_refresh_52 rfl ?_
    refine k_icmp_ne (tgt := 65) C dX1_refresh_54 (by decide) (fun c54 => ?_) (fun c54 => ?_)
    · skip
      have b54 : ¬ 13 = 12 := fun z => c54 ((nI_eq (a := 13) (b := 12) (by omega) (by omega)).mpr z)
      refine k_iload_n C dX1_refresh_65 rfl 4 rfl ?_
      refine k_istore (lv' := [(5, .int (nI g)), (4, .ref no), (3, .ref o), (0, .ref mo), (1, .int (nI i)), (2, .int (nI g))]) C dX1_refresh_66 (by decide) rfl ?_
      refine k_aload C dX1_refresh_68 1 rfl ?_
      refine k_get (ci := 2) (k := 0) C fl_1_77 ((gv_up_n ne5).trans h_no) rfl dX1_refresh_70 ?_
      refine k_if_ne (tgt := 87) C dX1_refresh_73 (by decide) (fun c73 => ?_) (fun c73 => ?_)
      · skip
        have b73 : ¬ 13 = 0 := fun z => c73 ((nI_eq (a := 13) (b := 0) (by omega) (by omega)).mpr z)
        refine k_aload C dX1_refresh_87 1 rfl ?_
        refine k_get (ci := 2) (k := 0) C fl_1_77 ((gv_up_n ne5).trans h_no) rfl dX1_refresh_89 ?_
        refine k_bipush (v := nI 13) C dX1_refresh_92 rfl ?_
        refine k_icmp_ne (tgt := 107) C dX1_refresh_94 (by decide) (fun c94 => ?_) (fun c94 => ?_)
        · skip
          exact absurd rfl c94
        · skip
          have b94 : 13 = 13 := (nI_eq (a := 13) (b := 13) (by omega) (by omega)).mp c94
          refine k_aload_n C dX1_refresh_97 rfl 3 rfl ?_
          refine k_aload C dX1_refresh_98 1 rfl ?_
          refine k_aload_n C dX1_refresh_100 rfl 2 rfl ?_
          have ne6 : nq tb o := gv_ne h_o h_tb (by simp)
          have ne7 : nq oc o := gv_ne h_o h_oc (by simp)
          refine k_callV C mv_1_97 (c_X1_makeEachGraph  ((gv_up_n ne1).trans h_mo) ((gv_up_n ne5).trans h_no) ((gv_up_n ne6).trans h_tb) gv_up_s ((gv_up_n ne7).trans h_oc) (by omega) (by first | assumption | omega) (fun z h1 h2 => by
            obtain ⟨p1, p2, p3, p4, p5, p6⟩ := hch z h1 h2
            exact ⟨p1, (gv_up_n (Ne.symm p4)).trans p2, (gv_up_n (gv_ne h_o p3 (by simp))).trans p3, p4, p5, p6⟩)) ((gv_up_n ne1).trans h_mo) rfl rfl (by simp [Value.category]) ⟨by decide, by decide⟩ ⟨(by decide), (by decide)⟩ dX1_refresh_101 (fun zv zV zh => ?_)
          obtain ⟨n1_w8, tl1_w8, f1_w8, rfl, rfl, ht1_w8⟩ := zh
          refine k_pc (pc' := 104) (st' := []) rfl rfl ?_
          refine k_view (V1 := gv_up (gv_up V o (.inr (4, [.ref oc, .int (nI n1_w8), .int tl1_w8, .int (nI nt)]))) oc (.inl (cI, 486, .inl f1_w8))) ((gv_uc (Ne.symm ne7)).trans (congrArg (fun W => gv_up W oc (.inl (cI, 486, .inl f1_w8))) gv_uu)) ?_
          refine k_goto (tgt := 166) C dX1_refresh_104 (by decide) ?_
          have ne9 : nq av o := gv_ne h_o h_av (by simp)
          have ne10 : nq av oc := gv_ne h_oc h_av (by simp)
          refine k_view (V1 := gv_up (gv_up (gv_up V o (.inr (4, [.ref oc, .int (nI n1_w8), .int tl1_w8, .int (nI nt)]))) oc (.inl (cI, 486, .inl f1_w8))) av (.inl (cI, 30, .inl vl))) (gv_id ((gv_up_n ne10).trans ((gv_up_n ne9).trans h_av))).symm ?_
          have ne11 : nq ky o := gv_ne h_o h_ky (by simp)
          have ne12 : nq ky oc := gv_ne h_oc h_ky (by simp)
          have ne13 : nq ky av := gv_ne h_av h_ky (by simp)
          refine k_view (V1 := gv_up (gv_up (gv_up (gv_up V o (.inr (4, [.ref oc, .int (nI n1_w8), .int tl1_w8, .int (nI nt)]))) oc (.inl (cI, 486, .inl f1_w8))) av (.inl (cI, 30, .inl vl))) ky (.inl (cI, 80, .inl kf))) (gv_id ((gv_up_n ne13).trans ((gv_up_n ne12).trans ((gv_up_n ne11).trans h_ky)))).symm ?_
          have ne14 : nq pl o := gv_ne h_o h_pl (by simp)
          have ne15 : nq pl oc := gv_ne h_oc h_pl (by simp)
          have ne16 : nq pl av := gv_ne h_av h_pl (by simp)
          refine k_view (V1 := gv_up (gv_up (gv_up (gv_up (gv_up V o (.inr (4, [.ref oc, .int (nI n1_w8), .int tl1_w8, .int (nI nt)]))) oc (.inl (cI, 486, .inl f1_w8))) av (.inl (cI, 30, .inl vl))) ky (.inl (cI, 80, .inl kf))) pl (.inl (cI, 80, .inl pf))) (gv_id ((gv_up_n (Ne.symm hky)).trans ((gv_up_n ne16).trans ((gv_up_n ne15).trans ((gv_up_n ne14).trans h_pl))))).symm ?_
          refine k_view (V1 := gv_up (gv_up (gv_up (gv_up (gv_up V o (.inr (4, [.ref oc, .int (nI n1_w8), .int tl1_w8, .int (nI nt)]))) av (.inl (cI, 30, .inl vl))) oc (.inl (cI, 486, .inl f1_w8))) ky (.inl (cI, 80, .inl kf))) pl (.inl (cI, 80, .inl pf))) (congrArg (fun W => gv_up W pl (.inl (cI, 80, .inl pf))) (congrArg (fun W => gv_up W ky (.inl (cI, 80, .inl kf))) (gv_uc ne10))) ?_
          refine k_view (V1 := gv_up (gv_up (gv_up (gv_up (gv_up V av (.inl (cI, 30, .inl vl))) o (.inr (4, [.ref oc, .int (nI n1_w8), .int tl1_w8, .int (nI nt)]))) oc (.inl (cI, 486, .inl f1_w8))) ky (.inl (cI, 80, .inl kf))) pl (.inl (cI, 80, .inl pf))) (congrArg (fun W => gv_up W pl (.inl (cI, 80, .inl pf))) (congrArg (fun W => gv_up W ky (.inl (cI, 80, .inl kf))) (congrArg (fun W => gv_up W oc (.inl (cI, 486, .inl f1_w8))) (gv_uc ne9)))) ?_
          refine k_view (V1 := gv_up (gv_up (gv_up (gv_up (gv_up V av (.inl (cI, 30, .inl vl))) o (.inr (4, [.ref oc, .int (nI n1_w8), .int tl1_w8, .int (nI nt)]))) ky (.inl (cI, 80, .inl kf))) oc (.inl (cI, 486, .inl f1_w8))) pl (.inl (cI, 80, .inl pf))) (congrArg (fun W => gv_up W pl (.inl (cI, 80, .inl pf))) (gv_uc ne12)) ?_
          refine k_view (V1 := gv_up (gv_up (gv_up (gv_up (gv_up V av (.inl (cI, 30, .inl vl))) ky (.inl (cI, 80, .inl kf))) o (.inr (4, [.ref oc, .int (nI n1_w8), .int tl1_w8, .int (nI nt)]))) oc (.inl (cI, 486, .inl f1_w8))) pl (.inl (cI, 80, .inl pf))) (congrArg (fun W => gv_up W pl (.inl (cI, 80, .inl pf))) (congrArg (fun W => gv_up W oc (.inl (cI, 486, .inl f1_w8))) (gv_uc ne11))) ?_
          refine k_view (V1 := gv_up (gv_up (gv_up (gv_up (gv_up V av (.inl (cI, 30, .inl vl))) ky (.inl (cI, 80, .inl kf))) o (.inr (4, [.ref oc, .int (nI n1_w8), .int tl1_w8, .int (nI nt)]))) pl (.inl (cI, 80, .inl pf))) oc (.inl (cI, 486, .inl f1_w8))) (gv_uc ne15) ?_
          refine k_view (V1 := gv_up (gv_up (gv_up (gv_up (gv_up V av (.inl (cI, 30, .inl vl))) ky (.inl (cI, 80, .inl kf))) pl (.inl (cI, 80, .inl pf))) o (.inr (4, [.ref oc, .int (nI n1_w8), .int tl1_w8, .int (nI nt)]))) oc (.inl (cI, 486, .inl f1_w8))) (congrArg (fun W => gv_up W oc (.inl (cI, 486, .inl f1_w8))) (gv_uc ne14)) ?_
          refine k_view (V1 := gv_up (gv_up (gv_up (gv_up (gv_up V av (.inl (cI, 30, .inl vl))) ky (.inl (cI, 80, .inl kf))) pl (.inl (cI, 80, .inl pf))) oc (.inl (cI, 486, .inl f1_w8))) o (.inr (4, [.ref oc, .int (nI n1_w8), .int tl1_w8, .int (nI nt)]))) (gv_uc ne7) ?_
          exact k_vret C zr zlk ⟨vl, kf, pf, n1_w8, tl1_w8, f1_w8, rfl, rfl, ht1_w8⟩ (Nat.le_refl _) (Nat.le_refl _) dX1_refresh_166
      · skip
        exact absurd c73 (by decide)
    · skip
      exact absurd c54 (by decide)
  · skip
    exact absurd c18 hst
set_option maxHeartbeats 4000000 in
set_option maxRecDepth 100000 in
theorem c_ref5E {zl : Launch} {D : va_G} {cI cN cR : ClassId} {base : Nat} {V : gv_V} {mo tr nd tb wg ky pl : Nat} {tga tsa tpa tqa nt : Nat} {tg ts tp tq : Nat → Int32} {nl nn : Nat} {nf : Nat → Option Nat} {no : Nat} {ps pp po va st fr ln dn ag gr : Int32} {e : Nat} {xe ak af as ap av ne : Nat} {kd fs sc pt vl : Nat → Int32} {kf pf : Nat → Int32} {tf : Nat → Option Nat} {i g a0 n0 : Nat} {o oc : Nat} {tl0 omk : Int32} {of : Nat → Int32} {E : Nat → Ex} {a c n : Nat} {tl mk : Int32} {f : Nat → Int32} {SA : Option (List Row)}  (h_mo : V mo = some (.inr (1, [.ref tr, .ref xe, .ref nd, .ref tb, .ref wg, .ref ky, .ref pl]))) (h_tr : V tr = some (.inr (5, [.ref tga, .ref tsa, .ref tpa, .ref tqa, .int (nI nt)]))) (h_tga : V tga = some (.inl (cI, 60, .inl tg))) (h_tsa : V tsa = some (.inl (cI, 60, .inl ts))) (h_tpa : V tpa = some (.inl (cI, 60, .inl tp))) (h_tqa : V tqa = some (.inl (cI, 60, .inl tq))) (h_nd : V nd = some (.inr (3, [.ref nl, .int (nI nn)]))) (h_nl : V nl = some (.inl (cN, 30, .inr (.inr (.inr (.inr nf)))))) (h_no : V no = some (.inr (2, [.int (nI 5), .int (nI a0), .int (-1 : Int32), .int ps, .int pp, .int po, .int (nI e), .int va, .int st, .int fr, .int ln, .int dn, .int ag, .int gr]))) (h_xe : V xe = some (.inr (0, [.ref ak, .ref af, .ref as, .ref ap, .ref av, .int (nI ne)]))) (h_ak : V ak = some (.inl (cI, 30, .inl kd))) (h_af : V af = some (.inl (cI, 30, .inl fs))) (h_as : V as = some (.inl (cI, 30, .inl sc))) (h_ap : V ap = some (.inl (cI, 30, .inl pt))) (h_av : V av = some (.inl (cI, 30, .inl vl))) (h_ky : V ky = some (.inl (cI, 80, .inl kf))) (h_pl : V pl = some (.inl (cI, 80, .inl pf))) (h_tb : V tb = some (.inl (cR, 120, .inr (.inr (.inr (.inr tf)))))) (h_o : V o = some (.inr (4, [.ref oc, .int (nI n0), .int tl0, .int omk]))) (h_oc : V oc = some (.inl (cI, 486, .inl of))) (h_a : V a = some (.inr (4, [.ref c, .int (nI n), .int tl, .int mk]))) (h_c : V c = some (.inl (cI, 486, .inl f))) (hX : ExR E ne kd fs sc pt) (hd : [ak, af, as, ap, av].Nodup) (hi : i < 30) (hg : g < 4) (hnf : nf i = some no) (hky : nq ky pl) (hnt : nt ≤ 60) (ht : tf (i * 4 + g) = some o) (hst : ¬ omk = nI nt) (ha0 : a0 < i) (hta : tf (a0 * 4 + g) = some a) (hSa : TRep SA n tl f) (hoa : nq o a) (hca : nq oc c) (he : e < ne) : ct zl D [(cI, .int), (cN, .object "AlgebraTree$Node"), (cR, .object "AlgebraTree$Rows")] base yX1_refresh cX1_refresh 6 none 5 0 0 [.ref mo, .int (nI i), .int (nI g)] V (fun zv zV => ∃ vl1 : Nat → Int32, ∃ kf1 : Nat → Int32, ∃ pf1 : Nat → Int32, ∃ n1 : Nat, ∃ tl1 : Int32, ∃ f1 : Nat → Int32, zv = none ∧ zV = gv_up (gv_up (gv_up (gv_up (gv_up V av (.inl (cI, 30, .inl vl1))) ky (.inl (cI, 80, .inl kf1))) pl (.inl (cI, 80, .inl pf1))) oc (.inl (cI, 486, .inl f1))) o (.inr (4, [.ref oc, .int (nI n1), .int tl1, .int (nI nt)])) ∧ (TRep (SA.bind (fun A => cap (A.filter (fun x => isT (ev E x e))))) n1 tl1 f1)) := by
  refine ct_of "AlgebraTree$Maker" rfl (by decide) (Nat.le_of_ble_eq_true rfl) ?_
  intro zp ze zs zm zargs zbelow zmeth zc C zr zlk znm
  refine k_pc (pc' := 0) (st' := []) rfl rfl ?_
  show K zp zl ze (gv_rm 5 0 0) zs zm zargs zbelow zmeth zc D base 6 (gv_E D [(cI, .int), (cN, .object "AlgebraTree$Node"), (cR, .object "AlgebraTree$Rows")] base zbelow zargs zs 0 0 (fun zv zV => ∃ vl1 : Nat → Int32, ∃ kf1 : Nat → Int32, ∃ pf1 : Nat → Int32, ∃ n1 : Nat, ∃ tl1 : Int32, ∃ f1 : Nat → Int32, zv = none ∧ zV = gv_up (gv_up (gv_up (gv_up (gv_up V av (.inl (cI, 30, .inl vl1))) ky (.inl (cI, 80, .inl kf1))) pl (.inl (cI, 80, .inl pf1))) oc (.inl (cI, 486, .inl f1))) o (.inr (4, [.ref oc, .int (nI n1), .int tl1, .int (nI nt)])) ∧ (TRep (SA.bind (fun A => cap (A.filter (fun x => isT (ev E x e))))) n1 tl1 f1))) V 0 0 [(0, .ref mo), (1, .int (nI i)), (2, .int (nI g))] 0 []
  refine k_aload_n C dX1_refresh_0 rfl 0 rfl ?_
  refine k_iload_n C dX1_refresh_1 rfl 1 rfl ?_
  refine k_iload_n C dX1_refresh_2 rfl 2 rfl ?_
  refine k_callV_pr C mv_1_56 (c_tableOf  h_mo h_tb (by first | assumption | omega) (by first | assumption | omega) (by first | assumption | omega)) h_mo rfl rfl (by simp [Value.category]) ⟨by decide, by decide⟩ ⟨(by decide), (by decide)⟩ dX1_refresh_3 ?_
  refine k_astore_n (lv' := [(3, .ref o), (0, .ref mo), (1, .int (nI i)), (2, .int (nI g))]) C dX1_refresh_6 rfl (by decide) rfl ?_
  refine k_aload_n C dX1_refresh_7 rfl 0 rfl ?_
  refine k_get (ci := 4) (k := 3) C fl_1_84 h_o rfl dX1_refresh_8 ?_
  refine k_aload_n C dX1_refresh_11 rfl 1 rfl ?_
  refine k_get (ci := 1) (k := 0) C fl_1_12 h_mo rfl dX1_refresh_12 ?_
  refine k_get (ci := 5) (k := 4) C fl_1_87 h_tr rfl dX1_refresh_15 ?_
  refine k_icmp_ne (tgt := 22) C dX1_refresh_18 (by decide) (fun c18 => ?_) (fun c18 => ?_)
  · skip
    refine k_aload_n C dX1_refresh_22 rfl 0 rfl ?_
    refine k_callV_pv C mv_1_90 (c_X4_clear  h_o h_oc ) h_o rfl rfl (by simp [Value.category]) ⟨by decide, by decide⟩ ⟨(by decide), (by decide)⟩ dX1_refresh_23 ?_
    refine k_aload_n C dX1_refresh_26 rfl 0 rfl ?_
    refine k_aload_n C dX1_refresh_27 rfl 1 rfl ?_
    have ne1 : nq mo o := gv_ne h_o h_mo (by simp)
    refine k_get (ci := 1) (k := 0) C fl_1_12 ((gv_up_n ne1).trans h_mo) rfl dX1_refresh_28 ?_
    have ne2 : nq tr o := gv_ne h_o h_tr (by simp)
    refine k_get (ci := 5) (k := 4) C fl_1_87 ((gv_up_n ne2).trans h_tr) rfl dX1_refresh_31 ?_
    refine k_put (ci := 4) (k := 3) (fs' := [.ref oc, .int (nI 0), .int (nI 0), .int (nI nt)]) C fl_1_84 pf_4_3 gv_up_s rfl rfl (Nat.le_of_ble_eq_true rfl) rfl dX1_refresh_34 ?_
    refine k_view (V1 := gv_up V o (.inr (4, [.ref oc, .int (nI 0), .int (nI 0), .int (nI nt)]))) gv_uu ?_
    refine k_aload_n C dX1_refresh_37 rfl 1 rfl ?_
    refine k_get (ci := 1) (k := 2) C fl_1_28 ((gv_up_n ne1).trans h_mo) rfl dX1_refresh_38 ?_
    refine k_iload_n C dX1_refresh_41 rfl 2 rfl ?_
    have ne3 : nq nd o := gv_ne h_o h_nd (by simp)
    have ne4 : nq nl o := gv_ne h_o h_nl (by simp)
    refine k_callV_pr C mv_1_60 (c_X3_at  ((gv_up_n ne3).trans h_nd) ((gv_up_n ne4).trans h_nl) (by first | assumption | omega) hnf) ((gv_up_n ne3).trans h_nd) rfl rfl (by simp [Value.category]) ⟨by decide, by decide⟩ ⟨(by decide), (by decide)⟩ dX1_refresh_42 ?_
    refine k_astore (lv' := [(4, .ref no), (3, .ref o), (0, .ref mo), (1, .int (nI i)), (2, .int (nI g))]) C dX1_refresh_45 (by decide) rfl ?_
    refine k_aload C dX1_refresh_47 0 rfl ?_
    have ne5 : nq no o := gv_ne h_o h_no (by simp)
    refine k_get (ci := 2) (k := 0) C fl_1_77 ((gv_up_n ne5).trans h_no) rfl dX1_refresh_49 ?_
    refine k_bipush (v := nI 12) C dX1_refresh_52 rfl ?_
    refine k_icmp_ne (tgt := 65) C dX1_refresh_54 (by decide) (fun c54 => ?_) (fun c54 => ?_)
    · skip
      have b54 : ¬ 5 = 12 := fun z => c54 ((nI_eq (a := 5) (b := 12) (by omega) (by omega)).mpr z)
      refine k_iload_n C dX1_refresh_65 rfl 4 rfl ?_
      refine k_istore (lv' := [(5, .int (nI g)), (4, .ref no), (3, .ref o), (0, .ref mo), (1, .int (nI i)), (2, .int (nI g))]) C dX1_refresh_66 (by decide) rfl ?_
      refine k_aload C dX1_refresh_68 1 rfl ?_
      refine k_get (ci := 2) (k := 0) C fl_1_77 ((gv_up_n ne5).trans h_no) rfl dX1_refresh_70 ?_
      refine k_if_ne (tgt := 87) C dX1_refresh_73 (by decide) (fun c73 => ?_) (fun c73 => ?_)
      · skip
        have b73 : ¬ 5 = 0 := fun z => c73 ((nI_eq (a := 5) (b := 0) (by omega) (by omega)).mpr z)
        refine k_aload C dX1_refresh_87 1 rfl ?_
        refine k_get (ci := 2) (k := 0) C fl_1_77 ((gv_up_n ne5).trans h_no) rfl dX1_refresh_89 ?_
        refine k_bipush (v := nI 13) C dX1_refresh_92 rfl ?_
        refine k_icmp_ne (tgt := 107) C dX1_refresh_94 (by decide) (fun c94 => ?_) (fun c94 => ?_)
        · skip
          have b94 : ¬ 5 = 13 := fun z => c94 ((nI_eq (a := 5) (b := 13) (by omega) (by omega)).mpr z)
          refine k_aload C dX1_refresh_107 1 rfl ?_
          refine k_get (ci := 2) (k := 2) C fl_1_74 ((gv_up_n ne5).trans h_no) rfl dX1_refresh_109 ?_
          refine k_iconst (v := (-1 : Int32)) C dX1_refresh_112 (by decide) ?_
          refine k_icmp_ne (tgt := 137) C dX1_refresh_113 (by decide) (fun c113 => ?_) (fun c113 => ?_)
          · skip
            exact absurd rfl c113
          · skip
            refine k_aload_n C dX1_refresh_116 rfl 3 rfl ?_
            refine k_aload C dX1_refresh_117 1 rfl ?_
            refine k_aload_n C dX1_refresh_119 rfl 3 rfl ?_
            refine k_aload C dX1_refresh_120 1 rfl ?_
            refine k_get (ci := 2) (k := 1) C fl_1_68 ((gv_up_n ne5).trans h_no) rfl dX1_refresh_122 ?_
            refine k_iload C dX1_refresh_125 0 rfl ?_
            have ne6 : nq tb o := gv_ne h_o h_tb (by simp)
            refine k_callV_pr C mv_1_56 (c_tableOf  ((gv_up_n ne1).trans h_mo) ((gv_up_n ne6).trans h_tb) (by first | assumption | omega) (by first | assumption | omega) hta) ((gv_up_n ne1).trans h_mo) rfl rfl (by simp [Value.category]) ⟨by decide, by decide⟩ ⟨(by decide), (by decide)⟩ dX1_refresh_127 ?_
            refine k_aload_n C dX1_refresh_130 rfl 2 rfl ?_
            rcases SA with _ | A
            · skip
              have ne7 : nq xe o := gv_ne h_o h_xe (by simp)
              have ne8 : nq ak o := gv_ne h_o h_ak (by simp)
              have ne9 : nq af o := gv_ne h_o h_af (by simp)
              have ne10 : nq as o := gv_ne h_o h_as (by simp)
              have ne11 : nq ap o := gv_ne h_o h_ap (by simp)
              have ne12 : nq av o := gv_ne h_o h_av (by simp)
              have ne13 : nq c o := gv_ne h_o h_c (by simp)
              have ne14 : nq oc o := gv_ne h_o h_oc (by simp)
              have ne15 : nq ky o := gv_ne h_o h_ky (by simp)
              have ne16 : nq pl o := gv_ne h_o h_pl (by simp)
              refine k_callV C mv_1_101 (c_overL  ((gv_up_n ne1).trans h_mo) ((gv_up_n ne5).trans h_no) ((gv_up_n ne7).trans h_xe) ((gv_up_n ne8).trans h_ak) ((gv_up_n ne9).trans h_af) ((gv_up_n ne10).trans h_as) ((gv_up_n ne11).trans h_ap) ((gv_up_n ne12).trans h_av) ((gv_up_n (Ne.symm hoa)).trans h_a) ((gv_up_n ne13).trans h_c) gv_up_s ((gv_up_n ne14).trans h_oc) ((gv_up_n ne15).trans h_ky) ((gv_up_n ne16).trans h_pl) hSa (by first | assumption | omega) hoa hca hky) ((gv_up_n ne1).trans h_mo) rfl rfl (by simp [Value.category]) ⟨by decide, by decide⟩ ⟨(by decide), (by decide)⟩ dX1_refresh_131 (fun zv zV zh => ?_)
              obtain ⟨vl1_w17, kf1_w17, pf1_w17, n1_w17, tl1_w17, f1_w17, rfl, rfl, ht1_w17⟩ := zh
              refine k_pc (pc' := 134) (st' := []) rfl rfl ?_
              refine k_view (V1 := gv_up (gv_up (gv_up (gv_up (gv_up V o (.inr (4, [.ref oc, .int (nI n1_w17), .int tl1_w17, .int (nI nt)]))) av (.inl (cI, 30, .inl vl1_w17))) ky (.inl (cI, 80, .inl kf1_w17))) pl (.inl (cI, 80, .inl pf1_w17))) oc (.inl (cI, 486, .inl f1_w17))) ((gv_uc (Ne.symm ne14)).trans (congrArg (fun W => gv_up W oc (.inl (cI, 486, .inl f1_w17))) ((gv_uc (Ne.symm ne16)).trans (congrArg (fun W => gv_up W pl (.inl (cI, 80, .inl pf1_w17))) ((gv_uc (Ne.symm ne15)).trans (congrArg (fun W => gv_up W ky (.inl (cI, 80, .inl kf1_w17))) ((gv_uc (Ne.symm ne12)).trans (congrArg (fun W => gv_up W av (.inl (cI, 30, .inl vl1_w17))) gv_uu)))))))) ?_
              refine k_goto (tgt := 166) C dX1_refresh_134 (by decide) ?_
              refine k_view (V1 := gv_up (gv_up (gv_up (gv_up (gv_up V av (.inl (cI, 30, .inl vl1_w17))) o (.inr (4, [.ref oc, .int (nI n1_w17), .int tl1_w17, .int (nI nt)]))) ky (.inl (cI, 80, .inl kf1_w17))) pl (.inl (cI, 80, .inl pf1_w17))) oc (.inl (cI, 486, .inl f1_w17))) (congrArg (fun W => gv_up W oc (.inl (cI, 486, .inl f1_w17))) (congrArg (fun W => gv_up W pl (.inl (cI, 80, .inl pf1_w17))) (congrArg (fun W => gv_up W ky (.inl (cI, 80, .inl kf1_w17))) (gv_uc ne12)))) ?_
              refine k_view (V1 := gv_up (gv_up (gv_up (gv_up (gv_up V av (.inl (cI, 30, .inl vl1_w17))) ky (.inl (cI, 80, .inl kf1_w17))) o (.inr (4, [.ref oc, .int (nI n1_w17), .int tl1_w17, .int (nI nt)]))) pl (.inl (cI, 80, .inl pf1_w17))) oc (.inl (cI, 486, .inl f1_w17))) (congrArg (fun W => gv_up W oc (.inl (cI, 486, .inl f1_w17))) (congrArg (fun W => gv_up W pl (.inl (cI, 80, .inl pf1_w17))) (gv_uc ne15))) ?_
              refine k_view (V1 := gv_up (gv_up (gv_up (gv_up (gv_up V av (.inl (cI, 30, .inl vl1_w17))) ky (.inl (cI, 80, .inl kf1_w17))) pl (.inl (cI, 80, .inl pf1_w17))) o (.inr (4, [.ref oc, .int (nI n1_w17), .int tl1_w17, .int (nI nt)]))) oc (.inl (cI, 486, .inl f1_w17))) (congrArg (fun W => gv_up W oc (.inl (cI, 486, .inl f1_w17))) (gv_uc ne16)) ?_
              refine k_view (V1 := gv_up (gv_up (gv_up (gv_up (gv_up V av (.inl (cI, 30, .inl vl1_w17))) ky (.inl (cI, 80, .inl kf1_w17))) pl (.inl (cI, 80, .inl pf1_w17))) oc (.inl (cI, 486, .inl f1_w17))) o (.inr (4, [.ref oc, .int (nI n1_w17), .int tl1_w17, .int (nI nt)]))) (gv_uc ne14) ?_
              exact k_vret C zr zlk ⟨vl1_w17, kf1_w17, pf1_w17, n1_w17, tl1_w17, f1_w17, rfl, rfl, ht1_w17⟩ (Nat.le_refl _) (Nat.le_refl _) dX1_refresh_166
            · skip
              have ne18 : nq xe o := gv_ne h_o h_xe (by simp)
              have ne19 : nq ak o := gv_ne h_o h_ak (by simp)
              have ne20 : nq af o := gv_ne h_o h_af (by simp)
              have ne21 : nq as o := gv_ne h_o h_as (by simp)
              have ne22 : nq ap o := gv_ne h_o h_ap (by simp)
              have ne23 : nq av o := gv_ne h_o h_av (by simp)
              have ne24 : nq c o := gv_ne h_o h_c (by simp)
              have ne25 : nq oc o := gv_ne h_o h_oc (by simp)
              have ne26 : nq ky o := gv_ne h_o h_ky (by simp)
              have ne27 : nq pl o := gv_ne h_o h_pl (by simp)
              refine k_callV C mv_1_101 (c_over5  ((gv_up_n ne1).trans h_mo) ((gv_up_n ne5).trans h_no) ((gv_up_n ne18).trans h_xe) ((gv_up_n ne19).trans h_ak) ((gv_up_n ne20).trans h_af) ((gv_up_n ne21).trans h_as) ((gv_up_n ne22).trans h_ap) ((gv_up_n ne23).trans h_av) ((gv_up_n (Ne.symm hoa)).trans h_a) ((gv_up_n ne24).trans h_c) gv_up_s ((gv_up_n ne25).trans h_oc) ((gv_up_n ne26).trans h_ky) ((gv_up_n ne27).trans h_pl) (by first | assumption | omega) (by first | assumption | omega) hSa.2 hoa hca hSa.1 hky (by first | assumption | omega)) ((gv_up_n ne1).trans h_mo) rfl rfl (by simp [Value.category]) ⟨by decide, by decide⟩ ⟨(by decide), (by decide)⟩ dX1_refresh_131 (fun zv zV zh => ?_)
              obtain ⟨vl1_w28, kf1_w28, pf1_w28, n1_w28, tl1_w28, f1_w28, rfl, rfl, ht1_w28⟩ := zh
              refine k_pc (pc' := 134) (st' := []) rfl rfl ?_
              refine k_view (V1 := gv_up (gv_up (gv_up (gv_up (gv_up V o (.inr (4, [.ref oc, .int (nI n1_w28), .int tl1_w28, .int (nI nt)]))) av (.inl (cI, 30, .inl vl1_w28))) ky (.inl (cI, 80, .inl kf1_w28))) pl (.inl (cI, 80, .inl pf1_w28))) oc (.inl (cI, 486, .inl f1_w28))) ((gv_uc (Ne.symm ne25)).trans (congrArg (fun W => gv_up W oc (.inl (cI, 486, .inl f1_w28))) ((gv_uc (Ne.symm ne27)).trans (congrArg (fun W => gv_up W pl (.inl (cI, 80, .inl pf1_w28))) ((gv_uc (Ne.symm ne26)).trans (congrArg (fun W => gv_up W ky (.inl (cI, 80, .inl kf1_w28))) ((gv_uc (Ne.symm ne23)).trans (congrArg (fun W => gv_up W av (.inl (cI, 30, .inl vl1_w28))) gv_uu)))))))) ?_
              refine k_goto (tgt := 166) C dX1_refresh_134 (by decide) ?_
              refine k_view (V1 := gv_up (gv_up (gv_up (gv_up (gv_up V av (.inl (cI, 30, .inl vl1_w28))) o (.inr (4, [.ref oc, .int (nI n1_w28), .int tl1_w28, .int (nI nt)]))) ky (.inl (cI, 80, .inl kf1_w28))) pl (.inl (cI, 80, .inl pf1_w28))) oc (.inl (cI, 486, .inl f1_w28))) (congrArg (fun W => gv_up W oc (.inl (cI, 486, .inl f1_w28))) (congrArg (fun W => gv_up W pl (.inl (cI, 80, .inl pf1_w28))) (congrArg (fun W => gv_up W ky (.inl (cI, 80, .inl kf1_w28))) (gv_uc ne23)))) ?_
              refine k_view (V1 := gv_up (gv_up (gv_up (gv_up (gv_up V av (.inl (cI, 30, .inl vl1_w28))) ky (.inl (cI, 80, .inl kf1_w28))) o (.inr (4, [.ref oc, .int (nI n1_w28), .int tl1_w28, .int (nI nt)]))) pl (.inl (cI, 80, .inl pf1_w28))) oc (.inl (cI, 486, .inl f1_w28))) (congrArg (fun W => gv_up W oc (.inl (cI, 486, .inl f1_w28))) (congrArg (fun W => gv_up W pl (.inl (cI, 80, .inl pf1_w28))) (gv_uc ne26))) ?_
              refine k_view (V1 := gv_up (gv_up (gv_up (gv_up (gv_up V av (.inl (cI, 30, .inl vl1_w28))) ky (.inl (cI, 80, .inl kf1_w28))) pl (.inl (cI, 80, .inl pf1_w28))) o (.inr (4, [.ref oc, .int (nI n1_w28), .int tl1_w28, .int (nI nt)]))) oc (.inl (cI, 486, .inl f1_w28))) (congrArg (fun W => gv_up W oc (.inl (cI, 486, .inl f1_w28))) (gv_uc ne27)) ?_
              refine k_view (V1 := gv_up (gv_up (gv_up (gv_up (gv_up V av (.inl (cI, 30, .inl vl1_w28))) ky (.inl (cI, 80, .inl kf1_w28))) pl (.inl (cI, 80, .inl pf1_w28))) oc (.inl (cI, 486, .inl f1_w28))) o (.inr (4, [.ref oc, .int (nI n1_w28), .int tl1_w28, .int (nI nt)]))) (gv_uc ne25) ?_
              exact k_vret C zr zlk ⟨vl1_w28, kf1_w28, pf1_w28, n1_w28, tl1_w28, f1_w28, rfl, rfl, ht1_w28⟩ (Nat.le_refl _) (Nat.le_refl _) dX1_refresh_166
        · skip
          exact absurd c94 (by decide)
      · skip
        exact absurd c73 (by decide)
    · skip
      exact absurd c54 (by decide)
  · skip
    exact absurd c18 hst
set_option maxHeartbeats 4000000 in
set_option maxRecDepth 100000 in
theorem c_ref6E {zl : Launch} {D : va_G} {cI cN cR : ClassId} {base : Nat} {V : gv_V} {mo tr nd tb wg ky pl : Nat} {tga tsa tpa tqa nt : Nat} {tg ts tp tq : Nat → Int32} {nl nn : Nat} {nf : Nat → Option Nat} {no : Nat} {ps pp po st fr ln dn ag gr : Int32} {e vv : Nat} {xe ak af as ap av ne : Nat} {kd fs sc pt vl : Nat → Int32} {kf pf : Nat → Int32} {tf : Nat → Option Nat} {i g a0 n0 : Nat} {o oc : Nat} {tl0 omk : Int32} {of : Nat → Int32} {E : Nat → Ex} {a c n : Nat} {tl mk : Int32} {f : Nat → Int32} {SA : Option (List Row)}  (h_mo : V mo = some (.inr (1, [.ref tr, .ref xe, .ref nd, .ref tb, .ref wg, .ref ky, .ref pl]))) (h_tr : V tr = some (.inr (5, [.ref tga, .ref tsa, .ref tpa, .ref tqa, .int (nI nt)]))) (h_tga : V tga = some (.inl (cI, 60, .inl tg))) (h_tsa : V tsa = some (.inl (cI, 60, .inl ts))) (h_tpa : V tpa = some (.inl (cI, 60, .inl tp))) (h_tqa : V tqa = some (.inl (cI, 60, .inl tq))) (h_nd : V nd = some (.inr (3, [.ref nl, .int (nI nn)]))) (h_nl : V nl = some (.inl (cN, 30, .inr (.inr (.inr (.inr nf)))))) (h_no : V no = some (.inr (2, [.int (nI 6), .int (nI a0), .int (-1 : Int32), .int ps, .int pp, .int po, .int (nI e), .int (nI vv), .int st, .int fr, .int ln, .int dn, .int ag, .int gr]))) (h_xe : V xe = some (.inr (0, [.ref ak, .ref af, .ref as, .ref ap, .ref av, .int (nI ne)]))) (h_ak : V ak = some (.inl (cI, 30, .inl kd))) (h_af : V af = some (.inl (cI, 30, .inl fs))) (h_as : V as = some (.inl (cI, 30, .inl sc))) (h_ap : V ap = some (.inl (cI, 30, .inl pt))) (h_av : V av = some (.inl (cI, 30, .inl vl))) (h_ky : V ky = some (.inl (cI, 80, .inl kf))) (h_pl : V pl = some (.inl (cI, 80, .inl pf))) (h_tb : V tb = some (.inl (cR, 120, .inr (.inr (.inr (.inr tf)))))) (h_o : V o = some (.inr (4, [.ref oc, .int (nI n0), .int tl0, .int omk]))) (h_oc : V oc = some (.inl (cI, 486, .inl of))) (h_a : V a = some (.inr (4, [.ref c, .int (nI n), .int tl, .int mk]))) (h_c : V c = some (.inl (cI, 486, .inl f))) (hX : ExR E ne kd fs sc pt) (hd : [ak, af, as, ap, av].Nodup) (hi : i < 30) (hg : g < 4) (hnf : nf i = some no) (hky : nq ky pl) (hnt : nt ≤ 60) (ht : tf (i * 4 + g) = some o) (hst : ¬ omk = nI nt) (ha0 : a0 < i) (hta : tf (a0 * 4 + g) = some a) (hSa : TRep SA n tl f) (hoa : nq o a) (hca : nq oc c) (he : e < ne) (hvv : vv < 6) : ct zl D [(cI, .int), (cN, .object "AlgebraTree$Node"), (cR, .object "AlgebraTree$Rows")] base yX1_refresh cX1_refresh 6 none 5 0 0 [.ref mo, .int (nI i), .int (nI g)] V (fun zv zV => ∃ vl1 : Nat → Int32, ∃ kf1 : Nat → Int32, ∃ pf1 : Nat → Int32, ∃ n1 : Nat, ∃ tl1 : Int32, ∃ f1 : Nat → Int32, zv = none ∧ zV = gv_up (gv_up (gv_up (gv_up (gv_up V av (.inl (cI, 30, .inl vl1))) ky (.inl (cI, 80, .inl kf1))) pl (.inl (cI, 80, .inl pf1))) oc (.inl (cI, 486, .inl f1))) o (.inr (4, [.ref oc, .int (nI n1), .int tl1, .int (nI nt)])) ∧ (TRep (SA.bind (fun A => cap (A.map (fun x => extR vv (ev E x e) x)))) n1 tl1 f1)) := by
  refine ct_of "AlgebraTree$Maker" rfl (by decide) (Nat.le_of_ble_eq_true rfl) ?_
  intro zp ze zs zm zargs zbelow zmeth zc C zr zlk znm
  refine k_pc (pc' := 0) (st' := []) rfl rfl ?_
  show K zp zl ze (gv_rm 5 0 0) zs zm zargs zbelow zmeth zc D base 6 (gv_E D [(cI, .int), (cN, .object "AlgebraTree$Node"), (cR, .object "AlgebraTree$Rows")] base zbelow zargs zs 0 0 (fun zv zV => ∃ vl1 : Nat → Int32, ∃ kf1 : Nat → Int32, ∃ pf1 : Nat → Int32, ∃ n1 : Nat, ∃ tl1 : Int32, ∃ f1 : Nat → Int32, zv = none ∧ zV = gv_up (gv_up (gv_up (gv_up (gv_up V av (.inl (cI, 30, .inl vl1))) ky (.inl (cI, 80, .inl kf1))) pl (.inl (cI, 80, .inl pf1))) oc (.inl (cI, 486, .inl f1))) o (.inr (4, [.ref oc, .int (nI n1), .int tl1, .int (nI nt)])) ∧ (TRep (SA.bind (fun A => cap (A.map (fun x => extR vv (ev E x e) x)))) n1 tl1 f1))) V 0 0 [(0, .ref mo), (1, .int (nI i)), (2, .int (nI g))] 0 []
  refine k_aload_n C dX1_refresh_0 rfl 0 rfl ?_
  refine k_iload_n C dX1_refresh_1 rfl 1 rfl ?_
  refine k_iload_n C dX1_refresh_2 rfl 2 rfl ?_
  refine k_callV_pr C mv_1_56 (c_tableOf  h_mo h_tb (by first | assumption | omega) (by first | assumption | omega) (by first | assumption | omega)) h_mo rfl rfl (by simp [Value.category]) ⟨by decide, by decide⟩ ⟨(by decide), (by decide)⟩ dX1_refresh_3 ?_
  refine k_astore_n (lv' := [(3, .ref o), (0, .ref mo), (1, .int (nI i)), (2, .int (nI g))]) C dX1_refresh_6 rfl (by decide) rfl ?_
  refine k_aload_n C dX1_refresh_7 rfl 0 rfl ?_
  refine k_get (ci := 4) (k := 3) C fl_1_84 h_o rfl dX1_refresh_8 ?_
  refine k_aload_n C dX1_refresh_11 rfl 1 rfl ?_
  refine k_get (ci := 1) (k := 0) C fl_1_12 h_mo rfl dX1_refresh_12 ?_
  refine k_get (ci := 5) (k := 4) C fl_1_87 h_tr rfl dX1_refresh_15 ?_
  refine k_icmp_ne (tgt := 22) C dX1_refresh_18 (by decide) (fun c18 => ?_) (fun c18 => ?_)
  · skip
    refine k_aload_n C dX1_refresh_22 rfl 0 rfl ?_
    refine k_callV_pv C mv_1_90 (c_X4_clear  h_o h_oc ) h_o rfl rfl (by simp [Value.category]) ⟨by decide, by decide⟩ ⟨(by decide), (by decide)⟩ dX1_refresh_23 ?_
    refine k_aload_n C dX1_refresh_26 rfl 0 rfl ?_
    refine k_aload_n C dX1_refresh_27 rfl 1 rfl ?_
    have ne1 : nq mo o := gv_ne h_o h_mo (by simp)
    refine k_get (ci := 1) (k := 0) C fl_1_12 ((gv_up_n ne1).trans h_mo) rfl dX1_refresh_28 ?_
    have ne2 : nq tr o := gv_ne h_o h_tr (by simp)
    refine k_get (ci := 5) (k := 4) C fl_1_87 ((gv_up_n ne2).trans h_tr) rfl dX1_refresh_31 ?_
    refine k_put (ci := 4) (k := 3) (fs' := [.ref oc, .int (nI 0), .int (nI 0), .int (nI nt)]) C fl_1_84 pf_4_3 gv_up_s rfl rfl (Nat.le_of_ble_eq_true rfl) rfl dX1_refresh_34 ?_
    refine k_view (V1 := gv_up V o (.inr (4, [.ref oc, .int (nI 0), .int (nI 0), .int (nI nt)]))) gv_uu ?_
    refine k_aload_n C dX1_refresh_37 rfl 1 rfl ?_
    refine k_get (ci := 1) (k := 2) C fl_1_28 ((gv_up_n ne1).trans h_mo) rfl dX1_refresh_38 ?_
    refine k_iload_n C dX1_refresh_41 rfl 2 rfl ?_
    have ne3 : nq nd o := gv_ne h_o h_nd (by simp)
    have ne4 : nq nl o := gv_ne h_o h_nl (by simp)
    refine k_callV_pr C mv_1_60 (c_X3_at  ((gv_up_n ne3).trans h_nd) ((gv_up_n ne4).trans h_nl) (by first | assumption | omega) hnf) ((gv_up_n ne3).trans h_nd) rfl rfl (by simp [Value.category]) ⟨by decide, by decide⟩ ⟨(by decide), (by decide)⟩ dX1_refresh_42 ?_
    refine k_astore (lv' := [(4, .ref no), (3, .ref o), (0, .ref mo), (1, .int (nI i)), (2, .int (nI g))]) C dX1_refresh_45 (by decide) rfl ?_
    refine k_aload C dX1_refresh_47 0 rfl ?_
    have ne5 : nq no o := gv_ne h_o h_no (by simp)
    refine k_get (ci := 2) (k := 0) C fl_1_77 ((gv_up_n ne5).trans h_no) rfl dX1_refresh_49 ?_
    refine k_bipush (v := nI 12) C dX1_refresh_52 rfl ?_
    refine k_icmp_ne (tgt := 65) C dX1_refresh_54 (by decide) (fun c54 => ?_) (fun c54 => ?_)
    · skip
      have b54 : ¬ 6 = 12 := fun z => c54 ((nI_eq (a := 6) (b := 12) (by omega) (by omega)).mpr z)
      refine k_iload_n C dX1_refresh_65 rfl 4 rfl ?_
      refine k_istore (lv' := [(5, .int (nI g)), (4, .ref no), (3, .ref o), (0, .ref mo), (1, .int (nI i)), (2, .int (nI g))]) C dX1_refresh_66 (by decide) rfl ?_
      refine k_aload C dX1_refresh_68 1 rfl ?_
      refine k_get (ci := 2) (k := 0) C fl_1_77 ((gv_up_n ne5).trans h_no) rfl dX1_refresh_70 ?_
      refine k_if_ne (tgt := 87) C dX1_refresh_73 (by decide) (fun c73 => ?_) (fun c73 => ?_)
      · skip
        have b73 : ¬ 6 = 0 := fun z => c73 ((nI_eq (a := 6) (b := 0) (by omega) (by omega)).mpr z)
        refine k_aload C dX1_refresh_87 1 rfl ?_
        refine k_get (ci := 2) (k := 0) C fl_1_77 ((gv_up_n ne5).trans h_no) rfl dX1_refresh_89 ?_
        refine k_bipush (v := nI 13) C dX1_refresh_92 rfl ?_
        refine k_icmp_ne (tgt := 107) C dX1_refresh_94 (by decide) (fun c94 => ?_) (fun c94 => ?_)
        · skip
          have b94 : ¬ 6 = 13 := fun z => c94 ((nI_eq (a := 6) (b := 13) (by omega) (by omega)).mpr z)
          refine k_aload C dX1_refresh_107 1 rfl ?_
          refine k_get (ci := 2) (k := 2) C fl_1_74 ((gv_up_n ne5).trans h_no) rfl dX1_refresh_109 ?_
          refine k_iconst (v := (-1 : Int32)) C dX1_refresh_112 (by decide) ?_
          refine k_icmp_ne (tgt := 137) C dX1_refresh_113 (by decide) (fun c113 => ?_) (fun c113 => ?_)
          · skip
            exact absurd rfl c113
          · skip
            refine k_aload_n C dX1_refresh_116 rfl 3 rfl ?_
            refine k_aload C dX1_refresh_117 1 rfl ?_
            refine k_aload_n C dX1_refresh_119 rfl 3 rfl ?_
            refine k_aload C dX1_refresh_120 1 rfl ?_
            refine k_get (ci := 2) (k := 1) C fl_1_68 ((gv_up_n ne5).trans h_no) rfl dX1_refresh_122 ?_
            refine k_iload C dX1_refresh_125 0 rfl ?_
            have ne6 : nq tb o := gv_ne h_o h_tb (by simp)
            refine k_callV_pr C mv_1_56 (c_tableOf  ((gv_up_n ne1).trans h_mo) ((gv_up_n ne6).trans h_tb) (by first | assumption | omega) (by first | assumption | omega) hta) ((gv_up_n ne1).trans h_mo) rfl rfl (by simp [Value.category]) ⟨by decide, by decide⟩ ⟨(by decide), (by decide)⟩ dX1_refresh_127 ?_
            refine k_aload_n C dX1_refresh_130 rfl 2 rfl ?_
            rcases SA with _ | A
            · skip
              have ne7 : nq xe o := gv_ne h_o h_xe (by simp)
              have ne8 : nq ak o := gv_ne h_o h_ak (by simp)
              have ne9 : nq af o := gv_ne h_o h_af (by simp)
              have ne10 : nq as o := gv_ne h_o h_as (by simp)
              have ne11 : nq ap o := gv_ne h_o h_ap (by simp)
              have ne12 : nq av o := gv_ne h_o h_av (by simp)
              have ne13 : nq c o := gv_ne h_o h_c (by simp)
              have ne14 : nq oc o := gv_ne h_o h_oc (by simp)
              have ne15 : nq ky o := gv_ne h_o h_ky (by simp)
              have ne16 : nq pl o := gv_ne h_o h_pl (by simp)
              refine k_callV C mv_1_101 (c_overL  ((gv_up_n ne1).trans h_mo) ((gv_up_n ne5).trans h_no) ((gv_up_n ne7).trans h_xe) ((gv_up_n ne8).trans h_ak) ((gv_up_n ne9).trans h_af) ((gv_up_n ne10).trans h_as) ((gv_up_n ne11).trans h_ap) ((gv_up_n ne12).trans h_av) ((gv_up_n (Ne.symm hoa)).trans h_a) ((gv_up_n ne13).trans h_c) gv_up_s ((gv_up_n ne14).trans h_oc) ((gv_up_n ne15).trans h_ky) ((gv_up_n ne16).trans h_pl) hSa (by first | assumption | omega) hoa hca hky) ((gv_up_n ne1).trans h_mo) rfl rfl (by simp [Value.category]) ⟨by decide, by decide⟩ ⟨(by decide), (by decide)⟩ dX1_refresh_131 (fun zv zV zh => ?_)
              obtain ⟨vl1_w17, kf1_w17, pf1_w17, n1_w17, tl1_w17, f1_w17, rfl, rfl, ht1_w17⟩ := zh
              refine k_pc (pc' := 134) (st' := []) rfl rfl ?_
              refine k_view (V1 := gv_up (gv_up (gv_up (gv_up (gv_up V o (.inr (4, [.ref oc, .int (nI n1_w17), .int tl1_w17, .int (nI nt)]))) av (.inl (cI, 30, .inl vl1_w17))) ky (.inl (cI, 80, .inl kf1_w17))) pl (.inl (cI, 80, .inl pf1_w17))) oc (.inl (cI, 486, .inl f1_w17))) ((gv_uc (Ne.symm ne14)).trans (congrArg (fun W => gv_up W oc (.inl (cI, 486, .inl f1_w17))) ((gv_uc (Ne.symm ne16)).trans (congrArg (fun W => gv_up W pl (.inl (cI, 80, .inl pf1_w17))) ((gv_uc (Ne.symm ne15)).trans (congrArg (fun W => gv_up W ky (.inl (cI, 80, .inl kf1_w17))) ((gv_uc (Ne.symm ne12)).trans (congrArg (fun W => gv_up W av (.inl (cI, 30, .inl vl1_w17))) gv_uu)))))))) ?_
              refine k_goto (tgt := 166) C dX1_refresh_134 (by decide) ?_
              refine k_view (V1 := gv_up (gv_up (gv_up (gv_up (gv_up V av (.inl (cI, 30, .inl vl1_w17))) o (.inr (4, [.ref oc, .int (nI n1_w17), .int tl1_w17, .int (nI nt)]))) ky (.inl (cI, 80, .inl kf1_w17))) pl (.inl (cI, 80, .inl pf1_w17))) oc (.inl (cI, 486, .inl f1_w17))) (congrArg (fun W => gv_up W oc (.inl (cI, 486, .inl f1_w17))) (congrArg (fun W => gv_up W pl (.inl (cI, 80, .inl pf1_w17))) (congrArg (fun W => gv_up W ky (.inl (cI, 80, .inl kf1_w17))) (gv_uc ne12)))) ?_
              refine k_view (V1 := gv_up (gv_up (gv_up (gv_up (gv_up V av (.inl (cI, 30, .inl vl1_w17))) ky (.inl (cI, 80, .inl kf1_w17))) o (.inr (4, [.ref oc, .int (nI n1_w17), .int tl1_w17, .int (nI nt)]))) pl (.inl (cI, 80, .inl pf1_w17))) oc (.inl (cI, 486, .inl f1_w17))) (congrArg (fun W => gv_up W oc (.inl (cI, 486, .inl f1_w17))) (congrArg (fun W => gv_up W pl (.inl (cI, 80, .inl pf1_w17))) (gv_uc ne15))) ?_
              refine k_view (V1 := gv_up (gv_up (gv_up (gv_up (gv_up V av (.inl (cI, 30, .inl vl1_w17))) ky (.inl (cI, 80, .inl kf1_w17))) pl (.inl (cI, 80, .inl pf1_w17))) o (.inr (4, [.ref oc, .int (nI n1_w17), .int tl1_w17, .int (nI nt)]))) oc (.inl (cI, 486, .inl f1_w17))) (congrArg (fun W => gv_up W oc (.inl (cI, 486, .inl f1_w17))) (gv_uc ne16)) ?_
              refine k_view (V1 := gv_up (gv_up (gv_up (gv_up (gv_up V av (.inl (cI, 30, .inl vl1_w17))) ky (.inl (cI, 80, .inl kf1_w17))) pl (.inl (cI, 80, .inl pf1_w17))) oc (.inl (cI, 486, .inl f1_w17))) o (.inr (4, [.ref oc, .int (nI n1_w17), .int tl1_w17, .int (nI nt)]))) (gv_uc ne14) ?_
              exact k_vret C zr zlk ⟨vl1_w17, kf1_w17, pf1_w17, n1_w17, tl1_w17, f1_w17, rfl, rfl, ht1_w17⟩ (Nat.le_refl _) (Nat.le_refl _) dX1_refresh_166
            · skip
              have ne18 : nq xe o := gv_ne h_o h_xe (by simp)
              have ne19 : nq ak o := gv_ne h_o h_ak (by simp)
              have ne20 : nq af o := gv_ne h_o h_af (by simp)
              have ne21 : nq as o := gv_ne h_o h_as (by simp)
              have ne22 : nq ap o := gv_ne h_o h_ap (by simp)
              have ne23 : nq av o := gv_ne h_o h_av (by simp)
              have ne24 : nq c o := gv_ne h_o h_c (by simp)
              have ne25 : nq oc o := gv_ne h_o h_oc (by simp)
              have ne26 : nq ky o := gv_ne h_o h_ky (by simp)
              have ne27 : nq pl o := gv_ne h_o h_pl (by simp)
              refine k_callV C mv_1_101 (c_over6  ((gv_up_n ne1).trans h_mo) ((gv_up_n ne5).trans h_no) ((gv_up_n ne18).trans h_xe) ((gv_up_n ne19).trans h_ak) ((gv_up_n ne20).trans h_af) ((gv_up_n ne21).trans h_as) ((gv_up_n ne22).trans h_ap) ((gv_up_n ne23).trans h_av) ((gv_up_n (Ne.symm hoa)).trans h_a) ((gv_up_n ne24).trans h_c) gv_up_s ((gv_up_n ne25).trans h_oc) ((gv_up_n ne26).trans h_ky) ((gv_up_n ne27).trans h_pl) (by first | assumption | omega) (by first | assumption | omega) hSa.2 hoa hca hSa.1 hky (by first | assumption | omega) (by first | assumption | omega)) ((gv_up_n ne1).trans h_mo) rfl rfl (by simp [Value.category]) ⟨by decide, by decide⟩ ⟨(by decide), (by decide)⟩ dX1_refresh_131 (fun zv zV zh => ?_)
              obtain ⟨vl1_w28, kf1_w28, pf1_w28, n1_w28, tl1_w28, f1_w28, rfl, rfl, ht1_w28⟩ := zh
              refine k_pc (pc' := 134) (st' := []) rfl rfl ?_
              refine k_view (V1 := gv_up (gv_up (gv_up (gv_up (gv_up V o (.inr (4, [.ref oc, .int (nI n1_w28), .int tl1_w28, .int (nI nt)]))) av (.inl (cI, 30, .inl vl1_w28))) ky (.inl (cI, 80, .inl kf1_w28))) pl (.inl (cI, 80, .inl pf1_w28))) oc (.inl (cI, 486, .inl f1_w28))) ((gv_uc (Ne.symm ne25)).trans (congrArg (fun W => gv_up W oc (.inl (cI, 486, .inl f1_w28))) ((gv_uc (Ne.symm ne27)).trans (congrArg (fun W => gv_up W pl (.inl (cI, 80, .inl pf1_w28))) ((gv_uc (Ne.symm ne26)).trans (congrArg (fun W => gv_up W ky (.inl (cI, 80, .inl kf1_w28))) ((gv_uc (Ne.symm ne23)).trans (congrArg (fun W => gv_up W av (.inl (cI, 30, .inl vl1_w28))) gv_uu)))))))) ?_
              refine k_goto (tgt := 166) C dX1_refresh_134 (by decide) ?_
              refine k_view (V1 := gv_up (gv_up (gv_up (gv_up (gv_up V av (.inl (cI, 30, .inl vl1_w28))) o (.inr (4, [.ref oc, .int (nI n1_w28), .int tl1_w28, .int (nI nt)]))) ky (.inl (cI, 80, .inl kf1_w28))) pl (.inl (cI, 80, .inl pf1_w28))) oc (.inl (cI, 486, .inl f1_w28))) (congrArg (fun W => gv_up W oc (.inl (cI, 486, .inl f1_w28))) (congrArg (fun W => gv_up W pl (.inl (cI, 80, .inl pf1_w28))) (congrArg (fun W => gv_up W ky (.inl (cI, 80, .inl kf1_w28))) (gv_uc ne23)))) ?_
              refine k_view (V1 := gv_up (gv_up (gv_up (gv_up (gv_up V av (.inl (cI, 30, .inl vl1_w28))) ky (.inl (cI, 80, .inl kf1_w28))) o (.inr (4, [.ref oc, .int (nI n1_w28), .int tl1_w28, .int (nI nt)]))) pl (.inl (cI, 80, .inl pf1_w28))) oc (.inl (cI, 486, .inl f1_w28))) (congrArg (fun W => gv_up W oc (.inl (cI, 486, .inl f1_w28))) (congrArg (fun W => gv_up W pl (.inl (cI, 80, .inl pf1_w28))) (gv_uc ne26))) ?_
              refine k_view (V1 := gv_up (gv_up (gv_up (gv_up (gv_up V av (.inl (cI, 30, .inl vl1_w28))) ky (.inl (cI, 80, .inl kf1_w28))) pl (.inl (cI, 80, .inl pf1_w28))) o (.inr (4, [.ref oc, .int (nI n1_w28), .int tl1_w28, .int (nI nt)]))) oc (.inl (cI, 486, .inl f1_w28))) (congrArg (fun W => gv_up W oc (.inl (cI, 486, .inl f1_w28))) (gv_uc ne27)) ?_
              refine k_view (V1 := gv_up (gv_up (gv_up (gv_up (gv_up V av (.inl (cI, 30, .inl vl1_w28))) ky (.inl (cI, 80, .inl kf1_w28))) pl (.inl (cI, 80, .inl pf1_w28))) oc (.inl (cI, 486, .inl f1_w28))) o (.inr (4, [.ref oc, .int (nI n1_w28), .int tl1_w28, .int (nI nt)]))) (gv_uc ne25) ?_
              exact k_vret C zr zlk ⟨vl1_w28, kf1_w28, pf1_w28, n1_w28, tl1_w28, f1_w28, rfl, rfl, ht1_w28⟩ (Nat.le_refl _) (Nat.le_refl _) dX1_refresh_166
        · skip
          exact absurd c94 (by decide)
      · skip
        exact absurd c73 (by decide)
    · skip
      exact absurd c54 (by decide)
  · skip
    exact absurd c18 hst
set_option maxHeartbeats 4000000 in
set_option maxRecDepth 100000 in
theorem c_ref7E {zl : Launch} {D : va_G} {cI cN cR : ClassId} {base : Nat} {V : gv_V} {mo tr nd tb wg ky pl : Nat} {tga tsa tpa tqa nt : Nat} {tg ts tp tq : Nat → Int32} {nl nn : Nat} {nf : Nat → Option Nat} {no : Nat} {ps pp po ex va st fr ln dn ag gr : Int32} {xe ak af as ap av ne : Nat} {kd fs sc pt vl : Nat → Int32} {kf pf : Nat → Int32} {tf : Nat → Option Nat} {i g a0 n0 : Nat} {o oc : Nat} {tl0 omk : Int32} {of : Nat → Int32} {E : Nat → Ex} {a c n : Nat} {tl mk : Int32} {f : Nat → Int32} {SA : Option (List Row)}  (h_mo : V mo = some (.inr (1, [.ref tr, .ref xe, .ref nd, .ref tb, .ref wg, .ref ky, .ref pl]))) (h_tr : V tr = some (.inr (5, [.ref tga, .ref tsa, .ref tpa, .ref tqa, .int (nI nt)]))) (h_tga : V tga = some (.inl (cI, 60, .inl tg))) (h_tsa : V tsa = some (.inl (cI, 60, .inl ts))) (h_tpa : V tpa = some (.inl (cI, 60, .inl tp))) (h_tqa : V tqa = some (.inl (cI, 60, .inl tq))) (h_nd : V nd = some (.inr (3, [.ref nl, .int (nI nn)]))) (h_nl : V nl = some (.inl (cN, 30, .inr (.inr (.inr (.inr nf)))))) (h_no : V no = some (.inr (2, [.int (nI 7), .int (nI a0), .int (-1 : Int32), .int ps, .int pp, .int po, .int ex, .int va, .int st, .int fr, .int ln, .int dn, .int ag, .int gr]))) (h_xe : V xe = some (.inr (0, [.ref ak, .ref af, .ref as, .ref ap, .ref av, .int (nI ne)]))) (h_ak : V ak = some (.inl (cI, 30, .inl kd))) (h_af : V af = some (.inl (cI, 30, .inl fs))) (h_as : V as = some (.inl (cI, 30, .inl sc))) (h_ap : V ap = some (.inl (cI, 30, .inl pt))) (h_av : V av = some (.inl (cI, 30, .inl vl))) (h_ky : V ky = some (.inl (cI, 80, .inl kf))) (h_pl : V pl = some (.inl (cI, 80, .inl pf))) (h_tb : V tb = some (.inl (cR, 120, .inr (.inr (.inr (.inr tf)))))) (h_o : V o = some (.inr (4, [.ref oc, .int (nI n0), .int tl0, .int omk]))) (h_oc : V oc = some (.inl (cI, 486, .inl of))) (h_a : V a = some (.inr (4, [.ref c, .int (nI n), .int tl, .int mk]))) (h_c : V c = some (.inl (cI, 486, .inl f))) (hX : ExR E ne kd fs sc pt) (hd : [ak, af, as, ap, av].Nodup) (hi : i < 30) (hg : g < 4) (hnf : nf i = some no) (hky : nq ky pl) (hnt : nt ≤ 60) (ht : tf (i * 4 + g) = some o) (hst : ¬ omk = nI nt) (ha0 : a0 < i) (hta : tf (a0 * 4 + g) = some a) (hSa : TRep SA n tl f) (hoa : nq o a) (hca : nq oc c) : ct zl D [(cI, .int), (cN, .object "AlgebraTree$Node"), (cR, .object "AlgebraTree$Rows")] base yX1_refresh cX1_refresh 6 none 5 0 0 [.ref mo, .int (nI i), .int (nI g)] V (fun zv zV => ∃ vl1 : Nat → Int32, ∃ kf1 : Nat → Int32, ∃ pf1 : Nat → Int32, ∃ n1 : Nat, ∃ tl1 : Int32, ∃ f1 : Nat → Int32, zv = none ∧ zV = gv_up (gv_up (gv_up (gv_up (gv_up V av (.inl (cI, 30, .inl vl1))) ky (.inl (cI, 80, .inl kf1))) pl (.inl (cI, 80, .inl pf1))) oc (.inl (cI, 486, .inl f1))) o (.inr (4, [.ref oc, .int (nI n1), .int tl1, .int (nI nt)])) ∧ (TRep (SA.bind (fun A => cap (A.map (prj st)))) n1 tl1 f1)) := by
  refine ct_of "AlgebraTree$Maker" rfl (by decide) (Nat.le_of_ble_eq_true rfl) ?_
  intro zp ze zs zm zargs zbelow zmeth zc C zr zlk znm
  refine k_pc (pc' := 0) (st' := []) rfl rfl ?_
  show K zp zl ze (gv_rm 5 0 0) zs zm zargs zbelow zmeth zc D base 6 (gv_E D [(cI, .int), (cN, .object "AlgebraTree$Node"), (cR, .object "AlgebraTree$Rows")] base zbelow zargs zs 0 0 (fun zv zV => ∃ vl1 : Nat → Int32, ∃ kf1 : Nat → Int32, ∃ pf1 : Nat → Int32, ∃ n1 : Nat, ∃ tl1 : Int32, ∃ f1 : Nat → Int32, zv = none ∧ zV = gv_up (gv_up (gv_up (gv_up (gv_up V av (.inl (cI, 30, .inl vl1))) ky (.inl (cI, 80, .inl kf1))) pl (.inl (cI, 80, .inl pf1))) oc (.inl (cI, 486, .inl f1))) o (.inr (4, [.ref oc, .int (nI n1), .int tl1, .int (nI nt)])) ∧ (TRep (SA.bind (fun A => cap (A.map (prj st)))) n1 tl1 f1))) V 0 0 [(0, .ref mo), (1, .int (nI i)), (2, .int (nI g))] 0 []
  refine k_aload_n C dX1_refresh_0 rfl 0 rfl ?_
  refine k_iload_n C dX1_refresh_1 rfl 1 rfl ?_
  refine k_iload_n C dX1_refresh_2 rfl 2 rfl ?_
  refine k_callV_pr C mv_1_56 (c_tableOf  h_mo h_tb (by first | assumption | omega) (by first | assumption | omega) (by first | assumption | omega)) h_mo rfl rfl (by simp [Value.category]) ⟨by decide, by decide⟩ ⟨(by decide), (by decide)⟩ dX1_refresh_3 ?_
  refine k_astore_n (lv' := [(3, .ref o), (0, .ref mo), (1, .int (nI i)), (2, .int (nI g))]) C dX1_refresh_6 rfl (by decide) rfl ?_
  refine k_aload_n C dX1_refresh_7 rfl 0 rfl ?_
  refine k_get (ci := 4) (k := 3) C fl_1_84 h_o rfl dX1_refresh_8 ?_
  refine k_aload_n C dX1_refresh_11 rfl 1 rfl ?_
  refine k_get (ci := 1) (k := 0) C fl_1_12 h_mo rfl dX1_refresh_12 ?_
  refine k_get (ci := 5) (k := 4) C fl_1_87 h_tr rfl dX1_refresh_15 ?_
  refine k_icmp_ne (tgt := 22) C dX1_refresh_18 (by decide) (fun c18 => ?_) (fun c18 => ?_)
  · skip
    refine k_aload_n C dX1_refresh_22 rfl 0 rfl ?_
    refine k_callV_pv C mv_1_90 (c_X4_clear  h_o h_oc ) h_o rfl rfl (by simp [Value.category]) ⟨by decide, by decide⟩ ⟨(by decide), (by decide)⟩ dX1_refresh_23 ?_
    refine k_aload_n C dX1_refresh_26 rfl 0 rfl ?_
    refine k_aload_n C dX1_refresh_27 rfl 1 rfl ?_
    have ne1 : nq mo o := gv_ne h_o h_mo (by simp)
    refine k_get (ci := 1) (k := 0) C fl_1_12 ((gv_up_n ne1).trans h_mo) rfl dX1_refresh_28 ?_
    have ne2 : nq tr o := gv_ne h_o h_tr (by simp)
    refine k_get (ci := 5) (k := 4) C fl_1_87 ((gv_up_n ne2).trans h_tr) rfl dX1_refresh_31 ?_
    refine k_put (ci := 4) (k := 3) (fs' := [.ref oc, .int (nI 0), .int (nI 0), .int (nI nt)]) C fl_1_84 pf_4_3 gv_up_s rfl rfl (Nat.le_of_ble_eq_true rfl) rfl dX1_refresh_34 ?_
    refine k_view (V1 := gv_up V o (.inr (4, [.ref oc, .int (nI 0), .int (nI 0), .int (nI nt)]))) gv_uu ?_
    refine k_aload_n C dX1_refresh_37 rfl 1 rfl ?_
    refine k_get (ci := 1) (k := 2) C fl_1_28 ((gv_up_n ne1).trans h_mo) rfl dX1_refresh_38 ?_
    refine k_iload_n C dX1_refresh_41 rfl 2 rfl ?_
    have ne3 : nq nd o := gv_ne h_o h_nd (by simp)
    have ne4 : nq nl o := gv_ne h_o h_nl (by simp)
    refine k_callV_pr C mv_1_60 (c_X3_at  ((gv_up_n ne3).trans h_nd) ((gv_up_n ne4).trans h_nl) (by first | assumption | omega) hnf) ((gv_up_n ne3).trans h_nd) rfl rfl (by simp [Value.category]) ⟨by decide, by decide⟩ ⟨(by decide), (by decide)⟩ dX1_refresh_42 ?_
    refine k_astore (lv' := [(4, .ref no), (3, .ref o), (0, .ref mo), (1, .int (nI i)), (2, .int (nI g))]) C dX1_refresh_45 (by decide) rfl ?_
    refine k_aload C dX1_refresh_47 0 rfl ?_
    have ne5 : nq no o := gv_ne h_o h_no (by simp)
    refine k_get (ci := 2) (k := 0) C fl_1_77 ((gv_up_n ne5).trans h_no) rfl dX1_refresh_49 ?_
    refine k_bipush (v := nI 12) C dX1_refresh_52 rfl ?_
    refine k_icmp_ne (tgt := 65) C dX1_refresh_54 (by decide) (fun c54 => ?_) (fun c54 => ?_)
    · skip
      have b54 : ¬ 7 = 12 := fun z => c54 ((nI_eq (a := 7) (b := 12) (by omega) (by omega)).mpr z)
      refine k_iload_n C dX1_refresh_65 rfl 4 rfl ?_
      refine k_istore (lv' := [(5, .int (nI g)), (4, .ref no), (3, .ref o), (0, .ref mo), (1, .int (nI i)), (2, .int (nI g))]) C dX1_refresh_66 (by decide) rfl ?_
      refine k_aload C dX1_refresh_68 1 rfl ?_
      refine k_get (ci := 2) (k := 0) C fl_1_77 ((gv_up_n ne5).trans h_no) rfl dX1_refresh_70 ?_
      refine k_if_ne (tgt := 87) C dX1_refresh_73 (by decide) (fun c73 => ?_) (fun c73 => ?_)
      · skip
        have b73 : ¬ 7 = 0 := fun z => c73 ((nI_eq (a := 7) (b := 0) (by omega) (by omega)).mpr z)
        refine k_aload C dX1_refresh_87 1 rfl ?_
        refine k_get (ci := 2) (k := 0) C fl_1_77 ((gv_up_n ne5).trans h_no) rfl dX1_refresh_89 ?_
        refine k_bipush (v := nI 13) C dX1_refresh_92 rfl ?_
        refine k_icmp_ne (tgt := 107) C dX1_refresh_94 (by decide) (fun c94 => ?_) (fun c94 => ?_)
        · skip
          have b94 : ¬ 7 = 13 := fun z => c94 ((nI_eq (a := 7) (b := 13) (by omega) (by omega)).mpr z)
          refine k_aload C dX1_refresh_107 1 rfl ?_
          refine k_get (ci := 2) (k := 2) C fl_1_74 ((gv_up_n ne5).trans h_no) rfl dX1_refresh_109 ?_
          refine k_iconst (v := (-1 : Int32)) C dX1_refresh_112 (by decide) ?_
          refine k_icmp_ne (tgt := 137) C dX1_refresh_113 (by decide) (fun c113 => ?_) (fun c113 => ?_)
          · skip
            exact absurd rfl c113
          · skip
            refine k_aload_n C dX1_refresh_116 rfl 3 rfl ?_
            refine k_aload C dX1_refresh_117 1 rfl ?_
            refine k_aload_n C dX1_refresh_119 rfl 3 rfl ?_
            refine k_aload C dX1_refresh_120 1 rfl ?_
            refine k_get (ci := 2) (k := 1) C fl_1_68 ((gv_up_n ne5).trans h_no) rfl dX1_refresh_122 ?_
            refine k_iload C dX1_refresh_125 0 rfl ?_
            have ne6 : nq tb o := gv_ne h_o h_tb (by simp)
            refine k_callV_pr C mv_1_56 (c_tableOf  ((gv_up_n ne1).trans h_mo) ((gv_up_n ne6).trans h_tb) (by first | assumption | omega) (by first | assumption | omega) hta) ((gv_up_n ne1).trans h_mo) rfl rfl (by simp [Value.category]) ⟨by decide, by decide⟩ ⟨(by decide), (by decide)⟩ dX1_refresh_127 ?_
            refine k_aload_n C dX1_refresh_130 rfl 2 rfl ?_
            rcases SA with _ | A
            · skip
              have ne7 : nq xe o := gv_ne h_o h_xe (by simp)
              have ne8 : nq ak o := gv_ne h_o h_ak (by simp)
              have ne9 : nq af o := gv_ne h_o h_af (by simp)
              have ne10 : nq as o := gv_ne h_o h_as (by simp)
              have ne11 : nq ap o := gv_ne h_o h_ap (by simp)
              have ne12 : nq av o := gv_ne h_o h_av (by simp)
              have ne13 : nq c o := gv_ne h_o h_c (by simp)
              have ne14 : nq oc o := gv_ne h_o h_oc (by simp)
              have ne15 : nq ky o := gv_ne h_o h_ky (by simp)
              have ne16 : nq pl o := gv_ne h_o h_pl (by simp)
              refine k_callV C mv_1_101 (c_overL  ((gv_up_n ne1).trans h_mo) ((gv_up_n ne5).trans h_no) ((gv_up_n ne7).trans h_xe) ((gv_up_n ne8).trans h_ak) ((gv_up_n ne9).trans h_af) ((gv_up_n ne10).trans h_as) ((gv_up_n ne11).trans h_ap) ((gv_up_n ne12).trans h_av) ((gv_up_n (Ne.symm hoa)).trans h_a) ((gv_up_n ne13).trans h_c) gv_up_s ((gv_up_n ne14).trans h_oc) ((gv_up_n ne15).trans h_ky) ((gv_up_n ne16).trans h_pl) hSa (by first | assumption | omega) hoa hca hky) ((gv_up_n ne1).trans h_mo) rfl rfl (by simp [Value.category]) ⟨by decide, by decide⟩ ⟨(by decide), (by decide)⟩ dX1_refresh_131 (fun zv zV zh => ?_)
              obtain ⟨vl1_w17, kf1_w17, pf1_w17, n1_w17, tl1_w17, f1_w17, rfl, rfl, ht1_w17⟩ := zh
              refine k_pc (pc' := 134) (st' := []) rfl rfl ?_
              refine k_view (V1 := gv_up (gv_up (gv_up (gv_up (gv_up V o (.inr (4, [.ref oc, .int (nI n1_w17), .int tl1_w17, .int (nI nt)]))) av (.inl (cI, 30, .inl vl1_w17))) ky (.inl (cI, 80, .inl kf1_w17))) pl (.inl (cI, 80, .inl pf1_w17))) oc (.inl (cI, 486, .inl f1_w17))) ((gv_uc (Ne.symm ne14)).trans (congrArg (fun W => gv_up W oc (.inl (cI, 486, .inl f1_w17))) ((gv_uc (Ne.symm ne16)).trans (congrArg (fun W => gv_up W pl (.inl (cI, 80, .inl pf1_w17))) ((gv_uc (Ne.symm ne15)).trans (congrArg (fun W => gv_up W ky (.inl (cI, 80, .inl kf1_w17))) ((gv_uc (Ne.symm ne12)).trans (congrArg (fun W => gv_up W av (.inl (cI, 30, .inl vl1_w17))) gv_uu)))))))) ?_
              refine k_goto (tgt := 166) C dX1_refresh_134 (by decide) ?_
              refine k_view (V1 := gv_up (gv_up (gv_up (gv_up (gv_up V av (.inl (cI, 30, .inl vl1_w17))) o (.inr (4, [.ref oc, .int (nI n1_w17), .int tl1_w17, .int (nI nt)]))) ky (.inl (cI, 80, .inl kf1_w17))) pl (.inl (cI, 80, .inl pf1_w17))) oc (.inl (cI, 486, .inl f1_w17))) (congrArg (fun W => gv_up W oc (.inl (cI, 486, .inl f1_w17))) (congrArg (fun W => gv_up W pl (.inl (cI, 80, .inl pf1_w17))) (congrArg (fun W => gv_up W ky (.inl (cI, 80, .inl kf1_w17))) (gv_uc ne12)))) ?_
              refine k_view (V1 := gv_up (gv_up (gv_up (gv_up (gv_up V av (.inl (cI, 30, .inl vl1_w17))) ky (.inl (cI, 80, .inl kf1_w17))) o (.inr (4, [.ref oc, .int (nI n1_w17), .int tl1_w17, .int (nI nt)]))) pl (.inl (cI, 80, .inl pf1_w17))) oc (.inl (cI, 486, .inl f1_w17))) (congrArg (fun W => gv_up W oc (.inl (cI, 486, .inl f1_w17))) (congrArg (fun W => gv_up W pl (.inl (cI, 80, .inl pf1_w17))) (gv_uc ne15))) ?_
              refine k_view (V1 := gv_up (gv_up (gv_up (gv_up (gv_up V av (.inl (cI, 30, .inl vl1_w17))) ky (.inl (cI, 80, .inl kf1_w17))) pl (.inl (cI, 80, .inl pf1_w17))) o (.inr (4, [.ref oc, .int (nI n1_w17), .int tl1_w17, .int (nI nt)]))) oc (.inl (cI, 486, .inl f1_w17))) (congrArg (fun W => gv_up W oc (.inl (cI, 486, .inl f1_w17))) (gv_uc ne16)) ?_
              refine k_view (V1 := gv_up (gv_up (gv_up (gv_up (gv_up V av (.inl (cI, 30, .inl vl1_w17))) ky (.inl (cI, 80, .inl kf1_w17))) pl (.inl (cI, 80, .inl pf1_w17))) oc (.inl (cI, 486, .inl f1_w17))) o (.inr (4, [.ref oc, .int (nI n1_w17), .int tl1_w17, .int (nI nt)]))) (gv_uc ne14) ?_
              exact k_vret C zr zlk ⟨vl1_w17, kf1_w17, pf1_w17, n1_w17, tl1_w17, f1_w17, rfl, rfl, ht1_w17⟩ (Nat.le_refl _) (Nat.le_refl _) dX1_refresh_166
            · skip
              have ne18 : nq xe o := gv_ne h_o h_xe (by simp)
              have ne19 : nq ak o := gv_ne h_o h_ak (by simp)
              have ne20 : nq af o := gv_ne h_o h_af (by simp)
              have ne21 : nq as o := gv_ne h_o h_as (by simp)
              have ne22 : nq ap o := gv_ne h_o h_ap (by simp)
              have ne23 : nq av o := gv_ne h_o h_av (by simp)
              have ne24 : nq c o := gv_ne h_o h_c (by simp)
              have ne25 : nq oc o := gv_ne h_o h_oc (by simp)
              have ne26 : nq ky o := gv_ne h_o h_ky (by simp)
              have ne27 : nq pl o := gv_ne h_o h_pl (by simp)
              refine k_callV C mv_1_101 (c_over7  ((gv_up_n ne1).trans h_mo) ((gv_up_n ne5).trans h_no) ((gv_up_n ne18).trans h_xe) ((gv_up_n ne19).trans h_ak) ((gv_up_n ne20).trans h_af) ((gv_up_n ne21).trans h_as) ((gv_up_n ne22).trans h_ap) ((gv_up_n ne23).trans h_av) ((gv_up_n (Ne.symm hoa)).trans h_a) ((gv_up_n ne24).trans h_c) gv_up_s ((gv_up_n ne25).trans h_oc) ((gv_up_n ne26).trans h_ky) ((gv_up_n ne27).trans h_pl) (by first | assumption | omega) (by first | assumption | omega) hSa.2 hoa hca hSa.1 hky) ((gv_up_n ne1).trans h_mo) rfl rfl (by simp [Value.category]) ⟨by decide, by decide⟩ ⟨(by decide), (by decide)⟩ dX1_refresh_131 (fun zv zV zh => ?_)
              obtain ⟨vl1_w28, kf1_w28, pf1_w28, n1_w28, tl1_w28, f1_w28, rfl, rfl, ht1_w28⟩ := zh
              refine k_pc (pc' := 134) (st' := []) rfl rfl ?_
              refine k_view (V1 := gv_up (gv_up (gv_up (gv_up (gv_up V o (.inr (4, [.ref oc, .int (nI n1_w28), .int tl1_w28, .int (nI nt)]))) av (.inl (cI, 30, .inl vl1_w28))) ky (.inl (cI, 80, .inl kf1_w28))) pl (.inl (cI, 80, .inl pf1_w28))) oc (.inl (cI, 486, .inl f1_w28))) ((gv_uc (Ne.symm ne25)).trans (congrArg (fun W => gv_up W oc (.inl (cI, 486, .inl f1_w28))) ((gv_uc (Ne.symm ne27)).trans (congrArg (fun W => gv_up W pl (.inl (cI, 80, .inl pf1_w28))) ((gv_uc (Ne.symm ne26)).trans (congrArg (fun W => gv_up W ky (.inl (cI, 80, .inl kf1_w28))) ((gv_uc (Ne.symm ne23)).trans (congrArg (fun W => gv_up W av (.inl (cI, 30, .inl vl1_w28))) gv_uu)))))))) ?_
              refine k_goto (tgt := 166) C dX1_refresh_134 (by decide) ?_
              refine k_view (V1 := gv_up (gv_up (gv_up (gv_up (gv_up V av (.inl (cI, 30, .inl vl1_w28))) o (.inr (4, [.ref oc, .int (nI n1_w28), .int tl1_w28, .int (nI nt)]))) ky (.inl (cI, 80, .inl kf1_w28))) pl (.inl (cI, 80, .inl pf1_w28))) oc (.inl (cI, 486, .inl f1_w28))) (congrArg (fun W => gv_up W oc (.inl (cI, 486, .inl f1_w28))) (congrArg (fun W => gv_up W pl (.inl (cI, 80, .inl pf1_w28))) (congrArg (fun W => gv_up W ky (.inl (cI, 80, .inl kf1_w28))) (gv_uc ne23)))) ?_
              refine k_view (V1 := gv_up (gv_up (gv_up (gv_up (gv_up V av (.inl (cI, 30, .inl vl1_w28))) ky (.inl (cI, 80, .inl kf1_w28))) o (.inr (4, [.ref oc, .int (nI n1_w28), .int tl1_w28, .int (nI nt)]))) pl (.inl (cI, 80, .inl pf1_w28))) oc (.inl (cI, 486, .inl f1_w28))) (congrArg (fun W => gv_up W oc (.inl (cI, 486, .inl f1_w28))) (congrArg (fun W => gv_up W pl (.inl (cI, 80, .inl pf1_w28))) (gv_uc ne26))) ?_
              refine k_view (V1 := gv_up (gv_up (gv_up (gv_up (gv_up V av (.inl (cI, 30, .inl vl1_w28))) ky (.inl (cI, 80, .inl kf1_w28))) pl (.inl (cI, 80, .inl pf1_w28))) o (.inr (4, [.ref oc, .int (nI n1_w28), .int tl1_w28, .int (nI nt)]))) oc (.inl (cI, 486, .inl f1_w28))) (congrArg (fun W => gv_up W oc (.inl (cI, 486, .inl f1_w28))) (gv_uc ne27)) ?_
              refine k_view (V1 := gv_up (gv_up (gv_up (gv_up (gv_up V av (.inl (cI, 30, .inl vl1_w28))) ky (.inl (cI, 80, .inl kf1_w28))) pl (.inl (cI, 80, .inl pf1_w28))) oc (.inl (cI, 486, .inl f1_w28))) o (.inr (4, [.ref oc, .int (nI n1_w28), .int tl1_w28, .int (nI nt)]))) (gv_uc ne25) ?_
              exact k_vret C zr zlk ⟨vl1_w28, kf1_w28, pf1_w28, n1_w28, tl1_w28, f1_w28, rfl, rfl, ht1_w28⟩ (Nat.le_refl _) (Nat.le_refl _) dX1_refresh_166
        · skip
          exact absurd c94 (by decide)
      · skip
        exact absurd c73 (by decide)
    · skip
      exact absurd c54 (by decide)
  · skip
    exact absurd c18 hst
set_option maxHeartbeats 4000000 in
set_option maxRecDepth 100000 in
theorem c_ref8E {zl : Launch} {D : va_G} {cI cN cR : ClassId} {base : Nat} {V : gv_V} {mo tr nd tb wg ky pl : Nat} {tga tsa tpa tqa nt : Nat} {tg ts tp tq : Nat → Int32} {nl nn : Nat} {nf : Nat → Option Nat} {no : Nat} {ps pp po ex va st fr ln dn ag gr : Int32} {xe ak af as ap av ne : Nat} {kd fs sc pt vl : Nat → Int32} {kf pf : Nat → Int32} {tf : Nat → Option Nat} {i g a0 n0 : Nat} {o oc : Nat} {tl0 omk : Int32} {of : Nat → Int32} {E : Nat → Ex} {a c n : Nat} {tl mk : Int32} {f : Nat → Int32} {SA : Option (List Row)}  (h_mo : V mo = some (.inr (1, [.ref tr, .ref xe, .ref nd, .ref tb, .ref wg, .ref ky, .ref pl]))) (h_tr : V tr = some (.inr (5, [.ref tga, .ref tsa, .ref tpa, .ref tqa, .int (nI nt)]))) (h_tga : V tga = some (.inl (cI, 60, .inl tg))) (h_tsa : V tsa = some (.inl (cI, 60, .inl ts))) (h_tpa : V tpa = some (.inl (cI, 60, .inl tp))) (h_tqa : V tqa = some (.inl (cI, 60, .inl tq))) (h_nd : V nd = some (.inr (3, [.ref nl, .int (nI nn)]))) (h_nl : V nl = some (.inl (cN, 30, .inr (.inr (.inr (.inr nf)))))) (h_no : V no = some (.inr (2, [.int (nI 8), .int (nI a0), .int (-1 : Int32), .int ps, .int pp, .int po, .int ex, .int va, .int st, .int fr, .int ln, .int dn, .int ag, .int gr]))) (h_xe : V xe = some (.inr (0, [.ref ak, .ref af, .ref as, .ref ap, .ref av, .int (nI ne)]))) (h_ak : V ak = some (.inl (cI, 30, .inl kd))) (h_af : V af = some (.inl (cI, 30, .inl fs))) (h_as : V as = some (.inl (cI, 30, .inl sc))) (h_ap : V ap = some (.inl (cI, 30, .inl pt))) (h_av : V av = some (.inl (cI, 30, .inl vl))) (h_ky : V ky = some (.inl (cI, 80, .inl kf))) (h_pl : V pl = some (.inl (cI, 80, .inl pf))) (h_tb : V tb = some (.inl (cR, 120, .inr (.inr (.inr (.inr tf)))))) (h_o : V o = some (.inr (4, [.ref oc, .int (nI n0), .int tl0, .int omk]))) (h_oc : V oc = some (.inl (cI, 486, .inl of))) (h_a : V a = some (.inr (4, [.ref c, .int (nI n), .int tl, .int mk]))) (h_c : V c = some (.inl (cI, 486, .inl f))) (hX : ExR E ne kd fs sc pt) (hd : [ak, af, as, ap, av].Nodup) (hi : i < 30) (hg : g < 4) (hnf : nf i = some no) (hky : nq ky pl) (hnt : nt ≤ 60) (ht : tf (i * 4 + g) = some o) (hst : ¬ omk = nI nt) (ha0 : a0 < i) (hta : tf (a0 * 4 + g) = some a) (hSa : TRep SA n tl f) (hoa : nq o a) (hca : nq oc c) : ct zl D [(cI, .int), (cN, .object "AlgebraTree$Node"), (cR, .object "AlgebraTree$Rows")] base yX1_refresh cX1_refresh 6 none 5 0 0 [.ref mo, .int (nI i), .int (nI g)] V (fun zv zV => ∃ vl1 : Nat → Int32, ∃ kf1 : Nat → Int32, ∃ pf1 : Nat → Int32, ∃ n1 : Nat, ∃ tl1 : Int32, ∃ f1 : Nat → Int32, zv = none ∧ zV = gv_up (gv_up (gv_up (gv_up (gv_up V av (.inl (cI, 30, .inl vl1))) ky (.inl (cI, 80, .inl kf1))) pl (.inl (cI, 80, .inl pf1))) oc (.inl (cI, 486, .inl f1))) o (.inr (4, [.ref oc, .int (nI n1), .int tl1, .int (nI nt)])) ∧ (TRep (SA.bind (fun A => cap (distL (nI 63) A))) n1 tl1 f1)) := by
  refine ct_of "AlgebraTree$Maker" rfl (by decide) (Nat.le_of_ble_eq_true rfl) ?_
  intro zp ze zs zm zargs zbelow zmeth zc C zr zlk znm
  refine k_pc (pc' := 0) (st' := []) rfl rfl ?_
  show K zp zl ze (gv_rm 5 0 0) zs zm zargs zbelow zmeth zc D base 6 (gv_E D [(cI, .int), (cN, .object "AlgebraTree$Node"), (cR, .object "AlgebraTree$Rows")] base zbelow zargs zs 0 0 (fun zv zV => ∃ vl1 : Nat → Int32, ∃ kf1 : Nat → Int32, ∃ pf1 : Nat → Int32, ∃ n1 : Nat, ∃ tl1 : Int32, ∃ f1 : Nat → Int32, zv = none ∧ zV = gv_up (gv_up (gv_up (gv_up (gv_up V av (.inl (cI, 30, .inl vl1))) ky (.inl (cI, 80, .inl kf1))) pl (.inl (cI, 80, .inl pf1))) oc (.inl (cI, 486, .inl f1))) o (.inr (4, [.ref oc, .int (nI n1), .int tl1, .int (nI nt)])) ∧ (TRep (SA.bind (fun A => cap (distL (nI 63) A))) n1 tl1 f1))) V 0 0 [(0, .ref mo), (1, .int (nI i)), (2, .int (nI g))] 0 []
  refine k_aload_n C dX1_refresh_0 rfl 0 rfl ?_
  refine k_iload_n C dX1_refresh_1 rfl 1 rfl ?_
  refine k_iload_n C dX1_refresh_2 rfl 2 rfl ?_
  refine k_callV_pr C mv_1_56 (c_tableOf  h_mo h_tb (by first | assumption | omega) (by first | assumption | omega) (by first | assumption | omega)) h_mo rfl rfl (by simp [Value.category]) ⟨by decide, by decide⟩ ⟨(by decide), (by decide)⟩ dX1_refresh_3 ?_
  refine k_astore_n (lv' := [(3, .ref o), (0, .ref mo), (1, .int (nI i)), (2, .int (nI g))]) C dX1_refresh_6 rfl (by decide) rfl ?_
  refine k_aload_n C dX1_refresh_7 rfl 0 rfl ?_
  refine k_get (ci := 4) (k := 3) C fl_1_84 h_o rfl dX1_refresh_8 ?_
  refine k_aload_n C dX1_refresh_11 rfl 1 rfl ?_
  refine k_get (ci := 1) (k := 0) C fl_1_12 h_mo rfl dX1_refresh_12 ?_
  refine k_get (ci := 5) (k := 4) C fl_1_87 h_tr rfl dX1_refresh_15 ?_
  refine k_icmp_ne (tgt := 22) C dX1_refresh_18 (by decide) (fun c18 => ?_) (fun c18 => ?_)
  · skip
    refine k_aload_n C dX1_refresh_22 rfl 0 rfl ?_
    refine k_callV_pv C mv_1_90 (c_X4_clear  h_o h_oc ) h_o rfl rfl (by simp [Value.category]) ⟨by decide, by decide⟩ ⟨(by decide), (by decide)⟩ dX1_refresh_23 ?_
    refine k_aload_n C dX1_refresh_26 rfl 0 rfl ?_
    refine k_aload_n C dX1_refresh_27 rfl 1 rfl ?_
    have ne1 : nq mo o := gv_ne h_o h_mo (by simp)
    refine k_get (ci := 1) (k := 0) C fl_1_12 ((gv_up_n ne1).trans h_mo) rfl dX1_refresh_28 ?_
    have ne2 : nq tr o := gv_ne h_o h_tr (by simp)
    refine k_get (ci := 5) (k := 4) C fl_1_87 ((gv_up_n ne2).trans h_tr) rfl dX1_refresh_31 ?_
    refine k_put (ci := 4) (k := 3) (fs' := [.ref oc, .int (nI 0), .int (nI 0), .int (nI nt)]) C fl_1_84 pf_4_3 gv_up_s rfl rfl (Nat.le_of_ble_eq_true rfl) rfl dX1_refresh_34 ?_
    refine k_view (V1 := gv_up V o (.inr (4, [.ref oc, .int (nI 0), .int (nI 0), .int (nI nt)]))) gv_uu ?_
    refine k_aload_n C dX1_refresh_37 rfl 1 rfl ?_
    refine k_get (ci := 1) (k := 2) C fl_1_28 ((gv_up_n ne1).trans h_mo) rfl dX1_refresh_38 ?_
    refine k_iload_n C dX1_refresh_41 rfl 2 rfl ?_
    have ne3 : nq nd o := gv_ne h_o h_nd (by simp)
    have ne4 : nq nl o := gv_ne h_o h_nl (by simp)
    refine k_callV_pr C mv_1_60 (c_X3_at  ((gv_up_n ne3).trans h_nd) ((gv_up_n ne4).trans h_nl) (by first | assumption | omega) hnf) ((gv_up_n ne3).trans h_nd) rfl rfl (by simp [Value.category]) ⟨by decide, by decide⟩ ⟨(by decide), (by decide)⟩ dX1_refresh_42 ?_
    refine k_astore (lv' := [(4, .ref no), (3, .ref o), (0, .ref mo), (1, .int (nI i)), (2, .int (nI g))]) C dX1_refresh_45 (by decide) rfl ?_
    refine k_aload C dX1_refresh_47 0 rfl ?_
    have ne5 : nq no o := gv_ne h_o h_no (by simp)
    refine k_get (ci := 2) (k := 0) C fl_1_77 ((gv_up_n ne5).trans h_no) rfl dX1_refresh_49 ?_
    refine k_bipush (v := nI 12) C dX1_refresh_52 rfl ?_
    refine k_icmp_ne (tgt := 65) C dX1_refresh_54 (by decide) (fun c54 => ?_) (fun c54 => ?_)
    · skip
      have b54 : ¬ 8 = 12 := fun z => c54 ((nI_eq (a := 8) (b := 12) (by omega) (by omega)).mpr z)
      refine k_iload_n C dX1_refresh_65 rfl 4 rfl ?_
      refine k_istore (lv' := [(5, .int (nI g)), (4, .ref no), (3, .ref o), (0, .ref mo), (1, .int (nI i)), (2, .int (nI g))]) C dX1_refresh_66 (by decide) rfl ?_
      refine k_aload C dX1_refresh_68 1 rfl ?_
      refine k_get (ci := 2) (k := 0) C fl_1_77 ((gv_up_n ne5).trans h_no) rfl dX1_refresh_70 ?_
      refine k_if_ne (tgt := 87) C dX1_refresh_73 (by decide) (fun c73 => ?_) (fun c73 => ?_)
      · skip
        have b73 : ¬ 8 = 0 := fun z => c73 ((nI_eq (a := 8) (b := 0) (by omega) (by omega)).mpr z)
        refine k_aload C dX1_refresh_87 1 rfl ?_
        refine k_get (ci := 2) (k := 0) C fl_1_77 ((gv_up_n ne5).trans h_no) rfl dX1_refresh_89 ?_
        refine k_bipush (v := nI 13) C dX1_refresh_92 rfl ?_
        refine k_icmp_ne (tgt := 107) C dX1_refresh_94 (by decide) (fun c94 => ?_) (fun c94 => ?_)
        · skip
          have b94 : ¬ 8 = 13 := fun z => c94 ((nI_eq (a := 8) (b := 13) (by omega) (by omega)).mpr z)
          refine k_aload C dX1_refresh_107 1 rfl ?_
          refine k_get (ci := 2) (k := 2) C fl_1_74 ((gv_up_n ne5).trans h_no) rfl dX1_refresh_109 ?_
          refine k_iconst (v := (-1 : Int32)) C dX1_refresh_112 (by decide) ?_
          refine k_icmp_ne (tgt := 137) C dX1_refresh_113 (by decide) (fun c113 => ?_) (fun c113 => ?_)
          · skip
            exact absurd rfl c113
          · skip
            refine k_aload_n C dX1_refresh_116 rfl 3 rfl ?_
            refine k_aload C dX1_refresh_117 1 rfl ?_
            refine k_aload_n C dX1_refresh_119 rfl 3 rfl ?_
            refine k_aload C dX1_refresh_120 1 rfl ?_
            refine k_get (ci := 2) (k := 1) C fl_1_68 ((gv_up_n ne5).trans h_no) rfl dX1_refresh_122 ?_
            refine k_iload C dX1_refresh_125 0 rfl ?_
            have ne6 : nq tb o := gv_ne h_o h_tb (by simp)
            refine k_callV_pr C mv_1_56 (c_tableOf  ((gv_up_n ne1).trans h_mo) ((gv_up_n ne6).trans h_tb) (by first | assumption | omega) (by first | assumption | omega) hta) ((gv_up_n ne1).trans h_mo) rfl rfl (by simp [Value.category]) ⟨by decide, by decide⟩ ⟨(by decide), (by decide)⟩ dX1_refresh_127 ?_
            refine k_aload_n C dX1_refresh_130 rfl 2 rfl ?_
            rcases SA with _ | A
            · skip
              have ne7 : nq xe o := gv_ne h_o h_xe (by simp)
              have ne8 : nq ak o := gv_ne h_o h_ak (by simp)
              have ne9 : nq af o := gv_ne h_o h_af (by simp)
              have ne10 : nq as o := gv_ne h_o h_as (by simp)
              have ne11 : nq ap o := gv_ne h_o h_ap (by simp)
              have ne12 : nq av o := gv_ne h_o h_av (by simp)
              have ne13 : nq c o := gv_ne h_o h_c (by simp)
              have ne14 : nq oc o := gv_ne h_o h_oc (by simp)
              have ne15 : nq ky o := gv_ne h_o h_ky (by simp)
              have ne16 : nq pl o := gv_ne h_o h_pl (by simp)
              refine k_callV C mv_1_101 (c_overL  ((gv_up_n ne1).trans h_mo) ((gv_up_n ne5).trans h_no) ((gv_up_n ne7).trans h_xe) ((gv_up_n ne8).trans h_ak) ((gv_up_n ne9).trans h_af) ((gv_up_n ne10).trans h_as) ((gv_up_n ne11).trans h_ap) ((gv_up_n ne12).trans h_av) ((gv_up_n (Ne.symm hoa)).trans h_a) ((gv_up_n ne13).trans h_c) gv_up_s ((gv_up_n ne14).trans h_oc) ((gv_up_n ne15).trans h_ky) ((gv_up_n ne16).trans h_pl) hSa (by first | assumption | omega) hoa hca hky) ((gv_up_n ne1).trans h_mo) rfl rfl (by simp [Value.category]) ⟨by decide, by decide⟩ ⟨(by decide), (by decide)⟩ dX1_refresh_131 (fun zv zV zh => ?_)
              obtain ⟨vl1_w17, kf1_w17, pf1_w17, n1_w17, tl1_w17, f1_w17, rfl, rfl, ht1_w17⟩ := zh
              refine k_pc (pc' := 134) (st' := []) rfl rfl ?_
              refine k_view (V1 := gv_up (gv_up (gv_up (gv_up (gv_up V o (.inr (4, [.ref oc, .int (nI n1_w17), .int tl1_w17, .int (nI nt)]))) av (.inl (cI, 30, .inl vl1_w17))) ky (.inl (cI, 80, .inl kf1_w17))) pl (.inl (cI, 80, .inl pf1_w17))) oc (.inl (cI, 486, .inl f1_w17))) ((gv_uc (Ne.symm ne14)).trans (congrArg (fun W => gv_up W oc (.inl (cI, 486, .inl f1_w17))) ((gv_uc (Ne.symm ne16)).trans (congrArg (fun W => gv_up W pl (.inl (cI, 80, .inl pf1_w17))) ((gv_uc (Ne.symm ne15)).trans (congrArg (fun W => gv_up W ky (.inl (cI, 80, .inl kf1_w17))) ((gv_uc (Ne.symm ne12)).trans (congrArg (fun W => gv_up W av (.inl (cI, 30, .inl vl1_w17))) gv_uu)))))))) ?_
              refine k_goto (tgt := 166) C dX1_refresh_134 (by decide) ?_
              refine k_view (V1 := gv_up (gv_up (gv_up (gv_up (gv_up V av (.inl (cI, 30, .inl vl1_w17))) o (.inr (4, [.ref oc, .int (nI n1_w17), .int tl1_w17, .int (nI nt)]))) ky (.inl (cI, 80, .inl kf1_w17))) pl (.inl (cI, 80, .inl pf1_w17))) oc (.inl (cI, 486, .inl f1_w17))) (congrArg (fun W => gv_up W oc (.inl (cI, 486, .inl f1_w17))) (congrArg (fun W => gv_up W pl (.inl (cI, 80, .inl pf1_w17))) (congrArg (fun W => gv_up W ky (.inl (cI, 80, .inl kf1_w17))) (gv_uc ne12)))) ?_
              refine k_view (V1 := gv_up (gv_up (gv_up (gv_up (gv_up V av (.inl (cI, 30, .inl vl1_w17))) ky (.inl (cI, 80, .inl kf1_w17))) o (.inr (4, [.ref oc, .int (nI n1_w17), .int tl1_w17, .int (nI nt)]))) pl (.inl (cI, 80, .inl pf1_w17))) oc (.inl (cI, 486, .inl f1_w17))) (congrArg (fun W => gv_up W oc (.inl (cI, 486, .inl f1_w17))) (congrArg (fun W => gv_up W pl (.inl (cI, 80, .inl pf1_w17))) (gv_uc ne15))) ?_
              refine k_view (V1 := gv_up (gv_up (gv_up (gv_up (gv_up V av (.inl (cI, 30, .inl vl1_w17))) ky (.inl (cI, 80, .inl kf1_w17))) pl (.inl (cI, 80, .inl pf1_w17))) o (.inr (4, [.ref oc, .int (nI n1_w17), .int tl1_w17, .int (nI nt)]))) oc (.inl (cI, 486, .inl f1_w17))) (congrArg (fun W => gv_up W oc (.inl (cI, 486, .inl f1_w17))) (gv_uc ne16)) ?_
              refine k_view (V1 := gv_up (gv_up (gv_up (gv_up (gv_up V av (.inl (cI, 30, .inl vl1_w17))) ky (.inl (cI, 80, .inl kf1_w17))) pl (.inl (cI, 80, .inl pf1_w17))) oc (.inl (cI, 486, .inl f1_w17))) o (.inr (4, [.ref oc, .int (nI n1_w17), .int tl1_w17, .int (nI nt)]))) (gv_uc ne14) ?_
              exact k_vret C zr zlk ⟨vl1_w17, kf1_w17, pf1_w17, n1_w17, tl1_w17, f1_w17, rfl, rfl, ht1_w17⟩ (Nat.le_refl _) (Nat.le_refl _) dX1_refresh_166
            · skip
              have ne18 : nq xe o := gv_ne h_o h_xe (by simp)
              have ne19 : nq ak o := gv_ne h_o h_ak (by simp)
              have ne20 : nq af o := gv_ne h_o h_af (by simp)
              have ne21 : nq as o := gv_ne h_o h_as (by simp)
              have ne22 : nq ap o := gv_ne h_o h_ap (by simp)
              have ne23 : nq av o := gv_ne h_o h_av (by simp)
              have ne24 : nq c o := gv_ne h_o h_c (by simp)
              have ne25 : nq oc o := gv_ne h_o h_oc (by simp)
              have ne26 : nq ky o := gv_ne h_o h_ky (by simp)
              have ne27 : nq pl o := gv_ne h_o h_pl (by simp)
              refine k_callV C mv_1_101 (c_over8  ((gv_up_n ne1).trans h_mo) ((gv_up_n ne5).trans h_no) ((gv_up_n ne18).trans h_xe) ((gv_up_n ne19).trans h_ak) ((gv_up_n ne20).trans h_af) ((gv_up_n ne21).trans h_as) ((gv_up_n ne22).trans h_ap) ((gv_up_n ne23).trans h_av) ((gv_up_n (Ne.symm hoa)).trans h_a) ((gv_up_n ne24).trans h_c) gv_up_s ((gv_up_n ne25).trans h_oc) ((gv_up_n ne26).trans h_ky) ((gv_up_n ne27).trans h_pl) (by first | assumption | omega) (by first | assumption | omega) hSa.2 hoa hca hSa.1 hky) ((gv_up_n ne1).trans h_mo) rfl rfl (by simp [Value.category]) ⟨by decide, by decide⟩ ⟨(by decide), (by decide)⟩ dX1_refresh_131 (fun zv zV zh => ?_)
              obtain ⟨vl1_w28, kf1_w28, pf1_w28, n1_w28, tl1_w28, f1_w28, rfl, rfl, ht1_w28⟩ := zh
              refine k_pc (pc' := 134) (st' := []) rfl rfl ?_
              refine k_view (V1 := gv_up (gv_up (gv_up (gv_up (gv_up V o (.inr (4, [.ref oc, .int (nI n1_w28), .int tl1_w28, .int (nI nt)]))) av (.inl (cI, 30, .inl vl1_w28))) ky (.inl (cI, 80, .inl kf1_w28))) pl (.inl (cI, 80, .inl pf1_w28))) oc (.inl (cI, 486, .inl f1_w28))) ((gv_uc (Ne.symm ne25)).trans (congrArg (fun W => gv_up W oc (.inl (cI, 486, .inl f1_w28))) ((gv_uc (Ne.symm ne27)).trans (congrArg (fun W => gv_up W pl (.inl (cI, 80, .inl pf1_w28))) ((gv_uc (Ne.symm ne26)).trans (congrArg (fun W => gv_up W ky (.inl (cI, 80, .inl kf1_w28))) ((gv_uc (Ne.symm ne23)).trans (congrArg (fun W => gv_up W av (.inl (cI, 30, .inl vl1_w28))) gv_uu)))))))) ?_
              refine k_goto (tgt := 166) C dX1_refresh_134 (by decide) ?_
              refine k_view (V1 := gv_up (gv_up (gv_up (gv_up (gv_up V av (.inl (cI, 30, .inl vl1_w28))) o (.inr (4, [.ref oc, .int (nI n1_w28), .int tl1_w28, .int (nI nt)]))) ky (.inl (cI, 80, .inl kf1_w28))) pl (.inl (cI, 80, .inl pf1_w28))) oc (.inl (cI, 486, .inl f1_w28))) (congrArg (fun W => gv_up W oc (.inl (cI, 486, .inl f1_w28))) (congrArg (fun W => gv_up W pl (.inl (cI, 80, .inl pf1_w28))) (congrArg (fun W => gv_up W ky (.inl (cI, 80, .inl kf1_w28))) (gv_uc ne23)))) ?_
              refine k_view (V1 := gv_up (gv_up (gv_up (gv_up (gv_up V av (.inl (cI, 30, .inl vl1_w28))) ky (.inl (cI, 80, .inl kf1_w28))) o (.inr (4, [.ref oc, .int (nI n1_w28), .int tl1_w28, .int (nI nt)]))) pl (.inl (cI, 80, .inl pf1_w28))) oc (.inl (cI, 486, .inl f1_w28))) (congrArg (fun W => gv_up W oc (.inl (cI, 486, .inl f1_w28))) (congrArg (fun W => gv_up W pl (.inl (cI, 80, .inl pf1_w28))) (gv_uc ne26))) ?_
              refine k_view (V1 := gv_up (gv_up (gv_up (gv_up (gv_up V av (.inl (cI, 30, .inl vl1_w28))) ky (.inl (cI, 80, .inl kf1_w28))) pl (.inl (cI, 80, .inl pf1_w28))) o (.inr (4, [.ref oc, .int (nI n1_w28), .int tl1_w28, .int (nI nt)]))) oc (.inl (cI, 486, .inl f1_w28))) (congrArg (fun W => gv_up W oc (.inl (cI, 486, .inl f1_w28))) (gv_uc ne27)) ?_
              refine k_view (V1 := gv_up (gv_up (gv_up (gv_up (gv_up V av (.inl (cI, 30, .inl vl1_w28))) ky (.inl (cI, 80, .inl kf1_w28))) pl (.inl (cI, 80, .inl pf1_w28))) oc (.inl (cI, 486, .inl f1_w28))) o (.inr (4, [.ref oc, .int (nI n1_w28), .int tl1_w28, .int (nI nt)]))) (gv_uc ne25) ?_
              exact k_vret C zr zlk ⟨vl1_w28, kf1_w28, pf1_w28, n1_w28, tl1_w28, f1_w28, rfl, rfl, ht1_w28⟩ (Nat.le_refl _) (Nat.le_refl _) dX1_refresh_166
        · skip
          exact absurd c94 (by decide)
      · skip
        exact absurd c73 (by decide)
    · skip
      exact absurd c54 (by decide)
  · skip
    exact absurd c18 hst
set_option maxHeartbeats 4000000 in
set_option maxRecDepth 100000 in
theorem c_ref9E {zl : Launch} {D : va_G} {cI cN cR : ClassId} {base : Nat} {V : gv_V} {mo tr nd tb wg ky pl : Nat} {tga tsa tpa tqa nt : Nat} {tg ts tp tq : Nat → Int32} {nl nn : Nat} {nf : Nat → Option Nat} {no : Nat} {ps pp po ex va st dn ag gr : Int32} {u0 u1 : Nat} {xe ak af as ap av ne : Nat} {kd fs sc pt vl : Nat → Int32} {kf pf : Nat → Int32} {tf : Nat → Option Nat} {i g a0 n0 : Nat} {o oc : Nat} {tl0 omk : Int32} {of : Nat → Int32} {E : Nat → Ex} {a c n : Nat} {tl mk : Int32} {f : Nat → Int32} {SA : Option (List Row)}  (h_mo : V mo = some (.inr (1, [.ref tr, .ref xe, .ref nd, .ref tb, .ref wg, .ref ky, .ref pl]))) (h_tr : V tr = some (.inr (5, [.ref tga, .ref tsa, .ref tpa, .ref tqa, .int (nI nt)]))) (h_tga : V tga = some (.inl (cI, 60, .inl tg))) (h_tsa : V tsa = some (.inl (cI, 60, .inl ts))) (h_tpa : V tpa = some (.inl (cI, 60, .inl tp))) (h_tqa : V tqa = some (.inl (cI, 60, .inl tq))) (h_nd : V nd = some (.inr (3, [.ref nl, .int (nI nn)]))) (h_nl : V nl = some (.inl (cN, 30, .inr (.inr (.inr (.inr nf)))))) (h_no : V no = some (.inr (2, [.int (nI 9), .int (nI a0), .int (-1 : Int32), .int ps, .int pp, .int po, .int ex, .int va, .int st, .int (nI u0), .int (nI u1), .int dn, .int ag, .int gr]))) (h_xe : V xe = some (.inr (0, [.ref ak, .ref af, .ref as, .ref ap, .ref av, .int (nI ne)]))) (h_ak : V ak = some (.inl (cI, 30, .inl kd))) (h_af : V af = some (.inl (cI, 30, .inl fs))) (h_as : V as = some (.inl (cI, 30, .inl sc))) (h_ap : V ap = some (.inl (cI, 30, .inl pt))) (h_av : V av = some (.inl (cI, 30, .inl vl))) (h_ky : V ky = some (.inl (cI, 80, .inl kf))) (h_pl : V pl = some (.inl (cI, 80, .inl pf))) (h_tb : V tb = some (.inl (cR, 120, .inr (.inr (.inr (.inr tf)))))) (h_o : V o = some (.inr (4, [.ref oc, .int (nI n0), .int tl0, .int omk]))) (h_oc : V oc = some (.inl (cI, 486, .inl of))) (h_a : V a = some (.inr (4, [.ref c, .int (nI n), .int tl, .int mk]))) (h_c : V c = some (.inl (cI, 486, .inl f))) (hX : ExR E ne kd fs sc pt) (hd : [ak, af, as, ap, av].Nodup) (hi : i < 30) (hg : g < 4) (hnf : nf i = some no) (hky : nq ky pl) (hnt : nt ≤ 60) (ht : tf (i * 4 + g) = some o) (hst : ¬ omk = nI nt) (ha0 : a0 < i) (hta : tf (a0 * 4 + g) = some a) (hSa : TRep SA n tl f) (hoa : nq o a) (hca : nq oc c) (hu0 : u0 ≤ 1000) (hu1 : u1 ≤ 1000) : ct zl D [(cI, .int), (cN, .object "AlgebraTree$Node"), (cR, .object "AlgebraTree$Rows")] base yX1_refresh cX1_refresh 6 none 5 0 0 [.ref mo, .int (nI i), .int (nI g)] V (fun zv zV => ∃ vl1 : Nat → Int32, ∃ kf1 : Nat → Int32, ∃ pf1 : Nat → Int32, ∃ n1 : Nat, ∃ tl1 : Int32, ∃ f1 : Nat → Int32, zv = none ∧ zV = gv_up (gv_up (gv_up (gv_up (gv_up V av (.inl (cI, 30, .inl vl1))) ky (.inl (cI, 80, .inl kf1))) pl (.inl (cI, 80, .inl pf1))) oc (.inl (cI, 486, .inl f1))) o (.inr (4, [.ref oc, .int (nI n1), .int tl1, .int (nI nt)])) ∧ (TRep (SA.bind (fun A => cap ((A.drop u0).take u1))) n1 tl1 f1)) := by
  refine ct_of "AlgebraTree$Maker" rfl (by decide) (Nat.le_of_ble_eq_true rfl) ?_
  intro zp ze zs zm zargs zbelow zmeth zc C zr zlk znm
  refine k_pc (pc' := 0) (st' := []) rfl rfl ?_
  show K zp zl ze (gv_rm 5 0 0) zs zm zargs zbelow zmeth zc D base 6 (gv_E D [(cI, .int), (cN, .object "AlgebraTree$Node"), (cR, .object "AlgebraTree$Rows")] base zbelow zargs zs 0 0 (fun zv zV => ∃ vl1 : Nat → Int32, ∃ kf1 : Nat → Int32, ∃ pf1 : Nat → Int32, ∃ n1 : Nat, ∃ tl1 : Int32, ∃ f1 : Nat → Int32, zv = none ∧ zV = gv_up (gv_up (gv_up (gv_up (gv_up V av (.inl (cI, 30, .inl vl1))) ky (.inl (cI, 80, .inl kf1))) pl (.inl (cI, 80, .inl pf1))) oc (.inl (cI, 486, .inl f1))) o (.inr (4, [.ref oc, .int (nI n1), .int tl1, .int (nI nt)])) ∧ (TRep (SA.bind (fun A => cap ((A.drop u0).take u1))) n1 tl1 f1))) V 0 0 [(0, .ref mo), (1, .int (nI i)), (2, .int (nI g))] 0 []
  refine k_aload_n C dX1_refresh_0 rfl 0 rfl ?_
  refine k_iload_n C dX1_refresh_1 rfl 1 rfl ?_
  refine k_iload_n C dX1_refresh_2 rfl 2 rfl ?_
  refine k_callV_pr C mv_1_56 (c_tableOf  h_mo h_tb (by first | assumption | omega) (by first | assumption | omega) (by first | assumption | omega)) h_mo rfl rfl (by simp [Value.category]) ⟨by decide, by decide⟩ ⟨(by decide), (by decide)⟩ dX1_refresh_3 ?_
  refine k_astore_n (lv' := [(3, .ref o), (0, .ref mo), (1, .int (nI i)), (2, .int (nI g))]) C dX1_refresh_6 rfl (by decide) rfl ?_
  refine k_aload_n C dX1_refresh_7 rfl 0 rfl ?_
  refine k_get (ci := 4) (k := 3) C fl_1_84 h_o rfl dX1_refresh_8 ?_
  refine k_aload_n C dX1_refresh_11 rfl 1 rfl ?_
  refine k_get (ci := 1) (k := 0) C fl_1_12 h_mo rfl dX1_refresh_12 ?_
  refine k_get (ci := 5) (k := 4) C fl_1_87 h_tr rfl dX1_refresh_15 ?_
  refine k_icmp_ne (tgt := 22) C dX1_refresh_18 (by decide) (fun c18 => ?_) (fun c18 => ?_)
  · skip
    refine k_aload_n C dX1_refresh_22 rfl 0 rfl ?_
    refine k_callV_pv C mv_1_90 (c_X4_clear  h_o h_oc ) h_o rfl rfl (by simp [Value.category]) ⟨by decide, by decide⟩ ⟨(by decide), (by decide)⟩ dX1_refresh_23 ?_
    refine k_aload_n C dX1_refresh_26 rfl 0 rfl ?_
    refine k_aload_n C dX1_refresh_27 rfl 1 rfl ?_
    have ne1 : nq mo o := gv_ne h_o h_mo (by simp)
    refine k_get (ci := 1) (k := 0) C fl_1_12 ((gv_up_n ne1).trans h_mo) rfl dX1_refresh_28 ?_
    have ne2 : nq tr o := gv_ne h_o h_tr (by simp)
    refine k_get (ci := 5) (k := 4) C fl_1_87 ((gv_up_n ne2).trans h_tr) rfl dX1_refresh_31 ?_
    refine k_put (ci := 4) (k := 3) (fs' := [.ref oc, .int (nI 0), .int (nI 0), .int (nI nt)]) C fl_1_84 pf_4_3 gv_up_s rfl rfl (Nat.le_of_ble_eq_true rfl) rfl dX1_refresh_34 ?_
    refine k_view (V1 := gv_up V o (.inr (4, [.ref oc, .int (nI 0), .int (nI 0), .int (nI nt)]))) gv_uu ?_
    refine k_aload_n C dX1_refresh_37 rfl 1 rfl ?_
    refine k_get (ci := 1) (k := 2) C fl_1_28 ((gv_up_n ne1).trans h_mo) rfl dX1_refresh_38 ?_
    refine k_iload_n C dX1_refresh_41 rfl 2 rfl ?_
    have ne3 : nq nd o := gv_ne h_o h_nd (by simp)
    have ne4 : nq nl o := gv_ne h_o h_nl (by simp)
    refine k_callV_pr C mv_1_60 (c_X3_at  ((gv_up_n ne3).trans h_nd) ((gv_up_n ne4).trans h_nl) (by first | assumption | omega) hnf) ((gv_up_n ne3).trans h_nd) rfl rfl (by simp [Value.category]) ⟨by decide, by decide⟩ ⟨(by decide), (by decide)⟩ dX1_refresh_42 ?_
    refine k_astore (lv' := [(4, .ref no), (3, .ref o), (0, .ref mo), (1, .int (nI i)), (2, .int (nI g))]) C dX1_refresh_45 (by decide) rfl ?_
    refine k_aload C dX1_refresh_47 0 rfl ?_
    have ne5 : nq no o := gv_ne h_o h_no (by simp)
    refine k_get (ci := 2) (k := 0) C fl_1_77 ((gv_up_n ne5).trans h_no) rfl dX1_refresh_49 ?_
    refine k_bipush (v := nI 12) C dX1_refresh_52 rfl ?_
    refine k_icmp_ne (tgt := 65) C dX1_refresh_54 (by decide) (fun c54 => ?_) (fun c54 => ?_)
    · skip
      have b54 : ¬ 9 = 12 := fun z => c54 ((nI_eq (a := 9) (b := 12) (by omega) (by omega)).mpr z)
      refine k_iload_n C dX1_refresh_65 rfl 4 rfl ?_
      refine k_istore (lv' := [(5, .int (nI g)), (4, .ref no), (3, .ref o), (0, .ref mo), (1, .int (nI i)), (2, .int (nI g))]) C dX1_refresh_66 (by decide) rfl ?_
      refine k_aload C dX1_refresh_68 1 rfl ?_
      refine k_get (ci := 2) (k := 0) C fl_1_77 ((gv_up_n ne5).trans h_no) rfl dX1_refresh_70 ?_
      refine k_if_ne (tgt := 87) C dX1_refresh_73 (by decide) (fun c73 => ?_) (fun c73 => ?_)
      · skip
        have b73 : ¬ 9 = 0 := fun z => c73 ((nI_eq (a := 9) (b := 0) (by omega) (by omega)).mpr z)
        refine k_aload C dX1_refresh_87 1 rfl ?_
        refine k_get (ci := 2) (k := 0) C fl_1_77 ((gv_up_n ne5).trans h_no) rfl dX1_refresh_89 ?_
        refine k_bipush (v := nI 13) C dX1_refresh_92 rfl ?_
        refine k_icmp_ne (tgt := 107) C dX1_refresh_94 (by decide) (fun c94 => ?_) (fun c94 => ?_)
        · skip
          have b94 : ¬ 9 = 13 := fun z => c94 ((nI_eq (a := 9) (b := 13) (by omega) (by omega)).mpr z)
          refine k_aload C dX1_refresh_107 1 rfl ?_
          refine k_get (ci := 2) (k := 2) C fl_1_74 ((gv_up_n ne5).trans h_no) rfl dX1_refresh_109 ?_
          refine k_iconst (v := (-1 : Int32)) C dX1_refresh_112 (by decide) ?_
          refine k_icmp_ne (tgt := 137) C dX1_refresh_113 (by decide) (fun c113 => ?_) (fun c113 => ?_)
          · skip
            exact absurd rfl c113
          · skip
            refine k_aload_n C dX1_refresh_116 rfl 3 rfl ?_
            refine k_aload C dX1_refresh_117 1 rfl ?_
            refine k_aload_n C dX1_refresh_119 rfl 3 rfl ?_
            refine k_aload C dX1_refresh_120 1 rfl ?_
            refine k_get (ci := 2) (k := 1) C fl_1_68 ((gv_up_n ne5).trans h_no) rfl dX1_refresh_122 ?_
            refine k_iload C dX1_refresh_125 0 rfl ?_
            have ne6 : nq tb o := gv_ne h_o h_tb (by simp)
            refine k_callV_pr C mv_1_56 (c_tableOf  ((gv_up_n ne1).trans h_mo) ((gv_up_n ne6).trans h_tb) (by first | assumption | omega) (by first | assumption | omega) hta) ((gv_up_n ne1).trans h_mo) rfl rfl (by simp [Value.category]) ⟨by decide, by decide⟩ ⟨(by decide), (by decide)⟩ dX1_refresh_127 ?_
            refine k_aload_n C dX1_refresh_130 rfl 2 rfl ?_
            rcases SA with _ | A
            · skip
              have ne7 : nq xe o := gv_ne h_o h_xe (by simp)
              have ne8 : nq ak o := gv_ne h_o h_ak (by simp)
              have ne9 : nq af o := gv_ne h_o h_af (by simp)
              have ne10 : nq as o := gv_ne h_o h_as (by simp)
              have ne11 : nq ap o := gv_ne h_o h_ap (by simp)
              have ne12 : nq av o := gv_ne h_o h_av (by simp)
              have ne13 : nq c o := gv_ne h_o h_c (by simp)
              have ne14 : nq oc o := gv_ne h_o h_oc (by simp)
              have ne15 : nq ky o := gv_ne h_o h_ky (by simp)
              have ne16 : nq pl o := gv_ne h_o h_pl (by simp)
              refine k_callV C mv_1_101 (c_overL  ((gv_up_n ne1).trans h_mo) ((gv_up_n ne5).trans h_no) ((gv_up_n ne7).trans h_xe) ((gv_up_n ne8).trans h_ak) ((gv_up_n ne9).trans h_af) ((gv_up_n ne10).trans h_as) ((gv_up_n ne11).trans h_ap) ((gv_up_n ne12).trans h_av) ((gv_up_n (Ne.symm hoa)).trans h_a) ((gv_up_n ne13).trans h_c) gv_up_s ((gv_up_n ne14).trans h_oc) ((gv_up_n ne15).trans h_ky) ((gv_up_n ne16).trans h_pl) hSa (by first | assumption | omega) hoa hca hky) ((gv_up_n ne1).trans h_mo) rfl rfl (by simp [Value.category]) ⟨by decide, by decide⟩ ⟨(by decide), (by decide)⟩ dX1_refresh_131 (fun zv zV zh => ?_)
              obtain ⟨vl1_w17, kf1_w17, pf1_w17, n1_w17, tl1_w17, f1_w17, rfl, rfl, ht1_w17⟩ := zh
              refine k_pc (pc' := 134) (st' := []) rfl rfl ?_
              refine k_view (V1 := gv_up (gv_up (gv_up (gv_up (gv_up V o (.inr (4, [.ref oc, .int (nI n1_w17), .int tl1_w17, .int (nI nt)]))) av (.inl (cI, 30, .inl vl1_w17))) ky (.inl (cI, 80, .inl kf1_w17))) pl (.inl (cI, 80, .inl pf1_w17))) oc (.inl (cI, 486, .inl f1_w17))) ((gv_uc (Ne.symm ne14)).trans (congrArg (fun W => gv_up W oc (.inl (cI, 486, .inl f1_w17))) ((gv_uc (Ne.symm ne16)).trans (congrArg (fun W => gv_up W pl (.inl (cI, 80, .inl pf1_w17))) ((gv_uc (Ne.symm ne15)).trans (congrArg (fun W => gv_up W ky (.inl (cI, 80, .inl kf1_w17))) ((gv_uc (Ne.symm ne12)).trans (congrArg (fun W => gv_up W av (.inl (cI, 30, .inl vl1_w17))) gv_uu)))))))) ?_
              refine k_goto (tgt := 166) C dX1_refresh_134 (by decide) ?_
              refine k_view (V1 := gv_up (gv_up (gv_up (gv_up (gv_up V av (.inl (cI, 30, .inl vl1_w17))) o (.inr (4, [.ref oc, .int (nI n1_w17), .int tl1_w17, .int (nI nt)]))) ky (.inl (cI, 80, .inl kf1_w17))) pl (.inl (cI, 80, .inl pf1_w17))) oc (.inl (cI, 486, .inl f1_w17))) (congrArg (fun W => gv_up W oc (.inl (cI, 486, .inl f1_w17))) (congrArg (fun W => gv_up W pl (.inl (cI, 80, .inl pf1_w17))) (congrArg (fun W => gv_up W ky (.inl (cI, 80, .inl kf1_w17))) (gv_uc ne12)))) ?_
              refine k_view (V1 := gv_up (gv_up (gv_up (gv_up (gv_up V av (.inl (cI, 30, .inl vl1_w17))) ky (.inl (cI, 80, .inl kf1_w17))) o (.inr (4, [.ref oc, .int (nI n1_w17), .int tl1_w17, .int (nI nt)]))) pl (.inl (cI, 80, .inl pf1_w17))) oc (.inl (cI, 486, .inl f1_w17))) (congrArg (fun W => gv_up W oc (.inl (cI, 486, .inl f1_w17))) (congrArg (fun W => gv_up W pl (.inl (cI, 80, .inl pf1_w17))) (gv_uc ne15))) ?_
              refine k_view (V1 := gv_up (gv_up (gv_up (gv_up (gv_up V av (.inl (cI, 30, .inl vl1_w17))) ky (.inl (cI, 80, .inl kf1_w17))) pl (.inl (cI, 80, .inl pf1_w17))) o (.inr (4, [.ref oc, .int (nI n1_w17), .int tl1_w17, .int (nI nt)]))) oc (.inl (cI, 486, .inl f1_w17))) (congrArg (fun W => gv_up W oc (.inl (cI, 486, .inl f1_w17))) (gv_uc ne16)) ?_
              refine k_view (V1 := gv_up (gv_up (gv_up (gv_up (gv_up V av (.inl (cI, 30, .inl vl1_w17))) ky (.inl (cI, 80, .inl kf1_w17))) pl (.inl (cI, 80, .inl pf1_w17))) oc (.inl (cI, 486, .inl f1_w17))) o (.inr (4, [.ref oc, .int (nI n1_w17), .int tl1_w17, .int (nI nt)]))) (gv_uc ne14) ?_
              exact k_vret C zr zlk ⟨vl1_w17, kf1_w17, pf1_w17, n1_w17, tl1_w17, f1_w17, rfl, rfl, ht1_w17⟩ (Nat.le_refl _) (Nat.le_refl _) dX1_refresh_166
            · skip
              have ne18 : nq xe o := gv_ne h_o h_xe (by simp)
              have ne19 : nq ak o := gv_ne h_o h_ak (by simp)
              have ne20 : nq af o := gv_ne h_o h_af (by simp)
              have ne21 : nq as o := gv_ne h_o h_as (by simp)
              have ne22 : nq ap o := gv_ne h_o h_ap (by simp)
              have ne23 : nq av o := gv_ne h_o h_av (by simp)
              have ne24 : nq c o := gv_ne h_o h_c (by simp)
              have ne25 : nq oc o := gv_ne h_o h_oc (by simp)
              have ne26 : nq ky o := gv_ne h_o h_ky (by simp)
              have ne27 : nq pl o := gv_ne h_o h_pl (by simp)
              refine k_callV C mv_1_101 (c_over9  ((gv_up_n ne1).trans h_mo) ((gv_up_n ne5).trans h_no) ((gv_up_n ne18).trans h_xe) ((gv_up_n ne19).trans h_ak) ((gv_up_n ne20).trans h_af) ((gv_up_n ne21).trans h_as) ((gv_up_n ne22).trans h_ap) ((gv_up_n ne23).trans h_av) ((gv_up_n (Ne.symm hoa)).trans h_a) ((gv_up_n ne24).trans h_c) gv_up_s ((gv_up_n ne25).trans h_oc) ((gv_up_n ne26).trans h_ky) ((gv_up_n ne27).trans h_pl) (by first | assumption | omega) (by first | assumption | omega) hSa.2 hoa hca hSa.1 hky (by first | assumption | omega) (by first | assumption | omega)) ((gv_up_n ne1).trans h_mo) rfl rfl (by simp [Value.category]) ⟨by decide, by decide⟩ ⟨(by decide), (by decide)⟩ dX1_refresh_131 (fun zv zV zh => ?_)
              obtain ⟨vl1_w28, kf1_w28, pf1_w28, n1_w28, tl1_w28, f1_w28, rfl, rfl, ht1_w28⟩ := zh
              refine k_pc (pc' := 134) (st' := []) rfl rfl ?_
              refine k_view (V1 := gv_up (gv_up (gv_up (gv_up (gv_up V o (.inr (4, [.ref oc, .int (nI n1_w28), .int tl1_w28, .int (nI nt)]))) av (.inl (cI, 30, .inl vl1_w28))) ky (.inl (cI, 80, .inl kf1_w28))) pl (.inl (cI, 80, .inl pf1_w28))) oc (.inl (cI, 486, .inl f1_w28))) ((gv_uc (Ne.symm ne25)).trans (congrArg (fun W => gv_up W oc (.inl (cI, 486, .inl f1_w28))) ((gv_uc (Ne.symm ne27)).trans (congrArg (fun W => gv_up W pl (.inl (cI, 80, .inl pf1_w28))) ((gv_uc (Ne.symm ne26)).trans (congrArg (fun W => gv_up W ky (.inl (cI, 80, .inl kf1_w28))) ((gv_uc (Ne.symm ne23)).trans (congrArg (fun W => gv_up W av (.inl (cI, 30, .inl vl1_w28))) gv_uu)))))))) ?_
              refine k_goto (tgt := 166) C dX1_refresh_134 (by decide) ?_
              refine k_view (V1 := gv_up (gv_up (gv_up (gv_up (gv_up V av (.inl (cI, 30, .inl vl1_w28))) o (.inr (4, [.ref oc, .int (nI n1_w28), .int tl1_w28, .int (nI nt)]))) ky (.inl (cI, 80, .inl kf1_w28))) pl (.inl (cI, 80, .inl pf1_w28))) oc (.inl (cI, 486, .inl f1_w28))) (congrArg (fun W => gv_up W oc (.inl (cI, 486, .inl f1_w28))) (congrArg (fun W => gv_up W pl (.inl (cI, 80, .inl pf1_w28))) (congrArg (fun W => gv_up W ky (.inl (cI, 80, .inl kf1_w28))) (gv_uc ne23)))) ?_
              refine k_view (V1 := gv_up (gv_up (gv_up (gv_up (gv_up V av (.inl (cI, 30, .inl vl1_w28))) ky (.inl (cI, 80, .inl kf1_w28))) o (.inr (4, [.ref oc, .int (nI n1_w28), .int tl1_w28, .int (nI nt)]))) pl (.inl (cI, 80, .inl pf1_w28))) oc (.inl (cI, 486, .inl f1_w28))) (congrArg (fun W => gv_up W oc (.inl (cI, 486, .inl f1_w28))) (congrArg (fun W => gv_up W pl (.inl (cI, 80, .inl pf1_w28))) (gv_uc ne26))) ?_
              refine k_view (V1 := gv_up (gv_up (gv_up (gv_up (gv_up V av (.inl (cI, 30, .inl vl1_w28))) ky (.inl (cI, 80, .inl kf1_w28))) pl (.inl (cI, 80, .inl pf1_w28))) o (.inr (4, [.ref oc, .int (nI n1_w28), .int tl1_w28, .int (nI nt)]))) oc (.inl (cI, 486, .inl f1_w28))) (congrArg (fun W => gv_up W oc (.inl (cI, 486, .inl f1_w28))) (gv_uc ne27)) ?_
              refine k_view (V1 := gv_up (gv_up (gv_up (gv_up (gv_up V av (.inl (cI, 30, .inl vl1_w28))) ky (.inl (cI, 80, .inl kf1_w28))) pl (.inl (cI, 80, .inl pf1_w28))) oc (.inl (cI, 486, .inl f1_w28))) o (.inr (4, [.ref oc, .int (nI n1_w28), .int tl1_w28, .int (nI nt)]))) (gv_uc ne25) ?_
              exact k_vret C zr zlk ⟨vl1_w28, kf1_w28, pf1_w28, n1_w28, tl1_w28, f1_w28, rfl, rfl, ht1_w28⟩ (Nat.le_refl _) (Nat.le_refl _) dX1_refresh_166
        · skip
          exact absurd c94 (by decide)
      · skip
        exact absurd c73 (by decide)
    · skip
      exact absurd c54 (by decide)
  · skip
    exact absurd c18 hst
set_option maxHeartbeats 4000000 in
set_option maxRecDepth 100000 in
theorem c_ref10E {zl : Launch} {D : va_G} {cI cN cR : ClassId} {base : Nat} {V : gv_V} {mo tr nd tb wg ky pl : Nat} {tga tsa tpa tqa nt : Nat} {tg ts tp tq : Nat → Int32} {nl nn : Nat} {nf : Nat → Option Nat} {no : Nat} {ps pp po va st fr ln dn ag gr : Int32} {e : Nat} {xe ak af as ap av ne : Nat} {kd fs sc pt vl : Nat → Int32} {kf pf : Nat → Int32} {tf : Nat → Option Nat} {i g a0 n0 : Nat} {o oc : Nat} {tl0 omk : Int32} {of : Nat → Int32} {E : Nat → Ex} {a c n : Nat} {tl mk : Int32} {f : Nat → Int32} {SA : Option (List Row)}  (h_mo : V mo = some (.inr (1, [.ref tr, .ref xe, .ref nd, .ref tb, .ref wg, .ref ky, .ref pl]))) (h_tr : V tr = some (.inr (5, [.ref tga, .ref tsa, .ref tpa, .ref tqa, .int (nI nt)]))) (h_tga : V tga = some (.inl (cI, 60, .inl tg))) (h_tsa : V tsa = some (.inl (cI, 60, .inl ts))) (h_tpa : V tpa = some (.inl (cI, 60, .inl tp))) (h_tqa : V tqa = some (.inl (cI, 60, .inl tq))) (h_nd : V nd = some (.inr (3, [.ref nl, .int (nI nn)]))) (h_nl : V nl = some (.inl (cN, 30, .inr (.inr (.inr (.inr nf)))))) (h_no : V no = some (.inr (2, [.int (nI 10), .int (nI a0), .int (-1 : Int32), .int ps, .int pp, .int po, .int (nI e), .int va, .int st, .int fr, .int ln, .int dn, .int ag, .int gr]))) (h_xe : V xe = some (.inr (0, [.ref ak, .ref af, .ref as, .ref ap, .ref av, .int (nI ne)]))) (h_ak : V ak = some (.inl (cI, 30, .inl kd))) (h_af : V af = some (.inl (cI, 30, .inl fs))) (h_as : V as = some (.inl (cI, 30, .inl sc))) (h_ap : V ap = some (.inl (cI, 30, .inl pt))) (h_av : V av = some (.inl (cI, 30, .inl vl))) (h_ky : V ky = some (.inl (cI, 80, .inl kf))) (h_pl : V pl = some (.inl (cI, 80, .inl pf))) (h_tb : V tb = some (.inl (cR, 120, .inr (.inr (.inr (.inr tf)))))) (h_o : V o = some (.inr (4, [.ref oc, .int (nI n0), .int tl0, .int omk]))) (h_oc : V oc = some (.inl (cI, 486, .inl of))) (h_a : V a = some (.inr (4, [.ref c, .int (nI n), .int tl, .int mk]))) (h_c : V c = some (.inl (cI, 486, .inl f))) (hX : ExR E ne kd fs sc pt) (hd : [ak, af, as, ap, av].Nodup) (hi : i < 30) (hg : g < 4) (hnf : nf i = some no) (hky : nq ky pl) (hnt : nt ≤ 60) (ht : tf (i * 4 + g) = some o) (hst : ¬ omk = nI nt) (ha0 : a0 < i) (hta : tf (a0 * 4 + g) = some a) (hSa : TRep SA n tl f) (hoa : nq o a) (hca : nq oc c) (he : e < ne) : ct zl D [(cI, .int), (cN, .object "AlgebraTree$Node"), (cR, .object "AlgebraTree$Rows")] base yX1_refresh cX1_refresh 6 none 5 0 0 [.ref mo, .int (nI i), .int (nI g)] V (fun zv zV => ∃ vl1 : Nat → Int32, ∃ kf1 : Nat → Int32, ∃ pf1 : Nat → Int32, ∃ n1 : Nat, ∃ tl1 : Int32, ∃ f1 : Nat → Int32, zv = none ∧ zV = gv_up (gv_up (gv_up (gv_up (gv_up V av (.inl (cI, 30, .inl vl1))) ky (.inl (cI, 80, .inl kf1))) pl (.inl (cI, 80, .inl pf1))) oc (.inl (cI, 486, .inl f1))) o (.inr (4, [.ref oc, .int (nI n1), .int tl1, .int (nI nt)])) ∧ (TRep (SA.bind (fun A => cap (orderL dn (fun x => ev E x e) A))) n1 tl1 f1)) := by
  refine ct_of "AlgebraTree$Maker" rfl (by decide) (Nat.le_of_ble_eq_true rfl) ?_
  intro zp ze zs zm zargs zbelow zmeth zc C zr zlk znm
  refine k_pc (pc' := 0) (st' := []) rfl rfl ?_
  show K zp zl ze (gv_rm 5 0 0) zs zm zargs zbelow zmeth zc D base 6 (gv_E D [(cI, .int), (cN, .object "AlgebraTree$Node"), (cR, .object "AlgebraTree$Rows")] base zbelow zargs zs 0 0 (fun zv zV => ∃ vl1 : Nat → Int32, ∃ kf1 : Nat → Int32, ∃ pf1 : Nat → Int32, ∃ n1 : Nat, ∃ tl1 : Int32, ∃ f1 : Nat → Int32, zv = none ∧ zV = gv_up (gv_up (gv_up (gv_up (gv_up V av (.inl (cI, 30, .inl vl1))) ky (.inl (cI, 80, .inl kf1))) pl (.inl (cI, 80, .inl pf1))) oc (.inl (cI, 486, .inl f1))) o (.inr (4, [.ref oc, .int (nI n1), .int tl1, .int (nI nt)])) ∧ (TRep (SA.bind (fun A => cap (orderL dn (fun x => ev E x e) A))) n1 tl1 f1))) V 0 0 [(0, .ref mo), (1, .int (nI i)), (2, .int (nI g))] 0 []
  refine k_aload_n C dX1_refresh_0 rfl 0 rfl ?_
  refine k_iload_n C dX1_refresh_1 rfl 1 rfl ?_
  refine k_iload_n C dX1_refresh_2 rfl 2 rfl ?_
  refine k_callV_pr C mv_1_56 (c_tableOf  h_mo h_tb (by first | assumption | omega) (by first | assumption | omega) (by first | assumption | omega)) h_mo rfl rfl (by simp [Value.category]) ⟨by decide, by decide⟩ ⟨(by decide), (by decide)⟩ dX1_refresh_3 ?_
  refine k_astore_n (lv' := [(3, .ref o), (0, .ref mo), (1, .int (nI i)), (2, .int (nI g))]) C dX1_refresh_6 rfl (by decide) rfl ?_
  refine k_aload_n C dX1_refresh_7 rfl 0 rfl ?_
  refine k_get (ci := 4) (k := 3) C fl_1_84 h_o rfl dX1_refresh_8 ?_
  refine k_aload_n C dX1_refresh_11 rfl 1 rfl ?_
  refine k_get (ci := 1) (k := 0) C fl_1_12 h_mo rfl dX1_refresh_12 ?_
  refine k_get (ci := 5) (k := 4) C fl_1_87 h_tr rfl dX1_refresh_15 ?_
  refine k_icmp_ne (tgt := 22) C dX1_refresh_18 (by decide) (fun c18 => ?_) (fun c18 => ?_)
  · skip
    refine k_aload_n C dX1_refresh_22 rfl 0 rfl ?_
    refine k_callV_pv C mv_1_90 (c_X4_clear  h_o h_oc ) h_o rfl rfl (by simp [Value.category]) ⟨by decide, by decide⟩ ⟨(by decide), (by decide)⟩ dX1_refresh_23 ?_
    refine k_aload_n C dX1_refresh_26 rfl 0 rfl ?_
    refine k_aload_n C dX1_refresh_27 rfl 1 rfl ?_
    have ne1 : nq mo o := gv_ne h_o h_mo (by simp)
    refine k_get (ci := 1) (k := 0) C fl_1_12 ((gv_up_n ne1).trans h_mo) rfl dX1_refresh_28 ?_
    have ne2 : nq tr o := gv_ne h_o h_tr (by simp)
    refine k_get (ci := 5) (k := 4) C fl_1_87 ((gv_up_n ne2).trans h_tr) rfl dX1_refresh_31 ?_
    refine k_put (ci := 4) (k := 3) (fs' := [.ref oc, .int (nI 0), .int (nI 0), .int (nI nt)]) C fl_1_84 pf_4_3 gv_up_s rfl rfl (Nat.le_of_ble_eq_true rfl) rfl dX1_refresh_34 ?_
    refine k_view (V1 := gv_up V o (.inr (4, [.ref oc, .int (nI 0), .int (nI 0), .int (nI nt)]))) gv_uu ?_
    refine k_aload_n C dX1_refresh_37 rfl 1 rfl ?_
    refine k_get (ci := 1) (k := 2) C fl_1_28 ((gv_up_n ne1).trans h_mo) rfl dX1_refresh_38 ?_
    refine k_iload_n C dX1_refresh_41 rfl 2 rfl ?_
    have ne3 : nq nd o := gv_ne h_o h_nd (by simp)
    have ne4 : nq nl o := gv_ne h_o h_nl (by simp)
    refine k_callV_pr C mv_1_60 (c_X3_at  ((gv_up_n ne3).trans h_nd) ((gv_up_n ne4).trans h_nl) (by first | assumption | omega) hnf) ((gv_up_n ne3).trans h_nd) rfl rfl (by simp [Value.category]) ⟨by decide, by decide⟩ ⟨(by decide), (by decide)⟩ dX1_refresh_42 ?_
    refine k_astore (lv' := [(4, .ref no), (3, .ref o), (0, .ref mo), (1, .int (nI i)), (2, .int (nI g))]) C dX1_refresh_45 (by decide) rfl ?_
    refine k_aload C dX1_refresh_47 0 rfl ?_
    have ne5 : nq no o := gv_ne h_o h_no (by simp)
    refine k_get (ci := 2) (k := 0) C fl_1_77 ((gv_up_n ne5).trans h_no) rfl dX1_refresh_49 ?_
    refine k_bipush (v := nI 12) C dX1_refresh_52 rfl ?_
    refine k_icmp_ne (tgt := 65) C dX1_refresh_54 (by decide) (fun c54 => ?_) (fun c54 => ?_)
    · skip
      have b54 : ¬ 10 = 12 := fun z => c54 ((nI_eq (a := 10) (b := 12) (by omega) (by omega)).mpr z)
      refine k_iload_n C dX1_refresh_65 rfl 4 rfl ?_
      refine k_istore (lv' := [(5, .int (nI g)), (4, .ref no), (3, .ref o), (0, .ref mo), (1, .int (nI i)), (2, .int (nI g))]) C dX1_refresh_66 (by decide) rfl ?_
      refine k_aload C dX1_refresh_68 1 rfl ?_
      refine k_get (ci := 2) (k := 0) C fl_1_77 ((gv_up_n ne5).trans h_no) rfl dX1_refresh_70 ?_
      refine k_if_ne (tgt := 87) C dX1_refresh_73 (by decide) (fun c73 => ?_) (fun c73 => ?_)
      · skip
        have b73 : ¬ 10 = 0 := fun z => c73 ((nI_eq (a := 10) (b := 0) (by omega) (by omega)).mpr z)
        refine k_aload C dX1_refresh_87 1 rfl ?_
        refine k_get (ci := 2) (k := 0) C fl_1_77 ((gv_up_n ne5).trans h_no) rfl dX1_refresh_89 ?_
        refine k_bipush (v := nI 13) C dX1_refresh_92 rfl ?_
        refine k_icmp_ne (tgt := 107) C dX1_refresh_94 (by decide) (fun c94 => ?_) (fun c94 => ?_)
        · skip
          have b94 : ¬ 10 = 13 := fun z => c94 ((nI_eq (a := 10) (b := 13) (by omega) (by omega)).mpr z)
          refine k_aload C dX1_refresh_107 1 rfl ?_
          refine k_get (ci := 2) (k := 2) C fl_1_74 ((gv_up_n ne5).trans h_no) rfl dX1_refresh_109 ?_
          refine k_iconst (v := (-1 : Int32)) C dX1_refresh_112 (by decide) ?_
          refine k_icmp_ne (tgt := 137) C dX1_refresh_113 (by decide) (fun c113 => ?_) (fun c113 => ?_)
          · skip
            exact absurd rfl c113
          · skip
            refine k_aload_n C dX1_refresh_116 rfl 3 rfl ?_
            refine k_aload C dX1_refresh_117 1 rfl ?_
            refine k_aload_n C dX1_refresh_119 rfl 3 rfl ?_
            refine k_aload C dX1_refresh_120 1 rfl ?_
            refine k_get (ci := 2) (k := 1) C fl_1_68 ((gv_up_n ne5).trans h_no) rfl dX1_refresh_122 ?_
            refine k_iload C dX1_refresh_125 0 rfl ?_
            have ne6 : nq tb o := gv_ne h_o h_tb (by simp)
            refine k_callV_pr C mv_1_56 (c_tableOf  ((gv_up_n ne1).trans h_mo) ((gv_up_n ne6).trans h_tb) (by first | assumption | omega) (by first | assumption | omega) hta) ((gv_up_n ne1).trans h_mo) rfl rfl (by simp [Value.category]) ⟨by decide, by decide⟩ ⟨(by decide), (by decide)⟩ dX1_refresh_127 ?_
            refine k_aload_n C dX1_refresh_130 rfl 2 rfl ?_
            rcases SA with _ | A
            · skip
              have ne7 : nq xe o := gv_ne h_o h_xe (by simp)
              have ne8 : nq ak o := gv_ne h_o h_ak (by simp)
              have ne9 : nq af o := gv_ne h_o h_af (by simp)
              have ne10 : nq as o := gv_ne h_o h_as (by simp)
              have ne11 : nq ap o := gv_ne h_o h_ap (by simp)
              have ne12 : nq av o := gv_ne h_o h_av (by simp)
              have ne13 : nq c o := gv_ne h_o h_c (by simp)
              have ne14 : nq oc o := gv_ne h_o h_oc (by simp)
              have ne15 : nq ky o := gv_ne h_o h_ky (by simp)
              have ne16 : nq pl o := gv_ne h_o h_pl (by simp)
              refine k_callV C mv_1_101 (c_overL  ((gv_up_n ne1).trans h_mo) ((gv_up_n ne5).trans h_no) ((gv_up_n ne7).trans h_xe) ((gv_up_n ne8).trans h_ak) ((gv_up_n ne9).trans h_af) ((gv_up_n ne10).trans h_as) ((gv_up_n ne11).trans h_ap) ((gv_up_n ne12).trans h_av) ((gv_up_n (Ne.symm hoa)).trans h_a) ((gv_up_n ne13).trans h_c) gv_up_s ((gv_up_n ne14).trans h_oc) ((gv_up_n ne15).trans h_ky) ((gv_up_n ne16).trans h_pl) hSa (by first | assumption | omega) hoa hca hky) ((gv_up_n ne1).trans h_mo) rfl rfl (by simp [Value.category]) ⟨by decide, by decide⟩ ⟨(by decide), (by decide)⟩ dX1_refresh_131 (fun zv zV zh => ?_)
              obtain ⟨vl1_w17, kf1_w17, pf1_w17, n1_w17, tl1_w17, f1_w17, rfl, rfl, ht1_w17⟩ := zh
              refine k_pc (pc' := 134) (st' := []) rfl rfl ?_
              refine k_view (V1 := gv_up (gv_up (gv_up (gv_up (gv_up V o (.inr (4, [.ref oc, .int (nI n1_w17), .int tl1_w17, .int (nI nt)]))) av (.inl (cI, 30, .inl vl1_w17))) ky (.inl (cI, 80, .inl kf1_w17))) pl (.inl (cI, 80, .inl pf1_w17))) oc (.inl (cI, 486, .inl f1_w17))) ((gv_uc (Ne.symm ne14)).trans (congrArg (fun W => gv_up W oc (.inl (cI, 486, .inl f1_w17))) ((gv_uc (Ne.symm ne16)).trans (congrArg (fun W => gv_up W pl (.inl (cI, 80, .inl pf1_w17))) ((gv_uc (Ne.symm ne15)).trans (congrArg (fun W => gv_up W ky (.inl (cI, 80, .inl kf1_w17))) ((gv_uc (Ne.symm ne12)).trans (congrArg (fun W => gv_up W av (.inl (cI, 30, .inl vl1_w17))) gv_uu)))))))) ?_
              refine k_goto (tgt := 166) C dX1_refresh_134 (by decide) ?_
              refine k_view (V1 := gv_up (gv_up (gv_up (gv_up (gv_up V av (.inl (cI, 30, .inl vl1_w17))) o (.inr (4, [.ref oc, .int (nI n1_w17), .int tl1_w17, .int (nI nt)]))) ky (.inl (cI, 80, .inl kf1_w17))) pl (.inl (cI, 80, .inl pf1_w17))) oc (.inl (cI, 486, .inl f1_w17))) (congrArg (fun W => gv_up W oc (.inl (cI, 486, .inl f1_w17))) (congrArg (fun W => gv_up W pl (.inl (cI, 80, .inl pf1_w17))) (congrArg (fun W => gv_up W ky (.inl (cI, 80, .inl kf1_w17))) (gv_uc ne12)))) ?_
              refine k_view (V1 := gv_up (gv_up (gv_up (gv_up (gv_up V av (.inl (cI, 30, .inl vl1_w17))) ky (.inl (cI, 80, .inl kf1_w17))) o (.inr (4, [.ref oc, .int (nI n1_w17), .int tl1_w17, .int (nI nt)]))) pl (.inl (cI, 80, .inl pf1_w17))) oc (.inl (cI, 486, .inl f1_w17))) (congrArg (fun W => gv_up W oc (.inl (cI, 486, .inl f1_w17))) (congrArg (fun W => gv_up W pl (.inl (cI, 80, .inl pf1_w17))) (gv_uc ne15))) ?_
              refine k_view (V1 := gv_up (gv_up (gv_up (gv_up (gv_up V av (.inl (cI, 30, .inl vl1_w17))) ky (.inl (cI, 80, .inl kf1_w17))) pl (.inl (cI, 80, .inl pf1_w17))) o (.inr (4, [.ref oc, .int (nI n1_w17), .int tl1_w17, .int (nI nt)]))) oc (.inl (cI, 486, .inl f1_w17))) (congrArg (fun W => gv_up W oc (.inl (cI, 486, .inl f1_w17))) (gv_uc ne16)) ?_
              refine k_view (V1 := gv_up (gv_up (gv_up (gv_up (gv_up V av (.inl (cI, 30, .inl vl1_w17))) ky (.inl (cI, 80, .inl kf1_w17))) pl (.inl (cI, 80, .inl pf1_w17))) oc (.inl (cI, 486, .inl f1_w17))) o (.inr (4, [.ref oc, .int (nI n1_w17), .int tl1_w17, .int (nI nt)]))) (gv_uc ne14) ?_
              exact k_vret C zr zlk ⟨vl1_w17, kf1_w17, pf1_w17, n1_w17, tl1_w17, f1_w17, rfl, rfl, ht1_w17⟩ (Nat.le_refl _) (Nat.le_refl _) dX1_refresh_166
            · skip
              have ne18 : nq xe o := gv_ne h_o h_xe (by simp)
              have ne19 : nq ak o := gv_ne h_o h_ak (by simp)
              have ne20 : nq af o := gv_ne h_o h_af (by simp)
              have ne21 : nq as o := gv_ne h_o h_as (by simp)
              have ne22 : nq ap o := gv_ne h_o h_ap (by simp)
              have ne23 : nq av o := gv_ne h_o h_av (by simp)
              have ne24 : nq c o := gv_ne h_o h_c (by simp)
              have ne25 : nq oc o := gv_ne h_o h_oc (by simp)
              have ne26 : nq ky o := gv_ne h_o h_ky (by simp)
              have ne27 : nq pl o := gv_ne h_o h_pl (by simp)
              refine k_callV C mv_1_101 (c_over10  ((gv_up_n ne1).trans h_mo) ((gv_up_n ne5).trans h_no) ((gv_up_n ne18).trans h_xe) ((gv_up_n ne19).trans h_ak) ((gv_up_n ne20).trans h_af) ((gv_up_n ne21).trans h_as) ((gv_up_n ne22).trans h_ap) ((gv_up_n ne23).trans h_av) ((gv_up_n (Ne.symm hoa)).trans h_a) ((gv_up_n ne24).trans h_c) gv_up_s ((gv_up_n ne25).trans h_oc) ((gv_up_n ne26).trans h_ky) ((gv_up_n ne27).trans h_pl) (by first | assumption | omega) (by first | assumption | omega) hSa.2 hoa hca hSa.1 hky (by first | assumption | omega)) ((gv_up_n ne1).trans h_mo) rfl rfl (by simp [Value.category]) ⟨by decide, by decide⟩ ⟨(by decide), (by decide)⟩ dX1_refresh_131 (fun zv zV zh => ?_)
              obtain ⟨vl1_w28, kf1_w28, pf1_w28, n1_w28, tl1_w28, f1_w28, rfl, rfl, ht1_w28⟩ := zh
              refine k_pc (pc' := 134) (st' := []) rfl rfl ?_
              refine k_view (V1 := gv_up (gv_up (gv_up (gv_up (gv_up V o (.inr (4, [.ref oc, .int (nI n1_w28), .int tl1_w28, .int (nI nt)]))) av (.inl (cI, 30, .inl vl1_w28))) ky (.inl (cI, 80, .inl kf1_w28))) pl (.inl (cI, 80, .inl pf1_w28))) oc (.inl (cI, 486, .inl f1_w28))) ((gv_uc (Ne.symm ne25)).trans (congrArg (fun W => gv_up W oc (.inl (cI, 486, .inl f1_w28))) ((gv_uc (Ne.symm ne27)).trans (congrArg (fun W => gv_up W pl (.inl (cI, 80, .inl pf1_w28))) ((gv_uc (Ne.symm ne26)).trans (congrArg (fun W => gv_up W ky (.inl (cI, 80, .inl kf1_w28))) ((gv_uc (Ne.symm ne23)).trans (congrArg (fun W => gv_up W av (.inl (cI, 30, .inl vl1_w28))) gv_uu)))))))) ?_
              refine k_goto (tgt := 166) C dX1_refresh_134 (by decide) ?_
              refine k_view (V1 := gv_up (gv_up (gv_up (gv_up (gv_up V av (.inl (cI, 30, .inl vl1_w28))) o (.inr (4, [.ref oc, .int (nI n1_w28), .int tl1_w28, .int (nI nt)]))) ky (.inl (cI, 80, .inl kf1_w28))) pl (.inl (cI, 80, .inl pf1_w28))) oc (.inl (cI, 486, .inl f1_w28))) (congrArg (fun W => gv_up W oc (.inl (cI, 486, .inl f1_w28))) (congrArg (fun W => gv_up W pl (.inl (cI, 80, .inl pf1_w28))) (congrArg (fun W => gv_up W ky (.inl (cI, 80, .inl kf1_w28))) (gv_uc ne23)))) ?_
              refine k_view (V1 := gv_up (gv_up (gv_up (gv_up (gv_up V av (.inl (cI, 30, .inl vl1_w28))) ky (.inl (cI, 80, .inl kf1_w28))) o (.inr (4, [.ref oc, .int (nI n1_w28), .int tl1_w28, .int (nI nt)]))) pl (.inl (cI, 80, .inl pf1_w28))) oc (.inl (cI, 486, .inl f1_w28))) (congrArg (fun W => gv_up W oc (.inl (cI, 486, .inl f1_w28))) (congrArg (fun W => gv_up W pl (.inl (cI, 80, .inl pf1_w28))) (gv_uc ne26))) ?_
              refine k_view (V1 := gv_up (gv_up (gv_up (gv_up (gv_up V av (.inl (cI, 30, .inl vl1_w28))) ky (.inl (cI, 80, .inl kf1_w28))) pl (.inl (cI, 80, .inl pf1_w28))) o (.inr (4, [.ref oc, .int (nI n1_w28), .int tl1_w28, .int (nI nt)]))) oc (.inl (cI, 486, .inl f1_w28))) (congrArg (fun W => gv_up W oc (.inl (cI, 486, .inl f1_w28))) (gv_uc ne27)) ?_
              refine k_view (V1 := gv_up (gv_up (gv_up (gv_up (gv_up V av (.inl (cI, 30, .inl vl1_w28))) ky (.inl (cI, 80, .inl kf1_w28))) pl (.inl (cI, 80, .inl pf1_w28))) oc (.inl (cI, 486, .inl f1_w28))) o (.inr (4, [.ref oc, .int (nI n1_w28), .int tl1_w28, .int (nI nt)]))) (gv_uc ne25) ?_
              exact k_vret C zr zlk ⟨vl1_w28, kf1_w28, pf1_w28, n1_w28, tl1_w28, f1_w28, rfl, rfl, ht1_w28⟩ (Nat.le_refl _) (Nat.le_refl _) dX1_refresh_166
        · skip
          exact absurd c94 (by decide)
      · skip
        exact absurd c73 (by decide)
    · skip
      exact absurd c54 (by decide)
  · skip
    exact absurd c18 hst
set_option maxHeartbeats 4000000 in
set_option maxRecDepth 100000 in
theorem c_ref11E {zl : Launch} {D : va_G} {cI cN cR : ClassId} {base : Nat} {V : gv_V} {mo tr nd tb wg ky pl : Nat} {tga tsa tpa tqa nt : Nat} {tg ts tp tq : Nat → Int32} {nl nn : Nat} {nf : Nat → Option Nat} {no : Nat} {ps pp po st fr ln dn ag gr : Int32} {e vv : Nat} {xe ak af as ap av ne : Nat} {kd fs sc pt vl : Nat → Int32} {kf pf : Nat → Int32} {tf : Nat → Option Nat} {i g a0 n0 : Nat} {o oc : Nat} {tl0 omk : Int32} {of : Nat → Int32} {E : Nat → Ex} {a c n : Nat} {tl mk : Int32} {f : Nat → Int32} {SA : Option (List Row)}  (h_mo : V mo = some (.inr (1, [.ref tr, .ref xe, .ref nd, .ref tb, .ref wg, .ref ky, .ref pl]))) (h_tr : V tr = some (.inr (5, [.ref tga, .ref tsa, .ref tpa, .ref tqa, .int (nI nt)]))) (h_tga : V tga = some (.inl (cI, 60, .inl tg))) (h_tsa : V tsa = some (.inl (cI, 60, .inl ts))) (h_tpa : V tpa = some (.inl (cI, 60, .inl tp))) (h_tqa : V tqa = some (.inl (cI, 60, .inl tq))) (h_nd : V nd = some (.inr (3, [.ref nl, .int (nI nn)]))) (h_nl : V nl = some (.inl (cN, 30, .inr (.inr (.inr (.inr nf)))))) (h_no : V no = some (.inr (2, [.int (nI 11), .int (nI a0), .int (-1 : Int32), .int ps, .int pp, .int po, .int (nI e), .int (nI vv), .int st, .int fr, .int ln, .int dn, .int ag, .int gr]))) (h_xe : V xe = some (.inr (0, [.ref ak, .ref af, .ref as, .ref ap, .ref av, .int (nI ne)]))) (h_ak : V ak = some (.inl (cI, 30, .inl kd))) (h_af : V af = some (.inl (cI, 30, .inl fs))) (h_as : V as = some (.inl (cI, 30, .inl sc))) (h_ap : V ap = some (.inl (cI, 30, .inl pt))) (h_av : V av = some (.inl (cI, 30, .inl vl))) (h_ky : V ky = some (.inl (cI, 80, .inl kf))) (h_pl : V pl = some (.inl (cI, 80, .inl pf))) (h_tb : V tb = some (.inl (cR, 120, .inr (.inr (.inr (.inr tf)))))) (h_o : V o = some (.inr (4, [.ref oc, .int (nI n0), .int tl0, .int omk]))) (h_oc : V oc = some (.inl (cI, 486, .inl of))) (h_a : V a = some (.inr (4, [.ref c, .int (nI n), .int tl, .int mk]))) (h_c : V c = some (.inl (cI, 486, .inl f))) (hX : ExR E ne kd fs sc pt) (hd : [ak, af, as, ap, av].Nodup) (hi : i < 30) (hg : g < 4) (hnf : nf i = some no) (hky : nq ky pl) (hnt : nt ≤ 60) (ht : tf (i * 4 + g) = some o) (hst : ¬ omk = nI nt) (ha0 : a0 < i) (hta : tf (a0 * 4 + g) = some a) (hSa : TRep SA n tl f) (hoa : nq o a) (hca : nq oc c) (he : e < ne) (hvv : vv < 6) : ct zl D [(cI, .int), (cN, .object "AlgebraTree$Node"), (cR, .object "AlgebraTree$Rows")] base yX1_refresh cX1_refresh 6 none 5 0 0 [.ref mo, .int (nI i), .int (nI g)] V (fun zv zV => ∃ vl1 : Nat → Int32, ∃ kf1 : Nat → Int32, ∃ pf1 : Nat → Int32, ∃ n1 : Nat, ∃ tl1 : Int32, ∃ f1 : Nat → Int32, zv = none ∧ zV = gv_up (gv_up (gv_up (gv_up (gv_up V av (.inl (cI, 30, .inl vl1))) ky (.inl (cI, 80, .inl kf1))) pl (.inl (cI, 80, .inl pf1))) oc (.inl (cI, 486, .inl f1))) o (.inr (4, [.ref oc, .int (nI n1), .int tl1, .int (nI nt)])) ∧ (TRep (SA.bind (fun A => cap (groupL st ag vv (fun x => ev E x e) A))) n1 tl1 f1)) := by
  refine ct_of "AlgebraTree$Maker" rfl (by decide) (Nat.le_of_ble_eq_true rfl) ?_
  intro zp ze zs zm zargs zbelow zmeth zc C zr zlk znm
  refine k_pc (pc' := 0) (st' := []) rfl rfl ?_
  show K zp zl ze (gv_rm 5 0 0) zs zm zargs zbelow zmeth zc D base 6 (gv_E D [(cI, .int), (cN, .object "AlgebraTree$Node"), (cR, .object "AlgebraTree$Rows")] base zbelow zargs zs 0 0 (fun zv zV => ∃ vl1 : Nat → Int32, ∃ kf1 : Nat → Int32, ∃ pf1 : Nat → Int32, ∃ n1 : Nat, ∃ tl1 : Int32, ∃ f1 : Nat → Int32, zv = none ∧ zV = gv_up (gv_up (gv_up (gv_up (gv_up V av (.inl (cI, 30, .inl vl1))) ky (.inl (cI, 80, .inl kf1))) pl (.inl (cI, 80, .inl pf1))) oc (.inl (cI, 486, .inl f1))) o (.inr (4, [.ref oc, .int (nI n1), .int tl1, .int (nI nt)])) ∧ (TRep (SA.bind (fun A => cap (groupL st ag vv (fun x => ev E x e) A))) n1 tl1 f1))) V 0 0 [(0, .ref mo), (1, .int (nI i)), (2, .int (nI g))] 0 []
  refine k_aload_n C dX1_refresh_0 rfl 0 rfl ?_
  refine k_iload_n C dX1_refresh_1 rfl 1 rfl ?_
  refine k_iload_n C dX1_refresh_2 rfl 2 rfl ?_
  refine k_callV_pr C mv_1_56 (c_tableOf  h_mo h_tb (by first | assumption | omega) (by first | assumption | omega) (by first | assumption | omega)) h_mo rfl rfl (by simp [Value.category]) ⟨by decide, by decide⟩ ⟨(by decide), (by decide)⟩ dX1_refresh_3 ?_
  refine k_astore_n (lv' := [(3, .ref o), (0, .ref mo), (1, .int (nI i)), (2, .int (nI g))]) C dX1_refresh_6 rfl (by decide) rfl ?_
  refine k_aload_n C dX1_refresh_7 rfl 0 rfl ?_
  refine k_get (ci := 4) (k := 3) C fl_1_84 h_o rfl dX1_refresh_8 ?_
  refine k_aload_n C dX1_refresh_11 rfl 1 rfl ?_
  refine k_get (ci := 1) (k := 0) C fl_1_12 h_mo rfl dX1_refresh_12 ?_
  refine k_get (ci := 5) (k := 4) C fl_1_87 h_tr rfl dX1_refresh_15 ?_
  refine k_icmp_ne (tgt := 22) C dX1_refresh_18 (by decide) (fun c18 => ?_) (fun c18 => ?_)
  · skip
    refine k_aload_n C dX1_refresh_22 rfl 0 rfl ?_
    refine k_callV_pv C mv_1_90 (c_X4_clear  h_o h_oc ) h_o rfl rfl (by simp [Value.category]) ⟨by decide, by decide⟩ ⟨(by decide), (by decide)⟩ dX1_refresh_23 ?_
    refine k_aload_n C dX1_refresh_26 rfl 0 rfl ?_
    refine k_aload_n C dX1_refresh_27 rfl 1 rfl ?_
    have ne1 : nq mo o := gv_ne h_o h_mo (by simp)
    refine k_get (ci := 1) (k := 0) C fl_1_12 ((gv_up_n ne1).trans h_mo) rfl dX1_refresh_28 ?_
    have ne2 : nq tr o := gv_ne h_o h_tr (by simp)
    refine k_get (ci := 5) (k := 4) C fl_1_87 ((gv_up_n ne2).trans h_tr) rfl dX1_refresh_31 ?_
    refine k_put (ci := 4) (k := 3) (fs' := [.ref oc, .int (nI 0), .int (nI 0), .int (nI nt)]) C fl_1_84 pf_4_3 gv_up_s rfl rfl (Nat.le_of_ble_eq_true rfl) rfl dX1_refresh_34 ?_
    refine k_view (V1 := gv_up V o (.inr (4, [.ref oc, .int (nI 0), .int (nI 0), .int (nI nt)]))) gv_uu ?_
    refine k_aload_n C dX1_refresh_37 rfl 1 rfl ?_
    refine k_get (ci := 1) (k := 2) C fl_1_28 ((gv_up_n ne1).trans h_mo) rfl dX1_refresh_38 ?_
    refine k_iload_n C dX1_refresh_41 rfl 2 rfl ?_
    have ne3 : nq nd o := gv_ne h_o h_nd (by simp)
    have ne4 : nq nl o := gv_ne h_o h_nl (by simp)
    refine k_callV_pr C mv_1_60 (c_X3_at  ((gv_up_n ne3).trans h_nd) ((gv_up_n ne4).trans h_nl) (by first | assumption | omega) hnf) ((gv_up_n ne3).trans h_nd) rfl rfl (by simp [Value.category]) ⟨by decide, by decide⟩ ⟨(by decide), (by decide)⟩ dX1_refresh_42 ?_
    refine k_astore (lv' := [(4, .ref no), (3, .ref o), (0, .ref mo), (1, .int (nI i)), (2, .int (nI g))]) C dX1_refresh_45 (by decide) rfl ?_
    refine k_aload C dX1_refresh_47 0 rfl ?_
    have ne5 : nq no o := gv_ne h_o h_no (by simp)
    refine k_get (ci := 2) (k := 0) C fl_1_77 ((gv_up_n ne5).trans h_no) rfl dX1_refresh_49 ?_
    refine k_bipush (v := nI 12) C dX1_refresh_52 rfl ?_
    refine k_icmp_ne (tgt := 65) C dX1_refresh_54 (by decide) (fun c54 => ?_) (fun c54 => ?_)
    · skip
      have b54 : ¬ 11 = 12 := fun z => c54 ((nI_eq (a := 11) (b := 12) (by omega) (by omega)).mpr z)
      refine k_iload_n C dX1_refresh_65 rfl 4 rfl ?_
      refine k_istore (lv' := [(5, .int (nI g)), (4, .ref no), (3, .ref o), (0, .ref mo), (1, .int (nI i)), (2, .int (nI g))]) C dX1_refresh_66 (by decide) rfl ?_
      refine k_aload C dX1_refresh_68 1 rfl ?_
      refine k_get (ci := 2) (k := 0) C fl_1_77 ((gv_up_n ne5).trans h_no) rfl dX1_refresh_70 ?_
      refine k_if_ne (tgt := 87) C dX1_refresh_73 (by decide) (fun c73 => ?_) (fun c73 => ?_)
      · skip
        have b73 : ¬ 11 = 0 := fun z => c73 ((nI_eq (a := 11) (b := 0) (by omega) (by omega)).mpr z)
        refine k_aload C dX1_refresh_87 1 rfl ?_
        refine k_get (ci := 2) (k := 0) C fl_1_77 ((gv_up_n ne5).trans h_no) rfl dX1_refresh_89 ?_
        refine k_bipush (v := nI 13) C dX1_refresh_92 rfl ?_
        refine k_icmp_ne (tgt := 107) C dX1_refresh_94 (by decide) (fun c94 => ?_) (fun c94 => ?_)
        · skip
          have b94 : ¬ 11 = 13 := fun z => c94 ((nI_eq (a := 11) (b := 13) (by omega) (by omega)).mpr z)
          refine k_aload C dX1_refresh_107 1 rfl ?_
          refine k_get (ci := 2) (k := 2) C fl_1_74 ((gv_up_n ne5).trans h_no) rfl dX1_refresh_109 ?_
          refine k_iconst (v := (-1 : Int32)) C dX1_refresh_112 (by decide) ?_
          refine k_icmp_ne (tgt := 137) C dX1_refresh_113 (by decide) (fun c113 => ?_) (fun c113 => ?_)
          · skip
            exact absurd rfl c113
          · skip
            refine k_aload_n C dX1_refresh_116 rfl 3 rfl ?_
            refine k_aload C dX1_refresh_117 1 rfl ?_
            refine k_aload_n C dX1_refresh_119 rfl 3 rfl ?_
            refine k_aload C dX1_refresh_120 1 rfl ?_
            refine k_get (ci := 2) (k := 1) C fl_1_68 ((gv_up_n ne5).trans h_no) rfl dX1_refresh_122 ?_
            refine k_iload C dX1_refresh_125 0 rfl ?_
            have ne6 : nq tb o := gv_ne h_o h_tb (by simp)
            refine k_callV_pr C mv_1_56 (c_tableOf  ((gv_up_n ne1).trans h_mo) ((gv_up_n ne6).trans h_tb) (by first | assumption | omega) (by first | assumption | omega) hta) ((gv_up_n ne1).trans h_mo) rfl rfl (by simp [Value.category]) ⟨by decide, by decide⟩ ⟨(by decide), (by decide)⟩ dX1_refresh_127 ?_
            refine k_aload_n C dX1_refresh_130 rfl 2 rfl ?_
            rcases SA with _ | A
            · skip
              have ne7 : nq xe o := gv_ne h_o h_xe (by simp)
              have ne8 : nq ak o := gv_ne h_o h_ak (by simp)
              have ne9 : nq af o := gv_ne h_o h_af (by simp)
              have ne10 : nq as o := gv_ne h_o h_as (by simp)
              have ne11 : nq ap o := gv_ne h_o h_ap (by simp)
              have ne12 : nq av o := gv_ne h_o h_av (by simp)
              have ne13 : nq c o := gv_ne h_o h_c (by simp)
              have ne14 : nq oc o := gv_ne h_o h_oc (by simp)
              have ne15 : nq ky o := gv_ne h_o h_ky (by simp)
              have ne16 : nq pl o := gv_ne h_o h_pl (by simp)
              refine k_callV C mv_1_101 (c_overL  ((gv_up_n ne1).trans h_mo) ((gv_up_n ne5).trans h_no) ((gv_up_n ne7).trans h_xe) ((gv_up_n ne8).trans h_ak) ((gv_up_n ne9).trans h_af) ((gv_up_n ne10).trans h_as) ((gv_up_n ne11).trans h_ap) ((gv_up_n ne12).trans h_av) ((gv_up_n (Ne.symm hoa)).trans h_a) ((gv_up_n ne13).trans h_c) gv_up_s ((gv_up_n ne14).trans h_oc) ((gv_up_n ne15).trans h_ky) ((gv_up_n ne16).trans h_pl) hSa (by first | assumption | omega) hoa hca hky) ((gv_up_n ne1).trans h_mo) rfl rfl (by simp [Value.category]) ⟨by decide, by decide⟩ ⟨(by decide), (by decide)⟩ dX1_refresh_131 (fun zv zV zh => ?_)
              obtain ⟨vl1_w17, kf1_w17, pf1_w17, n1_w17, tl1_w17, f1_w17, rfl, rfl, ht1_w17⟩ := zh
              refine k_pc (pc' := 134) (st' := []) rfl rfl ?_
              refine k_view (V1 := gv_up (gv_up (gv_up (gv_up (gv_up V o (.inr (4, [.ref oc, .int (nI n1_w17), .int tl1_w17, .int (nI nt)]))) av (.inl (cI, 30, .inl vl1_w17))) ky (.inl (cI, 80, .inl kf1_w17))) pl (.inl (cI, 80, .inl pf1_w17))) oc (.inl (cI, 486, .inl f1_w17))) ((gv_uc (Ne.symm ne14)).trans (congrArg (fun W => gv_up W oc (.inl (cI, 486, .inl f1_w17))) ((gv_uc (Ne.symm ne16)).trans (congrArg (fun W => gv_up W pl (.inl (cI, 80, .inl pf1_w17))) ((gv_uc (Ne.symm ne15)).trans (congrArg (fun W => gv_up W ky (.inl (cI, 80, .inl kf1_w17))) ((gv_uc (Ne.symm ne12)).trans (congrArg (fun W => gv_up W av (.inl (cI, 30, .inl vl1_w17))) gv_uu)))))))) ?_
              refine k_goto (tgt := 166) C dX1_refresh_134 (by decide) ?_
              refine k_view (V1 := gv_up (gv_up (gv_up (gv_up (gv_up V av (.inl (cI, 30, .inl vl1_w17))) o (.inr (4, [.ref oc, .int (nI n1_w17), .int tl1_w17, .int (nI nt)]))) ky (.inl (cI, 80, .inl kf1_w17))) pl (.inl (cI, 80, .inl pf1_w17))) oc (.inl (cI, 486, .inl f1_w17))) (congrArg (fun W => gv_up W oc (.inl (cI, 486, .inl f1_w17))) (congrArg (fun W => gv_up W pl (.inl (cI, 80, .inl pf1_w17))) (congrArg (fun W => gv_up W ky (.inl (cI, 80, .inl kf1_w17))) (gv_uc ne12)))) ?_
              refine k_view (V1 := gv_up (gv_up (gv_up (gv_up (gv_up V av (.inl (cI, 30, .inl vl1_w17))) ky (.inl (cI, 80, .inl kf1_w17))) o (.inr (4, [.ref oc, .int (nI n1_w17), .int tl1_w17, .int (nI nt)]))) pl (.inl (cI, 80, .inl pf1_w17))) oc (.inl (cI, 486, .inl f1_w17))) (congrArg (fun W => gv_up W oc (.inl (cI, 486, .inl f1_w17))) (congrArg (fun W => gv_up W pl (.inl (cI, 80, .inl pf1_w17))) (gv_uc ne15))) ?_
              refine k_view (V1 := gv_up (gv_up (gv_up (gv_up (gv_up V av (.inl (cI, 30, .inl vl1_w17))) ky (.inl (cI, 80, .inl kf1_w17))) pl (.inl (cI, 80, .inl pf1_w17))) o (.inr (4, [.ref oc, .int (nI n1_w17), .int tl1_w17, .int (nI nt)]))) oc (.inl (cI, 486, .inl f1_w17))) (congrArg (fun W => gv_up W oc (.inl (cI, 486, .inl f1_w17))) (gv_uc ne16)) ?_
              refine k_view (V1 := gv_up (gv_up (gv_up (gv_up (gv_up V av (.inl (cI, 30, .inl vl1_w17))) ky (.inl (cI, 80, .inl kf1_w17))) pl (.inl (cI, 80, .inl pf1_w17))) oc (.inl (cI, 486, .inl f1_w17))) o (.inr (4, [.ref oc, .int (nI n1_w17), .int tl1_w17, .int (nI nt)]))) (gv_uc ne14) ?_
              exact k_vret C zr zlk ⟨vl1_w17, kf1_w17, pf1_w17, n1_w17, tl1_w17, f1_w17, rfl, rfl, ht1_w17⟩ (Nat.le_refl _) (Nat.le_refl _) dX1_refresh_166
            · skip
              have ne18 : nq xe o := gv_ne h_o h_xe (by simp)
              have ne19 : nq ak o := gv_ne h_o h_ak (by simp)
              have ne20 : nq af o := gv_ne h_o h_af (by simp)
              have ne21 : nq as o := gv_ne h_o h_as (by simp)
              have ne22 : nq ap o := gv_ne h_o h_ap (by simp)
              have ne23 : nq av o := gv_ne h_o h_av (by simp)
              have ne24 : nq c o := gv_ne h_o h_c (by simp)
              have ne25 : nq oc o := gv_ne h_o h_oc (by simp)
              have ne26 : nq ky o := gv_ne h_o h_ky (by simp)
              have ne27 : nq pl o := gv_ne h_o h_pl (by simp)
              refine k_callV C mv_1_101 (c_over11  ((gv_up_n ne1).trans h_mo) ((gv_up_n ne5).trans h_no) ((gv_up_n ne18).trans h_xe) ((gv_up_n ne19).trans h_ak) ((gv_up_n ne20).trans h_af) ((gv_up_n ne21).trans h_as) ((gv_up_n ne22).trans h_ap) ((gv_up_n ne23).trans h_av) ((gv_up_n (Ne.symm hoa)).trans h_a) ((gv_up_n ne24).trans h_c) gv_up_s ((gv_up_n ne25).trans h_oc) ((gv_up_n ne26).trans h_ky) ((gv_up_n ne27).trans h_pl) (by first | assumption | omega) (by first | assumption | omega) hSa.2 hoa hca hSa.1 hky (by first | assumption | omega) (by first | assumption | omega)) ((gv_up_n ne1).trans h_mo) rfl rfl (by simp [Value.category]) ⟨by decide, by decide⟩ ⟨(by decide), (by decide)⟩ dX1_refresh_131 (fun zv zV zh => ?_)
              obtain ⟨vl1_w28, kf1_w28, pf1_w28, n1_w28, tl1_w28, f1_w28, rfl, rfl, ht1_w28⟩ := zh
              refine k_pc (pc' := 134) (st' := []) rfl rfl ?_
              refine k_view (V1 := gv_up (gv_up (gv_up (gv_up (gv_up V o (.inr (4, [.ref oc, .int (nI n1_w28), .int tl1_w28, .int (nI nt)]))) av (.inl (cI, 30, .inl vl1_w28))) ky (.inl (cI, 80, .inl kf1_w28))) pl (.inl (cI, 80, .inl pf1_w28))) oc (.inl (cI, 486, .inl f1_w28))) ((gv_uc (Ne.symm ne25)).trans (congrArg (fun W => gv_up W oc (.inl (cI, 486, .inl f1_w28))) ((gv_uc (Ne.symm ne27)).trans (congrArg (fun W => gv_up W pl (.inl (cI, 80, .inl pf1_w28))) ((gv_uc (Ne.symm ne26)).trans (congrArg (fun W => gv_up W ky (.inl (cI, 80, .inl kf1_w28))) ((gv_uc (Ne.symm ne23)).trans (congrArg (fun W => gv_up W av (.inl (cI, 30, .inl vl1_w28))) gv_uu)))))))) ?_
              refine k_goto (tgt := 166) C dX1_refresh_134 (by decide) ?_
              refine k_view (V1 := gv_up (gv_up (gv_up (gv_up (gv_up V av (.inl (cI, 30, .inl vl1_w28))) o (.inr (4, [.ref oc, .int (nI n1_w28), .int tl1_w28, .int (nI nt)]))) ky (.inl (cI, 80, .inl kf1_w28))) pl (.inl (cI, 80, .inl pf1_w28))) oc (.inl (cI, 486, .inl f1_w28))) (congrArg (fun W => gv_up W oc (.inl (cI, 486, .inl f1_w28))) (congrArg (fun W => gv_up W pl (.inl (cI, 80, .inl pf1_w28))) (congrArg (fun W => gv_up W ky (.inl (cI, 80, .inl kf1_w28))) (gv_uc ne23)))) ?_
              refine k_view (V1 := gv_up (gv_up (gv_up (gv_up (gv_up V av (.inl (cI, 30, .inl vl1_w28))) ky (.inl (cI, 80, .inl kf1_w28))) o (.inr (4, [.ref oc, .int (nI n1_w28), .int tl1_w28, .int (nI nt)]))) pl (.inl (cI, 80, .inl pf1_w28))) oc (.inl (cI, 486, .inl f1_w28))) (congrArg (fun W => gv_up W oc (.inl (cI, 486, .inl f1_w28))) (congrArg (fun W => gv_up W pl (.inl (cI, 80, .inl pf1_w28))) (gv_uc ne26))) ?_
              refine k_view (V1 := gv_up (gv_up (gv_up (gv_up (gv_up V av (.inl (cI, 30, .inl vl1_w28))) ky (.inl (cI, 80, .inl kf1_w28))) pl (.inl (cI, 80, .inl pf1_w28))) o (.inr (4, [.ref oc, .int (nI n1_w28), .int tl1_w28, .int (nI nt)]))) oc (.inl (cI, 486, .inl f1_w28))) (congrArg (fun W => gv_up W oc (.inl (cI, 486, .inl f1_w28))) (gv_uc ne27)) ?_
              refine k_view (V1 := gv_up (gv_up (gv_up (gv_up (gv_up V av (.inl (cI, 30, .inl vl1_w28))) ky (.inl (cI, 80, .inl kf1_w28))) pl (.inl (cI, 80, .inl pf1_w28))) oc (.inl (cI, 486, .inl f1_w28))) o (.inr (4, [.ref oc, .int (nI n1_w28), .int tl1_w28, .int (nI nt)]))) (gv_uc ne25) ?_
              exact k_vret C zr zlk ⟨vl1_w28, kf1_w28, pf1_w28, n1_w28, tl1_w28, f1_w28, rfl, rfl, ht1_w28⟩ (Nat.le_refl _) (Nat.le_refl _) dX1_refresh_166
        · skip
          exact absurd c94 (by decide)
      · skip
        exact absurd c73 (by decide)
    · skip
      exact absurd c54 (by decide)
  · skip
    exact absurd c18 hst
set_option maxHeartbeats 4000000 in
set_option maxRecDepth 100000 in
theorem c_ref12E {zl : Launch} {D : va_G} {cI cN cR : ClassId} {base : Nat} {V : gv_V} {mo tr nd tb wg ky pl : Nat} {tga tsa tpa tqa nt : Nat} {tg ts tp tq : Nat → Int32} {nl nn : Nat} {nf : Nat → Option Nat} {no : Nat} {ps pp po ex va st fr ln dn ag : Int32} {xe ak af as ap av ne : Nat} {kd fs sc pt vl : Nat → Int32} {kf pf : Nat → Int32} {tf : Nat → Option Nat} {i g a0 gr0 n0 : Nat} {o oc : Nat} {tl0 omk : Int32} {of : Nat → Int32} {E : Nat → Ex} {a c n : Nat} {tl mk : Int32} {f : Nat → Int32} {SA : Option (List Row)}  (h_mo : V mo = some (.inr (1, [.ref tr, .ref xe, .ref nd, .ref tb, .ref wg, .ref ky, .ref pl]))) (h_tr : V tr = some (.inr (5, [.ref tga, .ref tsa, .ref tpa, .ref tqa, .int (nI nt)]))) (h_tga : V tga = some (.inl (cI, 60, .inl tg))) (h_tsa : V tsa = some (.inl (cI, 60, .inl ts))) (h_tpa : V tpa = some (.inl (cI, 60, .inl tp))) (h_tqa : V tqa = some (.inl (cI, 60, .inl tq))) (h_nd : V nd = some (.inr (3, [.ref nl, .int (nI nn)]))) (h_nl : V nl = some (.inl (cN, 30, .inr (.inr (.inr (.inr nf)))))) (h_no : V no = some (.inr (2, [.int (nI 12), .int (nI a0), .int (-1 : Int32), .int ps, .int pp, .int po, .int ex, .int va, .int st, .int fr, .int ln, .int dn, .int ag, .int (nI gr0)]))) (h_xe : V xe = some (.inr (0, [.ref ak, .ref af, .ref as, .ref ap, .ref av, .int (nI ne)]))) (h_ak : V ak = some (.inl (cI, 30, .inl kd))) (h_af : V af = some (.inl (cI, 30, .inl fs))) (h_as : V as = some (.inl (cI, 30, .inl sc))) (h_ap : V ap = some (.inl (cI, 30, .inl pt))) (h_av : V av = some (.inl (cI, 30, .inl vl))) (h_ky : V ky = some (.inl (cI, 80, .inl kf))) (h_pl : V pl = some (.inl (cI, 80, .inl pf))) (h_tb : V tb = some (.inl (cR, 120, .inr (.inr (.inr (.inr tf)))))) (h_o : V o = some (.inr (4, [.ref oc, .int (nI n0), .int tl0, .int omk]))) (h_oc : V oc = some (.inl (cI, 486, .inl of))) (h_a : V a = some (.inr (4, [.ref c, .int (nI n), .int tl, .int mk]))) (h_c : V c = some (.inl (cI, 486, .inl f))) (hX : ExR E ne kd fs sc pt) (hd : [ak, af, as, ap, av].Nodup) (hi : i < 30) (hg : g < 4) (hnf : nf i = some no) (hky : nq ky pl) (hnt : nt ≤ 60) (ht : tf (i * 4 + g) = some o) (hst : ¬ omk = nI nt) (ha0 : a0 < i) (hta : tf (a0 * 4 + gr0) = some a) (hSa : TRep SA n tl f) (hgr : gr0 < 4) (hoa : nq o a) (hca : nq oc c) : ct zl D [(cI, .int), (cN, .object "AlgebraTree$Node"), (cR, .object "AlgebraTree$Rows")] base yX1_refresh cX1_refresh 6 none 5 0 0 [.ref mo, .int (nI i), .int (nI g)] V (fun zv zV => ∃ vl1 : Nat → Int32, ∃ kf1 : Nat → Int32, ∃ pf1 : Nat → Int32, ∃ n1 : Nat, ∃ tl1 : Int32, ∃ f1 : Nat → Int32, zv = none ∧ zV = gv_up (gv_up (gv_up (gv_up (gv_up V av (.inl (cI, 30, .inl vl1))) ky (.inl (cI, 80, .inl kf1))) pl (.inl (cI, 80, .inl pf1))) oc (.inl (cI, 486, .inl f1))) o (.inr (4, [.ref oc, .int (nI n1), .int tl1, .int (nI nt)])) ∧ (TRep (SA.bind (fun A => cap A)) n1 tl1 f1)) := by
  refine ct_of "AlgebraTree$Maker" rfl (by decide) (Nat.le_of_ble_eq_true rfl) ?_
  intro zp ze zs zm zargs zbelow zmeth zc C zr zlk znm
  refine k_pc (pc' := 0) (st' := []) rfl rfl ?_
  show K zp zl ze (gv_rm 5 0 0) zs zm zargs zbelow zmeth zc D base 6 (gv_E D [(cI, .int), (cN, .object "AlgebraTree$Node"), (cR, .object "AlgebraTree$Rows")] base zbelow zargs zs 0 0 (fun zv zV => ∃ vl1 : Nat → Int32, ∃ kf1 : Nat → Int32, ∃ pf1 : Nat → Int32, ∃ n1 : Nat, ∃ tl1 : Int32, ∃ f1 : Nat → Int32, zv = none ∧ zV = gv_up (gv_up (gv_up (gv_up (gv_up V av (.inl (cI, 30, .inl vl1))) ky (.inl (cI, 80, .inl kf1))) pl (.inl (cI, 80, .inl pf1))) oc (.inl (cI, 486, .inl f1))) o (.inr (4, [.ref oc, .int (nI n1), .int tl1, .int (nI nt)])) ∧ (TRep (SA.bind (fun A => cap A)) n1 tl1 f1))) V 0 0 [(0, .ref mo), (1, .int (nI i)), (2, .int (nI g))] 0 []
  refine k_aload_n C dX1_refresh_0 rfl 0 rfl ?_
  refine k_iload_n C dX1_refresh_1 rfl 1 rfl ?_
  refine k_iload_n C dX1_refresh_2 rfl 2 rfl ?_
  refine k_callV_pr C mv_1_56 (c_tableOf  h_mo h_tb (by first | assumption | omega) (by first | assumption | omega) (by first | assumption | omega)) h_mo rfl rfl (by simp [Value.category]) ⟨by decide, by decide⟩ ⟨(by decide), (by decide)⟩ dX1_refresh_3 ?_
  refine k_astore_n (lv' := [(3, .ref o), (0, .ref mo), (1, .int (nI i)), (2, .int (nI g))]) C dX1_refresh_6 rfl (by decide) rfl ?_
  refine k_aload_n C dX1_refresh_7 rfl 0 rfl ?_
  refine k_get (ci := 4) (k := 3) C fl_1_84 h_o rfl dX1_refresh_8 ?_
  refine k_aload_n C dX1_refresh_11 rfl 1 rfl ?_
  refine k_get (ci := 1) (k := 0) C fl_1_12 h_mo rfl dX1_refresh_12 ?_
  refine k_get (ci := 5) (k := 4) C fl_1_87 h_tr rfl dX1_refresh_15 ?_
  refine k_icmp_ne (tgt := 22) C dX1_refresh_18 (by decide) (fun c18 => ?_) (fun c18 => ?_)
  · skip
    refine k_aload_n C dX1_refresh_22 rfl 0 rfl ?_
    refine k_callV_pv C mv_1_90 (c_X4_clear  h_o h_oc ) h_o rfl rfl (by simp [Value.category]) ⟨by decide, by decide⟩ ⟨(by decide), (by decide)⟩ dX1_refresh_23 ?_
    refine k_aload_n C dX1_refresh_26 rfl 0 rfl ?_
    refine k_aload_n C dX1_refresh_27 rfl 1 rfl ?_
    have ne1 : nq mo o := gv_ne h_o h_mo (by simp)
    refine k_get (ci := 1) (k := 0) C fl_1_12 ((gv_up_n ne1).trans h_mo) rfl dX1_refresh_28 ?_
    have ne2 : nq tr o := gv_ne h_o h_tr (by simp)
    refine k_get (ci := 5) (k := 4) C fl_1_87 ((gv_up_n ne2).trans h_tr) rfl dX1_refresh_31 ?_
    refine k_put (ci := 4) (k := 3) (fs' := [.ref oc, .int (nI 0), .int (nI 0), .int (nI nt)]) C fl_1_84 pf_4_3 gv_up_s rfl rfl (Nat.le_of_ble_eq_true rfl) rfl dX1_refresh_34 ?_
    refine k_view (V1 := gv_up V o (.inr (4, [.ref oc, .int (nI 0), .int (nI 0), .int (nI nt)]))) gv_uu ?_
    refine k_aload_n C dX1_refresh_37 rfl 1 rfl ?_
    refine k_get (ci := 1) (k := 2) C fl_1_28 ((gv_up_n ne1).trans h_mo) rfl dX1_refresh_38 ?_
    refine k_iload_n C dX1_refresh_41 rfl 2 rfl ?_
    have ne3 : nq nd o := gv_ne h_o h_nd (by simp)
    have ne4 : nq nl o := gv_ne h_o h_nl (by simp)
    refine k_callV_pr C mv_1_60 (c_X3_at  ((gv_up_n ne3).trans h_nd) ((gv_up_n ne4).trans h_nl) (by first | assumption | omega) hnf) ((gv_up_n ne3).trans h_nd) rfl rfl (by simp [Value.category]) ⟨by decide, by decide⟩ ⟨(by decide), (by decide)⟩ dX1_refresh_42 ?_
    refine k_astore (lv' := [(4, .ref no), (3, .ref o), (0, .ref mo), (1, .int (nI i)), (2, .int (nI g))]) C dX1_refresh_45 (by decide) rfl ?_
    refine k_aload C dX1_refresh_47 0 rfl ?_
    have ne5 : nq no o := gv_ne h_o h_no (by simp)
    refine k_get (ci := 2) (k := 0) C fl_1_77 ((gv_up_n ne5).trans h_no) rfl dX1_refresh_49 ?_
    refine k_bipush (v := nI 12) C dX1_refresh_52 rfl ?_
    refine k_icmp_ne (tgt := 65) C dX1_refresh_54 (by decide) (fun c54 => ?_) (fun c54 => ?_)
    · skip
      exact absurd rfl c54
    · skip
      have b54 : 12 = 12 := (nI_eq (a := 12) (b := 12) (by omega) (by omega)).mp c54
      refine k_aload C dX1_refresh_57 0 rfl ?_
      refine k_get (ci := 2) (k := 13) C fl_1_80 ((gv_up_n ne5).trans h_no) rfl dX1_refresh_59 ?_
      refine k_goto (tgt := 66) C dX1_refresh_62 (by decide) ?_
      refine k_istore (lv' := [(5, .int (nI gr0)), (4, .ref no), (3, .ref o), (0, .ref mo), (1, .int (nI i)), (2, .int (nI g))]) C dX1_refresh_66 (by decide) rfl ?_
      refine k_aload C dX1_refresh_68 1 rfl ?_
      refine k_get (ci := 2) (k := 0) C fl_1_77 ((gv_up_n ne5).trans h_no) rfl dX1_refresh_70 ?_
      refine k_if_ne (tgt := 87) C dX1_refresh_73 (by decide) (fun c73 => ?_) (fun c73 => ?_)
      · skip
        have b73 : ¬ 12 = 0 := fun z => c73 ((nI_eq (a := 12) (b := 0) (by omega) (by omega)).mpr z)
        refine k_aload C dX1_refresh_87 1 rfl ?_
        refine k_get (ci := 2) (k := 0) C fl_1_77 ((gv_up_n ne5).trans h_no) rfl dX1_refresh_89 ?_
        refine k_bipush (v := nI 13) C dX1_refresh_92 rfl ?_
        refine k_icmp_ne (tgt := 107) C dX1_refresh_94 (by decide) (fun c94 => ?_) (fun c94 => ?_)
        · skip
          have b94 : ¬ 12 = 13 := fun z => c94 ((nI_eq (a := 12) (b := 13) (by omega) (by omega)).mpr z)
          refine k_aload C dX1_refresh_107 1 rfl ?_
          refine k_get (ci := 2) (k := 2) C fl_1_74 ((gv_up_n ne5).trans h_no) rfl dX1_refresh_109 ?_
          refine k_iconst (v := (-1 : Int32)) C dX1_refresh_112 (by decide) ?_
          refine k_icmp_ne (tgt := 137) C dX1_refresh_113 (by decide) (fun c113 => ?_) (fun c113 => ?_)
          · skip
            exact absurd rfl c113
          · skip
            refine k_aload_n C dX1_refresh_116 rfl 3 rfl ?_
            refine k_aload C dX1_refresh_117 1 rfl ?_
            refine k_aload_n C dX1_refresh_119 rfl 3 rfl ?_
            refine k_aload C dX1_refresh_120 1 rfl ?_
            refine k_get (ci := 2) (k := 1) C fl_1_68 ((gv_up_n ne5).trans h_no) rfl dX1_refresh_122 ?_
            refine k_iload C dX1_refresh_125 0 rfl ?_
            have ne6 : nq tb o := gv_ne h_o h_tb (by simp)
            refine k_callV_pr C mv_1_56 (c_tableOf  ((gv_up_n ne1).trans h_mo) ((gv_up_n ne6).trans h_tb) (by first | assumption | omega) (by first | assumption | omega) hta) ((gv_up_n ne1).trans h_mo) rfl rfl (by simp [Value.category]) ⟨by decide, by decide⟩ ⟨(by decide), (by decide)⟩ dX1_refresh_127 ?_
            refine k_aload_n C dX1_refresh_130 rfl 2 rfl ?_
            rcases SA with _ | A
            · skip
              have ne7 : nq xe o := gv_ne h_o h_xe (by simp)
              have ne8 : nq ak o := gv_ne h_o h_ak (by simp)
              have ne9 : nq af o := gv_ne h_o h_af (by simp)
              have ne10 : nq as o := gv_ne h_o h_as (by simp)
              have ne11 : nq ap o := gv_ne h_o h_ap (by simp)
              have ne12 : nq av o := gv_ne h_o h_av (by simp)
              have ne13 : nq c o := gv_ne h_o h_c (by simp)
              have ne14 : nq oc o := gv_ne h_o h_oc (by simp)
              have ne15 : nq ky o := gv_ne h_o h_ky (by simp)
              have ne16 : nq pl o := gv_ne h_o h_pl (by simp)
              refine k_callV C mv_1_101 (c_overL  ((gv_up_n ne1).trans h_mo) ((gv_up_n ne5).trans h_no) ((gv_up_n ne7).trans h_xe) ((gv_up_n ne8).trans h_ak) ((gv_up_n ne9).trans h_af) ((gv_up_n ne10).trans h_as) ((gv_up_n ne11).trans h_ap) ((gv_up_n ne12).trans h_av) ((gv_up_n (Ne.symm hoa)).trans h_a) ((gv_up_n ne13).trans h_c) gv_up_s ((gv_up_n ne14).trans h_oc) ((gv_up_n ne15).trans h_ky) ((gv_up_n ne16).trans h_pl) hSa (by first | assumption | omega) hoa hca hky) ((gv_up_n ne1).trans h_mo) rfl rfl (by simp [Value.category]) ⟨by decide, by decide⟩ ⟨(by decide), (by decide)⟩ dX1_refresh_131 (fun zv zV zh => ?_)
              obtain ⟨vl1_w17, kf1_w17, pf1_w17, n1_w17, tl1_w17, f1_w17, rfl, rfl, ht1_w17⟩ := zh
              refine k_pc (pc' := 134) (st' := []) rfl rfl ?_
              refine k_view (V1 := gv_up (gv_up (gv_up (gv_up (gv_up V o (.inr (4, [.ref oc, .int (nI n1_w17), .int tl1_w17, .int (nI nt)]))) av (.inl (cI, 30, .inl vl1_w17))) ky (.inl (cI, 80, .inl kf1_w17))) pl (.inl (cI, 80, .inl pf1_w17))) oc (.inl (cI, 486, .inl f1_w17))) ((gv_uc (Ne.symm ne14)).trans (congrArg (fun W => gv_up W oc (.inl (cI, 486, .inl f1_w17))) ((gv_uc (Ne.symm ne16)).trans (congrArg (fun W => gv_up W pl (.inl (cI, 80, .inl pf1_w17))) ((gv_uc (Ne.symm ne15)).trans (congrArg (fun W => gv_up W ky (.inl (cI, 80, .inl kf1_w17))) ((gv_uc (Ne.symm ne12)).trans (congrArg (fun W => gv_up W av (.inl (cI, 30, .inl vl1_w17))) gv_uu)))))))) ?_
              refine k_goto (tgt := 166) C dX1_refresh_134 (by decide) ?_
              refine k_view (V1 := gv_up (gv_up (gv_up (gv_up (gv_up V av (.inl (cI, 30, .inl vl1_w17))) o (.inr (4, [.ref oc, .int (nI n1_w17), .int tl1_w17, .int (nI nt)]))) ky (.inl (cI, 80, .inl kf1_w17))) pl (.inl (cI, 80, .inl pf1_w17))) oc (.inl (cI, 486, .inl f1_w17))) (congrArg (fun W => gv_up W oc (.inl (cI, 486, .inl f1_w17))) (congrArg (fun W => gv_up W pl (.inl (cI, 80, .inl pf1_w17))) (congrArg (fun W => gv_up W ky (.inl (cI, 80, .inl kf1_w17))) (gv_uc ne12)))) ?_
              refine k_view (V1 := gv_up (gv_up (gv_up (gv_up (gv_up V av (.inl (cI, 30, .inl vl1_w17))) ky (.inl (cI, 80, .inl kf1_w17))) o (.inr (4, [.ref oc, .int (nI n1_w17), .int tl1_w17, .int (nI nt)]))) pl (.inl (cI, 80, .inl pf1_w17))) oc (.inl (cI, 486, .inl f1_w17))) (congrArg (fun W => gv_up W oc (.inl (cI, 486, .inl f1_w17))) (congrArg (fun W => gv_up W pl (.inl (cI, 80, .inl pf1_w17))) (gv_uc ne15))) ?_
              refine k_view (V1 := gv_up (gv_up (gv_up (gv_up (gv_up V av (.inl (cI, 30, .inl vl1_w17))) ky (.inl (cI, 80, .inl kf1_w17))) pl (.inl (cI, 80, .inl pf1_w17))) o (.inr (4, [.ref oc, .int (nI n1_w17), .int tl1_w17, .int (nI nt)]))) oc (.inl (cI, 486, .inl f1_w17))) (congrArg (fun W => gv_up W oc (.inl (cI, 486, .inl f1_w17))) (gv_uc ne16)) ?_
              refine k_view (V1 := gv_up (gv_up (gv_up (gv_up (gv_up V av (.inl (cI, 30, .inl vl1_w17))) ky (.inl (cI, 80, .inl kf1_w17))) pl (.inl (cI, 80, .inl pf1_w17))) oc (.inl (cI, 486, .inl f1_w17))) o (.inr (4, [.ref oc, .int (nI n1_w17), .int tl1_w17, .int (nI nt)]))) (gv_uc ne14) ?_
              exact k_vret C zr zlk ⟨vl1_w17, kf1_w17, pf1_w17, n1_w17, tl1_w17, f1_w17, rfl, rfl, ht1_w17⟩ (Nat.le_refl _) (Nat.le_refl _) dX1_refresh_166
            · skip
              have ne18 : nq xe o := gv_ne h_o h_xe (by simp)
              have ne19 : nq ak o := gv_ne h_o h_ak (by simp)
              have ne20 : nq af o := gv_ne h_o h_af (by simp)
              have ne21 : nq as o := gv_ne h_o h_as (by simp)
              have ne22 : nq ap o := gv_ne h_o h_ap (by simp)
              have ne23 : nq av o := gv_ne h_o h_av (by simp)
              have ne24 : nq c o := gv_ne h_o h_c (by simp)
              have ne25 : nq oc o := gv_ne h_o h_oc (by simp)
              have ne26 : nq ky o := gv_ne h_o h_ky (by simp)
              have ne27 : nq pl o := gv_ne h_o h_pl (by simp)
              refine k_callV C mv_1_101 (c_over12  ((gv_up_n ne1).trans h_mo) ((gv_up_n ne5).trans h_no) ((gv_up_n ne18).trans h_xe) ((gv_up_n ne19).trans h_ak) ((gv_up_n ne20).trans h_af) ((gv_up_n ne21).trans h_as) ((gv_up_n ne22).trans h_ap) ((gv_up_n ne23).trans h_av) ((gv_up_n (Ne.symm hoa)).trans h_a) ((gv_up_n ne24).trans h_c) gv_up_s ((gv_up_n ne25).trans h_oc) ((gv_up_n ne26).trans h_ky) ((gv_up_n ne27).trans h_pl) (by first | assumption | omega) (by first | assumption | omega) hSa.2 hoa hca hSa.1 hky) ((gv_up_n ne1).trans h_mo) rfl rfl (by simp [Value.category]) ⟨by decide, by decide⟩ ⟨(by decide), (by decide)⟩ dX1_refresh_131 (fun zv zV zh => ?_)
              obtain ⟨vl1_w28, kf1_w28, pf1_w28, n1_w28, tl1_w28, f1_w28, rfl, rfl, ht1_w28⟩ := zh
              refine k_pc (pc' := 134) (st' := []) rfl rfl ?_
              refine k_view (V1 := gv_up (gv_up (gv_up (gv_up (gv_up V o (.inr (4, [.ref oc, .int (nI n1_w28), .int tl1_w28, .int (nI nt)]))) av (.inl (cI, 30, .inl vl1_w28))) ky (.inl (cI, 80, .inl kf1_w28))) pl (.inl (cI, 80, .inl pf1_w28))) oc (.inl (cI, 486, .inl f1_w28))) ((gv_uc (Ne.symm ne25)).trans (congrArg (fun W => gv_up W oc (.inl (cI, 486, .inl f1_w28))) ((gv_uc (Ne.symm ne27)).trans (congrArg (fun W => gv_up W pl (.inl (cI, 80, .inl pf1_w28))) ((gv_uc (Ne.symm ne26)).trans (congrArg (fun W => gv_up W ky (.inl (cI, 80, .inl kf1_w28))) ((gv_uc (Ne.symm ne23)).trans (congrArg (fun W => gv_up W av (.inl (cI, 30, .inl vl1_w28))) gv_uu)))))))) ?_
              refine k_goto (tgt := 166) C dX1_refresh_134 (by decide) ?_
              refine k_view (V1 := gv_up (gv_up (gv_up (gv_up (gv_up V av (.inl (cI, 30, .inl vl1_w28))) o (.inr (4, [.ref oc, .int (nI n1_w28), .int tl1_w28, .int (nI nt)]))) ky (.inl (cI, 80, .inl kf1_w28))) pl (.inl (cI, 80, .inl pf1_w28))) oc (.inl (cI, 486, .inl f1_w28))) (congrArg (fun W => gv_up W oc (.inl (cI, 486, .inl f1_w28))) (congrArg (fun W => gv_up W pl (.inl (cI, 80, .inl pf1_w28))) (congrArg (fun W => gv_up W ky (.inl (cI, 80, .inl kf1_w28))) (gv_uc ne23)))) ?_
              refine k_view (V1 := gv_up (gv_up (gv_up (gv_up (gv_up V av (.inl (cI, 30, .inl vl1_w28))) ky (.inl (cI, 80, .inl kf1_w28))) o (.inr (4, [.ref oc, .int (nI n1_w28), .int tl1_w28, .int (nI nt)]))) pl (.inl (cI, 80, .inl pf1_w28))) oc (.inl (cI, 486, .inl f1_w28))) (congrArg (fun W => gv_up W oc (.inl (cI, 486, .inl f1_w28))) (congrArg (fun W => gv_up W pl (.inl (cI, 80, .inl pf1_w28))) (gv_uc ne26))) ?_
              refine k_view (V1 := gv_up (gv_up (gv_up (gv_up (gv_up V av (.inl (cI, 30, .inl vl1_w28))) ky (.inl (cI, 80, .inl kf1_w28))) pl (.inl (cI, 80, .inl pf1_w28))) o (.inr (4, [.ref oc, .int (nI n1_w28), .int tl1_w28, .int (nI nt)]))) oc (.inl (cI, 486, .inl f1_w28))) (congrArg (fun W => gv_up W oc (.inl (cI, 486, .inl f1_w28))) (gv_uc ne27)) ?_
              refine k_view (V1 := gv_up (gv_up (gv_up (gv_up (gv_up V av (.inl (cI, 30, .inl vl1_w28))) ky (.inl (cI, 80, .inl kf1_w28))) pl (.inl (cI, 80, .inl pf1_w28))) oc (.inl (cI, 486, .inl f1_w28))) o (.inr (4, [.ref oc, .int (nI n1_w28), .int tl1_w28, .int (nI nt)]))) (gv_uc ne25) ?_
              exact k_vret C zr zlk ⟨vl1_w28, kf1_w28, pf1_w28, n1_w28, tl1_w28, f1_w28, rfl, rfl, ht1_w28⟩ (Nat.le_refl _) (Nat.le_refl _) dX1_refresh_166
        · skip
          exact absurd c94 (by decide)
      · skip
        exact absurd c73 (by decide)
  · skip
    exact absurd c18 hst
set_option maxHeartbeats 4000000 in
set_option maxRecDepth 100000 in
theorem c_ref1E {zl : Launch} {D : va_G} {cI cN cR : ClassId} {base : Nat} {V : gv_V} {mo tr nd tb wg ky pl : Nat} {tga tsa tpa tqa nt : Nat} {tg ts tp tq : Nat → Int32} {nl nn : Nat} {nf : Nat → Option Nat} {no : Nat} {ps pp po ex va st fr ln dn ag gr : Int32} {xe ak af as ap av ne : Nat} {kd fs sc pt vl : Nat → Int32} {kf pf : Nat → Int32} {tf : Nat → Option Nat} {i g a0 b0 n0 : Nat} {o oc : Nat} {tl0 omk : Int32} {of : Nat → Int32} {E : Nat → Ex} {a c n : Nat} {tl mk : Int32} {f : Nat → Int32} {SA : Option (List Row)} {b c2 n2 : Nat} {tl2 mk2 : Int32} {g2 : Nat → Int32} {SB : Option (List Row)}  (h_mo : V mo = some (.inr (1, [.ref tr, .ref xe, .ref nd, .ref tb, .ref wg, .ref ky, .ref pl]))) (h_tr : V tr = some (.inr (5, [.ref tga, .ref tsa, .ref tpa, .ref tqa, .int (nI nt)]))) (h_tga : V tga = some (.inl (cI, 60, .inl tg))) (h_tsa : V tsa = some (.inl (cI, 60, .inl ts))) (h_tpa : V tpa = some (.inl (cI, 60, .inl tp))) (h_tqa : V tqa = some (.inl (cI, 60, .inl tq))) (h_nd : V nd = some (.inr (3, [.ref nl, .int (nI nn)]))) (h_nl : V nl = some (.inl (cN, 30, .inr (.inr (.inr (.inr nf)))))) (h_no : V no = some (.inr (2, [.int (nI 1), .int (nI a0), .int (nI b0), .int ps, .int pp, .int po, .int ex, .int va, .int st, .int fr, .int ln, .int dn, .int ag, .int gr]))) (h_xe : V xe = some (.inr (0, [.ref ak, .ref af, .ref as, .ref ap, .ref av, .int (nI ne)]))) (h_ak : V ak = some (.inl (cI, 30, .inl kd))) (h_af : V af = some (.inl (cI, 30, .inl fs))) (h_as : V as = some (.inl (cI, 30, .inl sc))) (h_ap : V ap = some (.inl (cI, 30, .inl pt))) (h_av : V av = some (.inl (cI, 30, .inl vl))) (h_ky : V ky = some (.inl (cI, 80, .inl kf))) (h_pl : V pl = some (.inl (cI, 80, .inl pf))) (h_tb : V tb = some (.inl (cR, 120, .inr (.inr (.inr (.inr tf)))))) (h_o : V o = some (.inr (4, [.ref oc, .int (nI n0), .int tl0, .int omk]))) (h_oc : V oc = some (.inl (cI, 486, .inl of))) (h_a : V a = some (.inr (4, [.ref c, .int (nI n), .int tl, .int mk]))) (h_c : V c = some (.inl (cI, 486, .inl f))) (h_b : V b = some (.inr (4, [.ref c2, .int (nI n2), .int tl2, .int mk2]))) (h_c2 : V c2 = some (.inl (cI, 486, .inl g2))) (hX : ExR E ne kd fs sc pt) (hd : [ak, af, as, ap, av].Nodup) (hi : i < 30) (hg : g < 4) (hnf : nf i = some no) (hky : nq ky pl) (hnt : nt ≤ 60) (ht : tf (i * 4 + g) = some o) (hst : ¬ omk = nI nt) (ha0 : a0 < i) (hta : tf (a0 * 4 + g) = some a) (hSa : TRep SA n tl f) (hoa : nq o a) (hca : nq oc c) (hb0 : b0 < i) (htb : tf (b0 * 4 + g) = some b) (hSb : TRep SB n2 tl2 g2) (hob : nq o b) (hcb : nq oc c2) : ct zl D [(cI, .int), (cN, .object "AlgebraTree$Node"), (cR, .object "AlgebraTree$Rows")] base yX1_refresh cX1_refresh 6 none 5 0 0 [.ref mo, .int (nI i), .int (nI g)] V (fun zv zV => ∃ vl1 : Nat → Int32, ∃ kf1 : Nat → Int32, ∃ pf1 : Nat → Int32, ∃ n1 : Nat, ∃ tl1 : Int32, ∃ f1 : Nat → Int32, zv = none ∧ zV = gv_up (gv_up (gv_up (gv_up (gv_up V av (.inl (cI, 30, .inl vl1))) ky (.inl (cI, 80, .inl kf1))) pl (.inl (cI, 80, .inl pf1))) oc (.inl (cI, 486, .inl f1))) o (.inr (4, [.ref oc, .int (nI n1), .int tl1, .int (nI nt)])) ∧ (TRep (SA.bind (fun A => SB.bind (fun B => cap (joinL A B)))) n1 tl1 f1)) := by
  refine ct_of "AlgebraTree$Maker" rfl (by decide) (Nat.le_of_ble_eq_true rfl) ?_
  intro zp ze zs zm zargs zbelow zmeth zc C zr zlk znm
  refine k_pc (pc' := 0) (st' := []) rfl rfl ?_
  show K zp zl ze (gv_rm 5 0 0) zs zm zargs zbelow zmeth zc D base 6 (gv_E D [(cI, .int), (cN, .object "AlgebraTree$Node"), (cR, .object "AlgebraTree$Rows")] base zbelow zargs zs 0 0 (fun zv zV => ∃ vl1 : Nat → Int32, ∃ kf1 : Nat → Int32, ∃ pf1 : Nat → Int32, ∃ n1 : Nat, ∃ tl1 : Int32, ∃ f1 : Nat → Int32, zv = none ∧ zV = gv_up (gv_up (gv_up (gv_up (gv_up V av (.inl (cI, 30, .inl vl1))) ky (.inl (cI, 80, .inl kf1))) pl (.inl (cI, 80, .inl pf1))) oc (.inl (cI, 486, .inl f1))) o (.inr (4, [.ref oc, .int (nI n1), .int tl1, .int (nI nt)])) ∧ (TRep (SA.bind (fun A => SB.bind (fun B => cap (joinL A B)))) n1 tl1 f1))) V 0 0 [(0, .ref mo), (1, .int (nI i)), (2, .int (nI g))] 0 []
  refine k_aload_n C dX1_refresh_0 rfl 0 rfl ?_
  refine k_iload_n C dX1_refresh_1 rfl 1 rfl ?_
  refine k_iload_n C dX1_refresh_2 rfl 2 rfl ?_
  refine k_callV_pr C mv_1_56 (c_tableOf  h_mo h_tb (by first | assumption | omega) (by first | assumption | omega) (by first | assumption | omega)) h_mo rfl rfl (by simp [Value.category]) ⟨by decide, by decide⟩ ⟨(by decide), (by decide)⟩ dX1_refresh_3 ?_
  refine k_astore_n (lv' := [(3, .ref o), (0, .ref mo), (1, .int (nI i)), (2, .int (nI g))]) C dX1_refresh_6 rfl (by decide) rfl ?_
  refine k_aload_n C dX1_refresh_7 rfl 0 rfl ?_
  refine k_get (ci := 4) (k := 3) C fl_1_84 h_o rfl dX1_refresh_8 ?_
  refine k_aload_n C dX1_refresh_11 rfl 1 rfl ?_
  refine k_get (ci := 1) (k := 0) C fl_1_12 h_mo rfl dX1_refresh_12 ?_
  refine k_get (ci := 5) (k := 4) C fl_1_87 h_tr rfl dX1_refresh_15 ?_
  refine k_icmp_ne (tgt := 22) C dX1_refresh_18 (by decide) (fun c18 => ?_) (fun c18 => ?_)
  · skip
    refine k_aload_n C dX1_refresh_22 rfl 0 rfl ?_
    refine k_callV_pv C mv_1_90 (c_X4_clear  h_o h_oc ) h_o rfl rfl (by simp [Value.category]) ⟨by decide, by decide⟩ ⟨(by decide), (by decide)⟩ dX1_refresh_23 ?_
    refine k_aload_n C dX1_refresh_26 rfl 0 rfl ?_
    refine k_aload_n C dX1_refresh_27 rfl 1 rfl ?_
    have ne1 : nq mo o := gv_ne h_o h_mo (by simp)
    refine k_get (ci := 1) (k := 0) C fl_1_12 ((gv_up_n ne1).trans h_mo) rfl dX1_refresh_28 ?_
    have ne2 : nq tr o := gv_ne h_o h_tr (by simp)
    refine k_get (ci := 5) (k := 4) C fl_1_87 ((gv_up_n ne2).trans h_tr) rfl dX1_refresh_31 ?_
    refine k_put (ci := 4) (k := 3) (fs' := [.ref oc, .int (nI 0), .int (nI 0), .int (nI nt)]) C fl_1_84 pf_4_3 gv_up_s rfl rfl (Nat.le_of_ble_eq_true rfl) rfl dX1_refresh_34 ?_
    refine k_view (V1 := gv_up V o (.inr (4, [.ref oc, .int (nI 0), .int (nI 0), .int (nI nt)]))) gv_uu ?_
    refine k_aload_n C dX1_refresh_37 rfl 1 rfl ?_
    refine k_get (ci := 1) (k := 2) C fl_1_28 ((gv_up_n ne1).trans h_mo) rfl dX1_refresh_38 ?_
    refine k_iload_n C dX1_refresh_41 rfl 2 rfl ?_
    have ne3 : nq nd o := gv_ne h_o h_nd (by simp)
    have ne4 : nq nl o := gv_ne h_o h_nl (by simp)
    refine k_callV_pr C mv_1_60 (c_X3_at  ((gv_up_n ne3).trans h_nd) ((gv_up_n ne4).trans h_nl) (by first | assumption | omega) hnf) ((gv_up_n ne3).trans h_nd) rfl rfl (by simp [Value.category]) ⟨by decide, by decide⟩ ⟨(by decide), (by decide)⟩ dX1_refresh_42 ?_
    refine k_astore (lv' := [(4, .ref no), (3, .ref o), (0, .ref mo), (1, .int (nI i)), (2, .int (nI g))]) C dX1_refresh_45 (by decide) rfl ?_
    refine k_aload C dX1_refresh_47 0 rfl ?_
    have ne5 : nq no o := gv_ne h_o h_no (by simp)
    refine k_get (ci := 2) (k := 0) C fl_1_77 ((gv_up_n ne5).trans h_no) rfl dX1_refresh_49 ?_
    refine k_bipush (v := nI 12) C dX1_refresh_52 rfl ?_
    refine k_icmp_ne (tgt := 65) C dX1_refresh_54 (by decide) (fun c54 => ?_) (fun c54 => ?_)
    · skip
      have b54 : ¬ 1 = 12 := fun z => c54 ((nI_eq (a := 1) (b := 12) (by omega) (by omega)).mpr z)
      refine k_iload_n C dX1_refresh_65 rfl 4 rfl ?_
      refine k_istore (lv' := [(5, .int (nI g)), (4, .ref no), (3, .ref o), (0, .ref mo), (1, .int (nI i)), (2, .int (nI g))]) C dX1_refresh_66 (by decide) rfl ?_
      refine k_aload C dX1_refresh_68 1 rfl ?_
      refine k_get (ci := 2) (k := 0) C fl_1_77 ((gv_up_n ne5).trans h_no) rfl dX1_refresh_70 ?_
      refine k_if_ne (tgt := 87) C dX1_refresh_73 (by decide) (fun c73 => ?_) (fun c73 => ?_)
      · skip
        have b73 : ¬ 1 = 0 := fun z => c73 ((nI_eq (a := 1) (b := 0) (by omega) (by omega)).mpr z)
        refine k_aload C dX1_refresh_87 1 rfl ?_
        refine k_get (ci := 2) (k := 0) C fl_1_77 ((gv_up_n ne5).trans h_no) rfl dX1_refresh_89 ?_
        refine k_bipush (v := nI 13) C dX1_refresh_92 rfl ?_
        refine k_icmp_ne (tgt := 107) C dX1_refresh_94 (by decide) (fun c94 => ?_) (fun c94 => ?_)
        · skip
          have b94 : ¬ 1 = 13 := fun z => c94 ((nI_eq (a := 1) (b := 13) (by omega) (by omega)).mpr z)
          refine k_aload C dX1_refresh_107 1 rfl ?_
          refine k_get (ci := 2) (k := 2) C fl_1_74 ((gv_up_n ne5).trans h_no) rfl dX1_refresh_109 ?_
          refine k_iconst (v := (-1 : Int32)) C dX1_refresh_112 (by decide) ?_
          refine k_icmp_ne (tgt := 137) C dX1_refresh_113 (by decide) (fun c113 => ?_) (fun c113 => ?_)
          · skip
            refine k_aload_n C dX1_refresh_137 rfl 3 rfl ?_
            refine k_aload C dX1_refresh_138 1 rfl ?_
            refine k_aload_n C dX1_refresh_140 rfl 3 rfl ?_
            refine k_aload C dX1_refresh_141 1 rfl ?_
            refine k_get (ci := 2) (k := 1) C fl_1_68 ((gv_up_n ne5).trans h_no) rfl dX1_refresh_143 ?_
            refine k_iload C dX1_refresh_146 0 rfl ?_
            have ne6 : nq tb o := gv_ne h_o h_tb (by simp)
            refine k_callV_pr C mv_1_56 (c_tableOf  ((gv_up_n ne1).trans h_mo) ((gv_up_n ne6).trans h_tb) (by first | assumption | omega) (by first | assumption | omega) hta) ((gv_up_n ne1).trans h_mo) rfl rfl (by simp [Value.category]) ⟨by decide, by decide⟩ ⟨(by decide), (by decide)⟩ dX1_refresh_148 ?_
            refine k_aload_n C dX1_refresh_151 rfl 3 rfl ?_
            refine k_aload C dX1_refresh_152 1 rfl ?_
            refine k_get (ci := 2) (k := 2) C fl_1_74 ((gv_up_n ne5).trans h_no) rfl dX1_refresh_154 ?_
            refine k_iload C dX1_refresh_157 0 rfl ?_
            refine k_callV_pr C mv_1_56 (c_tableOf  ((gv_up_n ne1).trans h_mo) ((gv_up_n ne6).trans h_tb) (by first | assumption | omega) (by first | assumption | omega) htb) ((gv_up_n ne1).trans h_mo) rfl rfl (by simp [Value.category]) ⟨by decide, by decide⟩ ⟨(by decide), (by decide)⟩ dX1_refresh_159 ?_
            refine k_aload_n C dX1_refresh_162 rfl 2 rfl ?_
            rcases SA with _ | A
            · skip
              have ne7 : nq xe o := gv_ne h_o h_xe (by simp)
              have ne8 : nq ak o := gv_ne h_o h_ak (by simp)
              have ne9 : nq af o := gv_ne h_o h_af (by simp)
              have ne10 : nq as o := gv_ne h_o h_as (by simp)
              have ne11 : nq ap o := gv_ne h_o h_ap (by simp)
              have ne12 : nq av o := gv_ne h_o h_av (by simp)
              have ne13 : nq c o := gv_ne h_o h_c (by simp)
              have ne14 : nq c2 o := gv_ne h_o h_c2 (by simp)
              have ne15 : nq oc o := gv_ne h_o h_oc (by simp)
              have ne16 : nq ky o := gv_ne h_o h_ky (by simp)
              have ne17 : nq pl o := gv_ne h_o h_pl (by simp)
              refine k_callV C mv_1_105 (c_overL2  ((gv_up_n ne1).trans h_mo) ((gv_up_n ne5).trans h_no) ((gv_up_n ne7).trans h_xe) ((gv_up_n ne8).trans h_ak) ((gv_up_n ne9).trans h_af) ((gv_up_n ne10).trans h_as) ((gv_up_n ne11).trans h_ap) ((gv_up_n ne12).trans h_av) ((gv_up_n (Ne.symm hoa)).trans h_a) ((gv_up_n ne13).trans h_c) ((gv_up_n (Ne.symm hob)).trans h_b) ((gv_up_n ne14).trans h_c2) gv_up_s ((gv_up_n ne15).trans h_oc) ((gv_up_n ne16).trans h_ky) ((gv_up_n ne17).trans h_pl) (Or.inl hSa) (by first | assumption | omega) hoa hca hob hcb hky) ((gv_up_n ne1).trans h_mo) rfl rfl (by simp [Value.category]) ⟨by decide, by decide⟩ ⟨(by decide), (by decide)⟩ dX1_refresh_163 (fun zv zV zh => ?_)
              obtain ⟨vl1_w18, kf1_w18, pf1_w18, n1_w18, tl1_w18, f1_w18, rfl, rfl, ht1_w18⟩ := zh
              refine k_pc (pc' := 166) (st' := []) rfl rfl ?_
              refine k_view (V1 := gv_up (gv_up (gv_up (gv_up (gv_up V o (.inr (4, [.ref oc, .int (nI n1_w18), .int tl1_w18, .int (nI nt)]))) av (.inl (cI, 30, .inl vl1_w18))) ky (.inl (cI, 80, .inl kf1_w18))) pl (.inl (cI, 80, .inl pf1_w18))) oc (.inl (cI, 486, .inl f1_w18))) ((gv_uc (Ne.symm ne15)).trans (congrArg (fun W => gv_up W oc (.inl (cI, 486, .inl f1_w18))) ((gv_uc (Ne.symm ne17)).trans (congrArg (fun W => gv_up W pl (.inl (cI, 80, .inl pf1_w18))) ((gv_uc (Ne.symm ne16)).trans (congrArg (fun W => gv_up W ky (.inl (cI, 80, .inl kf1_w18))) ((gv_uc (Ne.symm ne12)).trans (congrArg (fun W => gv_up W av (.inl (cI, 30, .inl vl1_w18))) gv_uu)))))))) ?_
              refine k_view (V1 := gv_up (gv_up (gv_up (gv_up (gv_up V av (.inl (cI, 30, .inl vl1_w18))) o (.inr (4, [.ref oc, .int (nI n1_w18), .int tl1_w18, .int (nI nt)]))) ky (.inl (cI, 80, .inl kf1_w18))) pl (.inl (cI, 80, .inl pf1_w18))) oc (.inl (cI, 486, .inl f1_w18))) (congrArg (fun W => gv_up W oc (.inl (cI, 486, .inl f1_w18))) (congrArg (fun W => gv_up W pl (.inl (cI, 80, .inl pf1_w18))) (congrArg (fun W => gv_up W ky (.inl (cI, 80, .inl kf1_w18))) (gv_uc ne12)))) ?_
              refine k_view (V1 := gv_up (gv_up (gv_up (gv_up (gv_up V av (.inl (cI, 30, .inl vl1_w18))) ky (.inl (cI, 80, .inl kf1_w18))) o (.inr (4, [.ref oc, .int (nI n1_w18), .int tl1_w18, .int (nI nt)]))) pl (.inl (cI, 80, .inl pf1_w18))) oc (.inl (cI, 486, .inl f1_w18))) (congrArg (fun W => gv_up W oc (.inl (cI, 486, .inl f1_w18))) (congrArg (fun W => gv_up W pl (.inl (cI, 80, .inl pf1_w18))) (gv_uc ne16))) ?_
              refine k_view (V1 := gv_up (gv_up (gv_up (gv_up (gv_up V av (.inl (cI, 30, .inl vl1_w18))) ky (.inl (cI, 80, .inl kf1_w18))) pl (.inl (cI, 80, .inl pf1_w18))) o (.inr (4, [.ref oc, .int (nI n1_w18), .int tl1_w18, .int (nI nt)]))) oc (.inl (cI, 486, .inl f1_w18))) (congrArg (fun W => gv_up W oc (.inl (cI, 486, .inl f1_w18))) (gv_uc ne17)) ?_
              refine k_view (V1 := gv_up (gv_up (gv_up (gv_up (gv_up V av (.inl (cI, 30, .inl vl1_w18))) ky (.inl (cI, 80, .inl kf1_w18))) pl (.inl (cI, 80, .inl pf1_w18))) oc (.inl (cI, 486, .inl f1_w18))) o (.inr (4, [.ref oc, .int (nI n1_w18), .int tl1_w18, .int (nI nt)]))) (gv_uc ne15) ?_
              exact k_vret C zr zlk ⟨vl1_w18, kf1_w18, pf1_w18, n1_w18, tl1_w18, f1_w18, rfl, rfl, ht1_w18⟩ (Nat.le_refl _) (Nat.le_refl _) dX1_refresh_166
            · skip
              rcases SB with _ | B
              · skip
                have ne19 : nq xe o := gv_ne h_o h_xe (by simp)
                have ne20 : nq ak o := gv_ne h_o h_ak (by simp)
                have ne21 : nq af o := gv_ne h_o h_af (by simp)
                have ne22 : nq as o := gv_ne h_o h_as (by simp)
                have ne23 : nq ap o := gv_ne h_o h_ap (by simp)
                have ne24 : nq av o := gv_ne h_o h_av (by simp)
                have ne25 : nq c o := gv_ne h_o h_c (by simp)
                have ne26 : nq c2 o := gv_ne h_o h_c2 (by simp)
                have ne27 : nq oc o := gv_ne h_o h_oc (by simp)
                have ne28 : nq ky o := gv_ne h_o h_ky (by simp)
                have ne29 : nq pl o := gv_ne h_o h_pl (by simp)
                refine k_callV C mv_1_105 (c_overL2  ((gv_up_n ne1).trans h_mo) ((gv_up_n ne5).trans h_no) ((gv_up_n ne19).trans h_xe) ((gv_up_n ne20).trans h_ak) ((gv_up_n ne21).trans h_af) ((gv_up_n ne22).trans h_as) ((gv_up_n ne23).trans h_ap) ((gv_up_n ne24).trans h_av) ((gv_up_n (Ne.symm hoa)).trans h_a) ((gv_up_n ne25).trans h_c) ((gv_up_n (Ne.symm hob)).trans h_b) ((gv_up_n ne26).trans h_c2) gv_up_s ((gv_up_n ne27).trans h_oc) ((gv_up_n ne28).trans h_ky) ((gv_up_n ne29).trans h_pl) (Or.inr hSb) (by first | assumption | omega) hoa hca hob hcb hky) ((gv_up_n ne1).trans h_mo) rfl rfl (by simp [Value.category]) ⟨by decide, by decide⟩ ⟨(by decide), (by decide)⟩ dX1_refresh_163 (fun zv zV zh => ?_)
                obtain ⟨vl1_w30, kf1_w30, pf1_w30, n1_w30, tl1_w30, f1_w30, rfl, rfl, ht1_w30⟩ := zh
                refine k_pc (pc' := 166) (st' := []) rfl rfl ?_
                refine k_view (V1 := gv_up (gv_up (gv_up (gv_up (gv_up V o (.inr (4, [.ref oc, .int (nI n1_w30), .int tl1_w30, .int (nI nt)]))) av (.inl (cI, 30, .inl vl1_w30))) ky (.inl (cI, 80, .inl kf1_w30))) pl (.inl (cI, 80, .inl pf1_w30))) oc (.inl (cI, 486, .inl f1_w30))) ((gv_uc (Ne.symm ne27)).trans (congrArg (fun W => gv_up W oc (.inl (cI, 486, .inl f1_w30))) ((gv_uc (Ne.symm ne29)).trans (congrArg (fun W => gv_up W pl (.inl (cI, 80, .inl pf1_w30))) ((gv_uc (Ne.symm ne28)).trans (congrArg (fun W => gv_up W ky (.inl (cI, 80, .inl kf1_w30))) ((gv_uc (Ne.symm ne24)).trans (congrArg (fun W => gv_up W av (.inl (cI, 30, .inl vl1_w30))) gv_uu)))))))) ?_
                refine k_view (V1 := gv_up (gv_up (gv_up (gv_up (gv_up V av (.inl (cI, 30, .inl vl1_w30))) o (.inr (4, [.ref oc, .int (nI n1_w30), .int tl1_w30, .int (nI nt)]))) ky (.inl (cI, 80, .inl kf1_w30))) pl (.inl (cI, 80, .inl pf1_w30))) oc (.inl (cI, 486, .inl f1_w30))) (congrArg (fun W => gv_up W oc (.inl (cI, 486, .inl f1_w30))) (congrArg (fun W => gv_up W pl (.inl (cI, 80, .inl pf1_w30))) (congrArg (fun W => gv_up W ky (.inl (cI, 80, .inl kf1_w30))) (gv_uc ne24)))) ?_
                refine k_view (V1 := gv_up (gv_up (gv_up (gv_up (gv_up V av (.inl (cI, 30, .inl vl1_w30))) ky (.inl (cI, 80, .inl kf1_w30))) o (.inr (4, [.ref oc, .int (nI n1_w30), .int tl1_w30, .int (nI nt)]))) pl (.inl (cI, 80, .inl pf1_w30))) oc (.inl (cI, 486, .inl f1_w30))) (congrArg (fun W => gv_up W oc (.inl (cI, 486, .inl f1_w30))) (congrArg (fun W => gv_up W pl (.inl (cI, 80, .inl pf1_w30))) (gv_uc ne28))) ?_
                refine k_view (V1 := gv_up (gv_up (gv_up (gv_up (gv_up V av (.inl (cI, 30, .inl vl1_w30))) ky (.inl (cI, 80, .inl kf1_w30))) pl (.inl (cI, 80, .inl pf1_w30))) o (.inr (4, [.ref oc, .int (nI n1_w30), .int tl1_w30, .int (nI nt)]))) oc (.inl (cI, 486, .inl f1_w30))) (congrArg (fun W => gv_up W oc (.inl (cI, 486, .inl f1_w30))) (gv_uc ne29)) ?_
                refine k_view (V1 := gv_up (gv_up (gv_up (gv_up (gv_up V av (.inl (cI, 30, .inl vl1_w30))) ky (.inl (cI, 80, .inl kf1_w30))) pl (.inl (cI, 80, .inl pf1_w30))) oc (.inl (cI, 486, .inl f1_w30))) o (.inr (4, [.ref oc, .int (nI n1_w30), .int tl1_w30, .int (nI nt)]))) (gv_uc ne27) ?_
                exact k_vret C zr zlk ⟨vl1_w30, kf1_w30, pf1_w30, n1_w30, tl1_w30, f1_w30, rfl, rfl, ht1_w30⟩ (Nat.le_refl _) (Nat.le_refl _) dX1_refresh_166
              · skip
                have ne31 : nq xe o := gv_ne h_o h_xe (by simp)
                have ne32 : nq ak o := gv_ne h_o h_ak (by simp)
                have ne33 : nq af o := gv_ne h_o h_af (by simp)
                have ne34 : nq as o := gv_ne h_o h_as (by simp)
                have ne35 : nq ap o := gv_ne h_o h_ap (by simp)
                have ne36 : nq av o := gv_ne h_o h_av (by simp)
                have ne37 : nq c o := gv_ne h_o h_c (by simp)
                have ne38 : nq c2 o := gv_ne h_o h_c2 (by simp)
                have ne39 : nq oc o := gv_ne h_o h_oc (by simp)
                have ne40 : nq ky o := gv_ne h_o h_ky (by simp)
                have ne41 : nq pl o := gv_ne h_o h_pl (by simp)
                refine k_callV C mv_1_105 (c_over1  ((gv_up_n ne1).trans h_mo) ((gv_up_n ne5).trans h_no) ((gv_up_n ne31).trans h_xe) ((gv_up_n ne32).trans h_ak) ((gv_up_n ne33).trans h_af) ((gv_up_n ne34).trans h_as) ((gv_up_n ne35).trans h_ap) ((gv_up_n ne36).trans h_av) ((gv_up_n (Ne.symm hoa)).trans h_a) ((gv_up_n ne37).trans h_c) ((gv_up_n (Ne.symm hob)).trans h_b) ((gv_up_n ne38).trans h_c2) gv_up_s ((gv_up_n ne39).trans h_oc) ((gv_up_n ne40).trans h_ky) ((gv_up_n ne41).trans h_pl) (by first | assumption | omega) (by first | assumption | omega) hSa.2 hoa hca hSb.2 hob hcb hSa.1 hSb.1 hky) ((gv_up_n ne1).trans h_mo) rfl rfl (by simp [Value.category]) ⟨by decide, by decide⟩ ⟨(by decide), (by decide)⟩ dX1_refresh_163 (fun zv zV zh => ?_)
                obtain ⟨vl1_w42, kf1_w42, pf1_w42, n1_w42, tl1_w42, f1_w42, rfl, rfl, ht1_w42⟩ := zh
                refine k_pc (pc' := 166) (st' := []) rfl rfl ?_
                refine k_view (V1 := gv_up (gv_up (gv_up (gv_up (gv_up V o (.inr (4, [.ref oc, .int (nI n1_w42), .int tl1_w42, .int (nI nt)]))) av (.inl (cI, 30, .inl vl1_w42))) ky (.inl (cI, 80, .inl kf1_w42))) pl (.inl (cI, 80, .inl pf1_w42))) oc (.inl (cI, 486, .inl f1_w42))) ((gv_uc (Ne.symm ne39)).trans (congrArg (fun W => gv_up W oc (.inl (cI, 486, .inl f1_w42))) ((gv_uc (Ne.symm ne41)).trans (congrArg (fun W => gv_up W pl (.inl (cI, 80, .inl pf1_w42))) ((gv_uc (Ne.symm ne40)).trans (congrArg (fun W => gv_up W ky (.inl (cI, 80, .inl kf1_w42))) ((gv_uc (Ne.symm ne36)).trans (congrArg (fun W => gv_up W av (.inl (cI, 30, .inl vl1_w42))) gv_uu)))))))) ?_
                refine k_view (V1 := gv_up (gv_up (gv_up (gv_up (gv_up V av (.inl (cI, 30, .inl vl1_w42))) o (.inr (4, [.ref oc, .int (nI n1_w42), .int tl1_w42, .int (nI nt)]))) ky (.inl (cI, 80, .inl kf1_w42))) pl (.inl (cI, 80, .inl pf1_w42))) oc (.inl (cI, 486, .inl f1_w42))) (congrArg (fun W => gv_up W oc (.inl (cI, 486, .inl f1_w42))) (congrArg (fun W => gv_up W pl (.inl (cI, 80, .inl pf1_w42))) (congrArg (fun W => gv_up W ky (.inl (cI, 80, .inl kf1_w42))) (gv_uc ne36)))) ?_
                refine k_view (V1 := gv_up (gv_up (gv_up (gv_up (gv_up V av (.inl (cI, 30, .inl vl1_w42))) ky (.inl (cI, 80, .inl kf1_w42))) o (.inr (4, [.ref oc, .int (nI n1_w42), .int tl1_w42, .int (nI nt)]))) pl (.inl (cI, 80, .inl pf1_w42))) oc (.inl (cI, 486, .inl f1_w42))) (congrArg (fun W => gv_up W oc (.inl (cI, 486, .inl f1_w42))) (congrArg (fun W => gv_up W pl (.inl (cI, 80, .inl pf1_w42))) (gv_uc ne40))) ?_
                refine k_view (V1 := gv_up (gv_up (gv_up (gv_up (gv_up V av (.inl (cI, 30, .inl vl1_w42))) ky (.inl (cI, 80, .inl kf1_w42))) pl (.inl (cI, 80, .inl pf1_w42))) o (.inr (4, [.ref oc, .int (nI n1_w42), .int tl1_w42, .int (nI nt)]))) oc (.inl (cI, 486, .inl f1_w42))) (congrArg (fun W => gv_up W oc (.inl (cI, 486, .inl f1_w42))) (gv_uc ne41)) ?_
                refine k_view (V1 := gv_up (gv_up (gv_up (gv_up (gv_up V av (.inl (cI, 30, .inl vl1_w42))) ky (.inl (cI, 80, .inl kf1_w42))) pl (.inl (cI, 80, .inl pf1_w42))) oc (.inl (cI, 486, .inl f1_w42))) o (.inr (4, [.ref oc, .int (nI n1_w42), .int tl1_w42, .int (nI nt)]))) (gv_uc ne39) ?_
                exact k_vret C zr zlk ⟨vl1_w42, kf1_w42, pf1_w42, n1_w42, tl1_w42, f1_w42, rfl, rfl, ht1_w42⟩ (Nat.le_refl _) (Nat.le_refl _) dX1_refresh_166
          · skip
            exact absurd c113 (nI_n1 (by omega))
        · skip
          exact absurd c94 (by decide)
      · skip
        exact absurd c73 (by decide)
    · skip
      exact absurd c54 (by decide)
  · skip
    exact absurd c18 hst
set_option maxHeartbeats 4000000 in
set_option maxRecDepth 100000 in
theorem c_ref2E {zl : Launch} {D : va_G} {cI cN cR : ClassId} {base : Nat} {V : gv_V} {mo tr nd tb wg ky pl : Nat} {tga tsa tpa tqa nt : Nat} {tg ts tp tq : Nat → Int32} {nl nn : Nat} {nf : Nat → Option Nat} {no : Nat} {ps pp po ex va st fr ln dn ag gr : Int32} {xe ak af as ap av ne : Nat} {kd fs sc pt vl : Nat → Int32} {kf pf : Nat → Int32} {tf : Nat → Option Nat} {i g a0 b0 n0 : Nat} {o oc : Nat} {tl0 omk : Int32} {of : Nat → Int32} {E : Nat → Ex} {a c n : Nat} {tl mk : Int32} {f : Nat → Int32} {SA : Option (List Row)} {b c2 n2 : Nat} {tl2 mk2 : Int32} {g2 : Nat → Int32} {SB : Option (List Row)}  (h_mo : V mo = some (.inr (1, [.ref tr, .ref xe, .ref nd, .ref tb, .ref wg, .ref ky, .ref pl]))) (h_tr : V tr = some (.inr (5, [.ref tga, .ref tsa, .ref tpa, .ref tqa, .int (nI nt)]))) (h_tga : V tga = some (.inl (cI, 60, .inl tg))) (h_tsa : V tsa = some (.inl (cI, 60, .inl ts))) (h_tpa : V tpa = some (.inl (cI, 60, .inl tp))) (h_tqa : V tqa = some (.inl (cI, 60, .inl tq))) (h_nd : V nd = some (.inr (3, [.ref nl, .int (nI nn)]))) (h_nl : V nl = some (.inl (cN, 30, .inr (.inr (.inr (.inr nf)))))) (h_no : V no = some (.inr (2, [.int (nI 2), .int (nI a0), .int (nI b0), .int ps, .int pp, .int po, .int ex, .int va, .int st, .int fr, .int ln, .int dn, .int ag, .int gr]))) (h_xe : V xe = some (.inr (0, [.ref ak, .ref af, .ref as, .ref ap, .ref av, .int (nI ne)]))) (h_ak : V ak = some (.inl (cI, 30, .inl kd))) (h_af : V af = some (.inl (cI, 30, .inl fs))) (h_as : V as = some (.inl (cI, 30, .inl sc))) (h_ap : V ap = some (.inl (cI, 30, .inl pt))) (h_av : V av = some (.inl (cI, 30, .inl vl))) (h_ky : V ky = some (.inl (cI, 80, .inl kf))) (h_pl : V pl = some (.inl (cI, 80, .inl pf))) (h_tb : V tb = some (.inl (cR, 120, .inr (.inr (.inr (.inr tf)))))) (h_o : V o = some (.inr (4, [.ref oc, .int (nI n0), .int tl0, .int omk]))) (h_oc : V oc = some (.inl (cI, 486, .inl of))) (h_a : V a = some (.inr (4, [.ref c, .int (nI n), .int tl, .int mk]))) (h_c : V c = some (.inl (cI, 486, .inl f))) (h_b : V b = some (.inr (4, [.ref c2, .int (nI n2), .int tl2, .int mk2]))) (h_c2 : V c2 = some (.inl (cI, 486, .inl g2))) (hX : ExR E ne kd fs sc pt) (hd : [ak, af, as, ap, av].Nodup) (hi : i < 30) (hg : g < 4) (hnf : nf i = some no) (hky : nq ky pl) (hnt : nt ≤ 60) (ht : tf (i * 4 + g) = some o) (hst : ¬ omk = nI nt) (ha0 : a0 < i) (hta : tf (a0 * 4 + g) = some a) (hSa : TRep SA n tl f) (hoa : nq o a) (hca : nq oc c) (hb0 : b0 < i) (htb : tf (b0 * 4 + g) = some b) (hSb : TRep SB n2 tl2 g2) (hob : nq o b) (hcb : nq oc c2) : ct zl D [(cI, .int), (cN, .object "AlgebraTree$Node"), (cR, .object "AlgebraTree$Rows")] base yX1_refresh cX1_refresh 6 none 5 0 0 [.ref mo, .int (nI i), .int (nI g)] V (fun zv zV => ∃ vl1 : Nat → Int32, ∃ kf1 : Nat → Int32, ∃ pf1 : Nat → Int32, ∃ n1 : Nat, ∃ tl1 : Int32, ∃ f1 : Nat → Int32, zv = none ∧ zV = gv_up (gv_up (gv_up (gv_up (gv_up V av (.inl (cI, 30, .inl vl1))) ky (.inl (cI, 80, .inl kf1))) pl (.inl (cI, 80, .inl pf1))) oc (.inl (cI, 486, .inl f1))) o (.inr (4, [.ref oc, .int (nI n1), .int tl1, .int (nI nt)])) ∧ (TRep (SA.bind (fun A => SB.bind (fun B => cap (A ++ B)))) n1 tl1 f1)) := by
  refine ct_of "AlgebraTree$Maker" rfl (by decide) (Nat.le_of_ble_eq_true rfl) ?_
  intro zp ze zs zm zargs zbelow zmeth zc C zr zlk znm
  refine k_pc (pc' := 0) (st' := []) rfl rfl ?_
  show K zp zl ze (gv_rm 5 0 0) zs zm zargs zbelow zmeth zc D base 6 (gv_E D [(cI, .int), (cN, .object "AlgebraTree$Node"), (cR, .object "AlgebraTree$Rows")] base zbelow zargs zs 0 0 (fun zv zV => ∃ vl1 : Nat → Int32, ∃ kf1 : Nat → Int32, ∃ pf1 : Nat → Int32, ∃ n1 : Nat, ∃ tl1 : Int32, ∃ f1 : Nat → Int32, zv = none ∧ zV = gv_up (gv_up (gv_up (gv_up (gv_up V av (.inl (cI, 30, .inl vl1))) ky (.inl (cI, 80, .inl kf1))) pl (.inl (cI, 80, .inl pf1))) oc (.inl (cI, 486, .inl f1))) o (.inr (4, [.ref oc, .int (nI n1), .int tl1, .int (nI nt)])) ∧ (TRep (SA.bind (fun A => SB.bind (fun B => cap (A ++ B)))) n1 tl1 f1))) V 0 0 [(0, .ref mo), (1, .int (nI i)), (2, .int (nI g))] 0 []
  refine k_aload_n C dX1_refresh_0 rfl 0 rfl ?_
  refine k_iload_n C dX1_refresh_1 rfl 1 rfl ?_
  refine k_iload_n C dX1_refresh_2 rfl 2 rfl ?_
  refine k_callV_pr C mv_1_56 (c_tableOf  h_mo h_tb (by first | assumption | omega) (by first | assumption | omega) (by first | assumption | omega)) h_mo rfl rfl (by simp [Value.category]) ⟨by decide, by decide⟩ ⟨(by decide), (by decide)⟩ dX1_refresh_3 ?_
  refine k_astore_n (lv' := [(3, .ref o), (0, .ref mo), (1, .int (nI i)), (2, .int (nI g))]) C dX1_refresh_6 rfl (by decide) rfl ?_
  refine k_aload_n C dX1_refresh_7 rfl 0 rfl ?_
  refine k_get (ci := 4) (k := 3) C fl_1_84 h_o rfl dX1_refresh_8 ?_
  refine k_aload_n C dX1_refresh_11 rfl 1 rfl ?_
  refine k_get (ci := 1) (k := 0) C fl_1_12 h_mo rfl dX1_refresh_12 ?_
  refine k_get (ci := 5) (k := 4) C fl_1_87 h_tr rfl dX1_refresh_15 ?_
  refine k_icmp_ne (tgt := 22) C dX1_refresh_18 (by decide) (fun c18 => ?_) (fun c18 => ?_)
  · skip
    refine k_aload_n C dX1_refresh_22 rfl 0 rfl ?_
    refine k_callV_pv C mv_1_90 (c_X4_clear  h_o h_oc ) h_o rfl rfl (by simp [Value.category]) ⟨by decide, by decide⟩ ⟨(by decide), (by decide)⟩ dX1_refresh_23 ?_
    refine k_aload_n C dX1_refresh_26 rfl 0 rfl ?_
    refine k_aload_n C dX1_refresh_27 rfl 1 rfl ?_
    have ne1 : nq mo o := gv_ne h_o h_mo (by simp)
    refine k_get (ci := 1) (k := 0) C fl_1_12 ((gv_up_n ne1).trans h_mo) rfl dX1_refresh_28 ?_
    have ne2 : nq tr o := gv_ne h_o h_tr (by simp)
    refine k_get (ci := 5) (k := 4) C fl_1_87 ((gv_up_n ne2).trans h_tr) rfl dX1_refresh_31 ?_
    refine k_put (ci := 4) (k := 3) (fs' := [.ref oc, .int (nI 0), .int (nI 0), .int (nI nt)]) C fl_1_84 pf_4_3 gv_up_s rfl rfl (Nat.le_of_ble_eq_true rfl) rfl dX1_refresh_34 ?_
    refine k_view (V1 := gv_up V o (.inr (4, [.ref oc, .int (nI 0), .int (nI 0), .int (nI nt)]))) gv_uu ?_
    refine k_aload_n C dX1_refresh_37 rfl 1 rfl ?_
    refine k_get (ci := 1) (k := 2) C fl_1_28 ((gv_up_n ne1).trans h_mo) rfl dX1_refresh_38 ?_
    refine k_iload_n C dX1_refresh_41 rfl 2 rfl ?_
    have ne3 : nq nd o := gv_ne h_o h_nd (by simp)
    have ne4 : nq nl o := gv_ne h_o h_nl (by simp)
    refine k_callV_pr C mv_1_60 (c_X3_at  ((gv_up_n ne3).trans h_nd) ((gv_up_n ne4).trans h_nl) (by first | assumption | omega) hnf) ((gv_up_n ne3).trans h_nd) rfl rfl (by simp [Value.category]) ⟨by decide, by decide⟩ ⟨(by decide), (by decide)⟩ dX1_refresh_42 ?_
    refine k_astore (lv' := [(4, .ref no), (3, .ref o), (0, .ref mo), (1, .int (nI i)), (2, .int (nI g))]) C dX1_refresh_45 (by decide) rfl ?_
    refine k_aload C dX1_refresh_47 0 rfl ?_
    have ne5 : nq no o := gv_ne h_o h_no (by simp)
    refine k_get (ci := 2) (k := 0) C fl_1_77 ((gv_up_n ne5).trans h_no) rfl dX1_refresh_49 ?_
    refine k_bipush (v := nI 12) C dX1_refresh_52 rfl ?_
    refine k_icmp_ne (tgt := 65) C dX1_refresh_54 (by decide) (fun c54 => ?_) (fun c54 => ?_)
    · skip
      have b54 : ¬ 2 = 12 := fun z => c54 ((nI_eq (a := 2) (b := 12) (by omega) (by omega)).mpr z)
      refine k_iload_n C dX1_refresh_65 rfl 4 rfl ?_
      refine k_istore (lv' := [(5, .int (nI g)), (4, .ref no), (3, .ref o), (0, .ref mo), (1, .int (nI i)), (2, .int (nI g))]) C dX1_refresh_66 (by decide) rfl ?_
      refine k_aload C dX1_refresh_68 1 rfl ?_
      refine k_get (ci := 2) (k := 0) C fl_1_77 ((gv_up_n ne5).trans h_no) rfl dX1_refresh_70 ?_
      refine k_if_ne (tgt := 87) C dX1_refresh_73 (by decide) (fun c73 => ?_) (fun c73 => ?_)
      · skip
        have b73 : ¬ 2 = 0 := fun z => c73 ((nI_eq (a := 2) (b := 0) (by omega) (by omega)).mpr z)
        refine k_aload C dX1_refresh_87 1 rfl ?_
        refine k_get (ci := 2) (k := 0) C fl_1_77 ((gv_up_n ne5).trans h_no) rfl dX1_refresh_89 ?_
        refine k_bipush (v := nI 13) C dX1_refresh_92 rfl ?_
        refine k_icmp_ne (tgt := 107) C dX1_refresh_94 (by decide) (fun c94 => ?_) (fun c94 => ?_)
        · skip
          have b94 : ¬ 2 = 13 := fun z => c94 ((nI_eq (a := 2) (b := 13) (by omega) (by omega)).mpr z)
          refine k_aload C dX1_refresh_107 1 rfl ?_
          refine k_get (ci := 2) (k := 2) C fl_1_74 ((gv_up_n ne5).trans h_no) rfl dX1_refresh_109 ?_
          refine k_iconst (v := (-1 : Int32)) C dX1_refresh_112 (by decide) ?_
          refine k_icmp_ne (tgt := 137) C dX1_refresh_113 (by decide) (fun c113 => ?_) (fun c113 => ?_)
          · skip
            refine k_aload_n C dX1_refresh_137 rfl 3 rfl ?_
            refine k_aload C dX1_refresh_138 1 rfl ?_
            refine k_aload_n C dX1_refresh_140 rfl 3 rfl ?_
            refine k_aload C dX1_refresh_141 1 rfl ?_
            refine k_get (ci := 2) (k := 1) C fl_1_68 ((gv_up_n ne5).trans h_no) rfl dX1_refresh_143 ?_
            refine k_iload C dX1_refresh_146 0 rfl ?_
            have ne6 : nq tb o := gv_ne h_o h_tb (by simp)
            refine k_callV_pr C mv_1_56 (c_tableOf  ((gv_up_n ne1).trans h_mo) ((gv_up_n ne6).trans h_tb) (by first | assumption | omega) (by first | assumption | omega) hta) ((gv_up_n ne1).trans h_mo) rfl rfl (by simp [Value.category]) ⟨by decide, by decide⟩ ⟨(by decide), (by decide)⟩ dX1_refresh_148 ?_
            refine k_aload_n C dX1_refresh_151 rfl 3 rfl ?_
            refine k_aload C dX1_refresh_152 1 rfl ?_
            refine k_get (ci := 2) (k := 2) C fl_1_74 ((gv_up_n ne5).trans h_no) rfl dX1_refresh_154 ?_
            refine k_iload C dX1_refresh_157 0 rfl ?_
            refine k_callV_pr C mv_1_56 (c_tableOf  ((gv_up_n ne1).trans h_mo) ((gv_up_n ne6).trans h_tb) (by first | assumption | omega) (by first | assumption | omega) htb) ((gv_up_n ne1).trans h_mo) rfl rfl (by simp [Value.category]) ⟨by decide, by decide⟩ ⟨(by decide), (by decide)⟩ dX1_refresh_159 ?_
            refine k_aload_n C dX1_refresh_162 rfl 2 rfl ?_
            rcases SA with _ | A
            · skip
              have ne7 : nq xe o := gv_ne h_o h_xe (by simp)
              have ne8 : nq ak o := gv_ne h_o h_ak (by simp)
              have ne9 : nq af o := gv_ne h_o h_af (by simp)
              have ne10 : nq as o := gv_ne h_o h_as (by simp)
              have ne11 : nq ap o := gv_ne h_o h_ap (by simp)
              have ne12 : nq av o := gv_ne h_o h_av (by simp)
              have ne13 : nq c o := gv_ne h_o h_c (by simp)
              have ne14 : nq c2 o := gv_ne h_o h_c2 (by simp)
              have ne15 : nq oc o := gv_ne h_o h_oc (by simp)
              have ne16 : nq ky o := gv_ne h_o h_ky (by simp)
              have ne17 : nq pl o := gv_ne h_o h_pl (by simp)
              refine k_callV C mv_1_105 (c_overL2  ((gv_up_n ne1).trans h_mo) ((gv_up_n ne5).trans h_no) ((gv_up_n ne7).trans h_xe) ((gv_up_n ne8).trans h_ak) ((gv_up_n ne9).trans h_af) ((gv_up_n ne10).trans h_as) ((gv_up_n ne11).trans h_ap) ((gv_up_n ne12).trans h_av) ((gv_up_n (Ne.symm hoa)).trans h_a) ((gv_up_n ne13).trans h_c) ((gv_up_n (Ne.symm hob)).trans h_b) ((gv_up_n ne14).trans h_c2) gv_up_s ((gv_up_n ne15).trans h_oc) ((gv_up_n ne16).trans h_ky) ((gv_up_n ne17).trans h_pl) (Or.inl hSa) (by first | assumption | omega) hoa hca hob hcb hky) ((gv_up_n ne1).trans h_mo) rfl rfl (by simp [Value.category]) ⟨by decide, by decide⟩ ⟨(by decide), (by decide)⟩ dX1_refresh_163 (fun zv zV zh => ?_)
              obtain ⟨vl1_w18, kf1_w18, pf1_w18, n1_w18, tl1_w18, f1_w18, rfl, rfl, ht1_w18⟩ := zh
              refine k_pc (pc' := 166) (st' := []) rfl rfl ?_
              refine k_view (V1 := gv_up (gv_up (gv_up (gv_up (gv_up V o (.inr (4, [.ref oc, .int (nI n1_w18), .int tl1_w18, .int (nI nt)]))) av (.inl (cI, 30, .inl vl1_w18))) ky (.inl (cI, 80, .inl kf1_w18))) pl (.inl (cI, 80, .inl pf1_w18))) oc (.inl (cI, 486, .inl f1_w18))) ((gv_uc (Ne.symm ne15)).trans (congrArg (fun W => gv_up W oc (.inl (cI, 486, .inl f1_w18))) ((gv_uc (Ne.symm ne17)).trans (congrArg (fun W => gv_up W pl (.inl (cI, 80, .inl pf1_w18))) ((gv_uc (Ne.symm ne16)).trans (congrArg (fun W => gv_up W ky (.inl (cI, 80, .inl kf1_w18))) ((gv_uc (Ne.symm ne12)).trans (congrArg (fun W => gv_up W av (.inl (cI, 30, .inl vl1_w18))) gv_uu)))))))) ?_
              refine k_view (V1 := gv_up (gv_up (gv_up (gv_up (gv_up V av (.inl (cI, 30, .inl vl1_w18))) o (.inr (4, [.ref oc, .int (nI n1_w18), .int tl1_w18, .int (nI nt)]))) ky (.inl (cI, 80, .inl kf1_w18))) pl (.inl (cI, 80, .inl pf1_w18))) oc (.inl (cI, 486, .inl f1_w18))) (congrArg (fun W => gv_up W oc (.inl (cI, 486, .inl f1_w18))) (congrArg (fun W => gv_up W pl (.inl (cI, 80, .inl pf1_w18))) (congrArg (fun W => gv_up W ky (.inl (cI, 80, .inl kf1_w18))) (gv_uc ne12)))) ?_
              refine k_view (V1 := gv_up (gv_up (gv_up (gv_up (gv_up V av (.inl (cI, 30, .inl vl1_w18))) ky (.inl (cI, 80, .inl kf1_w18))) o (.inr (4, [.ref oc, .int (nI n1_w18), .int tl1_w18, .int (nI nt)]))) pl (.inl (cI, 80, .inl pf1_w18))) oc (.inl (cI, 486, .inl f1_w18))) (congrArg (fun W => gv_up W oc (.inl (cI, 486, .inl f1_w18))) (congrArg (fun W => gv_up W pl (.inl (cI, 80, .inl pf1_w18))) (gv_uc ne16))) ?_
              refine k_view (V1 := gv_up (gv_up (gv_up (gv_up (gv_up V av (.inl (cI, 30, .inl vl1_w18))) ky (.inl (cI, 80, .inl kf1_w18))) pl (.inl (cI, 80, .inl pf1_w18))) o (.inr (4, [.ref oc, .int (nI n1_w18), .int tl1_w18, .int (nI nt)]))) oc (.inl (cI, 486, .inl f1_w18))) (congrArg (fun W => gv_up W oc (.inl (cI, 486, .inl f1_w18))) (gv_uc ne17)) ?_
              refine k_view (V1 := gv_up (gv_up (gv_up (gv_up (gv_up V av (.inl (cI, 30, .inl vl1_w18))) ky (.inl (cI, 80, .inl kf1_w18))) pl (.inl (cI, 80, .inl pf1_w18))) oc (.inl (cI, 486, .inl f1_w18))) o (.inr (4, [.ref oc, .int (nI n1_w18), .int tl1_w18, .int (nI nt)]))) (gv_uc ne15) ?_
              exact k_vret C zr zlk ⟨vl1_w18, kf1_w18, pf1_w18, n1_w18, tl1_w18, f1_w18, rfl, rfl, ht1_w18⟩ (Nat.le_refl _) (Nat.le_refl _) dX1_refresh_166
            · skip
              rcases SB with _ | B
              · skip
                have ne19 : nq xe o := gv_ne h_o h_xe (by simp)
                have ne20 : nq ak o := gv_ne h_o h_ak (by simp)
                have ne21 : nq af o := gv_ne h_o h_af (by simp)
                have ne22 : nq as o := gv_ne h_o h_as (by simp)
                have ne23 : nq ap o := gv_ne h_o h_ap (by simp)
                have ne24 : nq av o := gv_ne h_o h_av (by simp)
                have ne25 : nq c o := gv_ne h_o h_c (by simp)
                have ne26 : nq c2 o := gv_ne h_o h_c2 (by simp)
                have ne27 : nq oc o := gv_ne h_o h_oc (by simp)
                have ne28 : nq ky o := gv_ne h_o h_ky (by simp)
                have ne29 : nq pl o := gv_ne h_o h_pl (by simp)
                refine k_callV C mv_1_105 (c_overL2  ((gv_up_n ne1).trans h_mo) ((gv_up_n ne5).trans h_no) ((gv_up_n ne19).trans h_xe) ((gv_up_n ne20).trans h_ak) ((gv_up_n ne21).trans h_af) ((gv_up_n ne22).trans h_as) ((gv_up_n ne23).trans h_ap) ((gv_up_n ne24).trans h_av) ((gv_up_n (Ne.symm hoa)).trans h_a) ((gv_up_n ne25).trans h_c) ((gv_up_n (Ne.symm hob)).trans h_b) ((gv_up_n ne26).trans h_c2) gv_up_s ((gv_up_n ne27).trans h_oc) ((gv_up_n ne28).trans h_ky) ((gv_up_n ne29).trans h_pl) (Or.inr hSb) (by first | assumption | omega) hoa hca hob hcb hky) ((gv_up_n ne1).trans h_mo) rfl rfl (by simp [Value.category]) ⟨by decide, by decide⟩ ⟨(by decide), (by decide)⟩ dX1_refresh_163 (fun zv zV zh => ?_)
                obtain ⟨vl1_w30, kf1_w30, pf1_w30, n1_w30, tl1_w30, f1_w30, rfl, rfl, ht1_w30⟩ := zh
                refine k_pc (pc' := 166) (st' := []) rfl rfl ?_
                refine k_view (V1 := gv_up (gv_up (gv_up (gv_up (gv_up V o (.inr (4, [.ref oc, .int (nI n1_w30), .int tl1_w30, .int (nI nt)]))) av (.inl (cI, 30, .inl vl1_w30))) ky (.inl (cI, 80, .inl kf1_w30))) pl (.inl (cI, 80, .inl pf1_w30))) oc (.inl (cI, 486, .inl f1_w30))) ((gv_uc (Ne.symm ne27)).trans (congrArg (fun W => gv_up W oc (.inl (cI, 486, .inl f1_w30))) ((gv_uc (Ne.symm ne29)).trans (congrArg (fun W => gv_up W pl (.inl (cI, 80, .inl pf1_w30))) ((gv_uc (Ne.symm ne28)).trans (congrArg (fun W => gv_up W ky (.inl (cI, 80, .inl kf1_w30))) ((gv_uc (Ne.symm ne24)).trans (congrArg (fun W => gv_up W av (.inl (cI, 30, .inl vl1_w30))) gv_uu)))))))) ?_
                refine k_view (V1 := gv_up (gv_up (gv_up (gv_up (gv_up V av (.inl (cI, 30, .inl vl1_w30))) o (.inr (4, [.ref oc, .int (nI n1_w30), .int tl1_w30, .int (nI nt)]))) ky (.inl (cI, 80, .inl kf1_w30))) pl (.inl (cI, 80, .inl pf1_w30))) oc (.inl (cI, 486, .inl f1_w30))) (congrArg (fun W => gv_up W oc (.inl (cI, 486, .inl f1_w30))) (congrArg (fun W => gv_up W pl (.inl (cI, 80, .inl pf1_w30))) (congrArg (fun W => gv_up W ky (.inl (cI, 80, .inl kf1_w30))) (gv_uc ne24)))) ?_
                refine k_view (V1 := gv_up (gv_up (gv_up (gv_up (gv_up V av (.inl (cI, 30, .inl vl1_w30))) ky (.inl (cI, 80, .inl kf1_w30))) o (.inr (4, [.ref oc, .int (nI n1_w30), .int tl1_w30, .int (nI nt)]))) pl (.inl (cI, 80, .inl pf1_w30))) oc (.inl (cI, 486, .inl f1_w30))) (congrArg (fun W => gv_up W oc (.inl (cI, 486, .inl f1_w30))) (congrArg (fun W => gv_up W pl (.inl (cI, 80, .inl pf1_w30))) (gv_uc ne28))) ?_
                refine k_view (V1 := gv_up (gv_up (gv_up (gv_up (gv_up V av (.inl (cI, 30, .inl vl1_w30))) ky (.inl (cI, 80, .inl kf1_w30))) pl (.inl (cI, 80, .inl pf1_w30))) o (.inr (4, [.ref oc, .int (nI n1_w30), .int tl1_w30, .int (nI nt)]))) oc (.inl (cI, 486, .inl f1_w30))) (congrArg (fun W => gv_up W oc (.inl (cI, 486, .inl f1_w30))) (gv_uc ne29)) ?_
                refine k_view (V1 := gv_up (gv_up (gv_up (gv_up (gv_up V av (.inl (cI, 30, .inl vl1_w30))) ky (.inl (cI, 80, .inl kf1_w30))) pl (.inl (cI, 80, .inl pf1_w30))) oc (.inl (cI, 486, .inl f1_w30))) o (.inr (4, [.ref oc, .int (nI n1_w30), .int tl1_w30, .int (nI nt)]))) (gv_uc ne27) ?_
                exact k_vret C zr zlk ⟨vl1_w30, kf1_w30, pf1_w30, n1_w30, tl1_w30, f1_w30, rfl, rfl, ht1_w30⟩ (Nat.le_refl _) (Nat.le_refl _) dX1_refresh_166
              · skip
                have ne31 : nq xe o := gv_ne h_o h_xe (by simp)
                have ne32 : nq ak o := gv_ne h_o h_ak (by simp)
                have ne33 : nq af o := gv_ne h_o h_af (by simp)
                have ne34 : nq as o := gv_ne h_o h_as (by simp)
                have ne35 : nq ap o := gv_ne h_o h_ap (by simp)
                have ne36 : nq av o := gv_ne h_o h_av (by simp)
                have ne37 : nq c o := gv_ne h_o h_c (by simp)
                have ne38 : nq c2 o := gv_ne h_o h_c2 (by simp)
                have ne39 : nq oc o := gv_ne h_o h_oc (by simp)
                have ne40 : nq ky o := gv_ne h_o h_ky (by simp)
                have ne41 : nq pl o := gv_ne h_o h_pl (by simp)
                refine k_callV C mv_1_105 (c_over2  ((gv_up_n ne1).trans h_mo) ((gv_up_n ne5).trans h_no) ((gv_up_n ne31).trans h_xe) ((gv_up_n ne32).trans h_ak) ((gv_up_n ne33).trans h_af) ((gv_up_n ne34).trans h_as) ((gv_up_n ne35).trans h_ap) ((gv_up_n ne36).trans h_av) ((gv_up_n (Ne.symm hoa)).trans h_a) ((gv_up_n ne37).trans h_c) ((gv_up_n (Ne.symm hob)).trans h_b) ((gv_up_n ne38).trans h_c2) gv_up_s ((gv_up_n ne39).trans h_oc) ((gv_up_n ne40).trans h_ky) ((gv_up_n ne41).trans h_pl) (by first | assumption | omega) (by first | assumption | omega) hSa.2 hoa hca hSb.2 hob hcb hSa.1 hSb.1 hky) ((gv_up_n ne1).trans h_mo) rfl rfl (by simp [Value.category]) ⟨by decide, by decide⟩ ⟨(by decide), (by decide)⟩ dX1_refresh_163 (fun zv zV zh => ?_)
                obtain ⟨vl1_w42, kf1_w42, pf1_w42, n1_w42, tl1_w42, f1_w42, rfl, rfl, ht1_w42⟩ := zh
                refine k_pc (pc' := 166) (st' := []) rfl rfl ?_
                refine k_view (V1 := gv_up (gv_up (gv_up (gv_up (gv_up V o (.inr (4, [.ref oc, .int (nI n1_w42), .int tl1_w42, .int (nI nt)]))) av (.inl (cI, 30, .inl vl1_w42))) ky (.inl (cI, 80, .inl kf1_w42))) pl (.inl (cI, 80, .inl pf1_w42))) oc (.inl (cI, 486, .inl f1_w42))) ((gv_uc (Ne.symm ne39)).trans (congrArg (fun W => gv_up W oc (.inl (cI, 486, .inl f1_w42))) ((gv_uc (Ne.symm ne41)).trans (congrArg (fun W => gv_up W pl (.inl (cI, 80, .inl pf1_w42))) ((gv_uc (Ne.symm ne40)).trans (congrArg (fun W => gv_up W ky (.inl (cI, 80, .inl kf1_w42))) ((gv_uc (Ne.symm ne36)).trans (congrArg (fun W => gv_up W av (.inl (cI, 30, .inl vl1_w42))) gv_uu)))))))) ?_
                refine k_view (V1 := gv_up (gv_up (gv_up (gv_up (gv_up V av (.inl (cI, 30, .inl vl1_w42))) o (.inr (4, [.ref oc, .int (nI n1_w42), .int tl1_w42, .int (nI nt)]))) ky (.inl (cI, 80, .inl kf1_w42))) pl (.inl (cI, 80, .inl pf1_w42))) oc (.inl (cI, 486, .inl f1_w42))) (congrArg (fun W => gv_up W oc (.inl (cI, 486, .inl f1_w42))) (congrArg (fun W => gv_up W pl (.inl (cI, 80, .inl pf1_w42))) (congrArg (fun W => gv_up W ky (.inl (cI, 80, .inl kf1_w42))) (gv_uc ne36)))) ?_
                refine k_view (V1 := gv_up (gv_up (gv_up (gv_up (gv_up V av (.inl (cI, 30, .inl vl1_w42))) ky (.inl (cI, 80, .inl kf1_w42))) o (.inr (4, [.ref oc, .int (nI n1_w42), .int tl1_w42, .int (nI nt)]))) pl (.inl (cI, 80, .inl pf1_w42))) oc (.inl (cI, 486, .inl f1_w42))) (congrArg (fun W => gv_up W oc (.inl (cI, 486, .inl f1_w42))) (congrArg (fun W => gv_up W pl (.inl (cI, 80, .inl pf1_w42))) (gv_uc ne40))) ?_
                refine k_view (V1 := gv_up (gv_up (gv_up (gv_up (gv_up V av (.inl (cI, 30, .inl vl1_w42))) ky (.inl (cI, 80, .inl kf1_w42))) pl (.inl (cI, 80, .inl pf1_w42))) o (.inr (4, [.ref oc, .int (nI n1_w42), .int tl1_w42, .int (nI nt)]))) oc (.inl (cI, 486, .inl f1_w42))) (congrArg (fun W => gv_up W oc (.inl (cI, 486, .inl f1_w42))) (gv_uc ne41)) ?_
                refine k_view (V1 := gv_up (gv_up (gv_up (gv_up (gv_up V av (.inl (cI, 30, .inl vl1_w42))) ky (.inl (cI, 80, .inl kf1_w42))) pl (.inl (cI, 80, .inl pf1_w42))) oc (.inl (cI, 486, .inl f1_w42))) o (.inr (4, [.ref oc, .int (nI n1_w42), .int tl1_w42, .int (nI nt)]))) (gv_uc ne39) ?_
                exact k_vret C zr zlk ⟨vl1_w42, kf1_w42, pf1_w42, n1_w42, tl1_w42, f1_w42, rfl, rfl, ht1_w42⟩ (Nat.le_refl _) (Nat.le_refl _) dX1_refresh_166
          · skip
            exact absurd c113 (nI_n1 (by omega))
        · skip
          exact absurd c94 (by decide)
      · skip
        exact absurd c73 (by decide)
    · skip
      exact absurd c54 (by decide)
  · skip
    exact absurd c18 hst
set_option maxHeartbeats 4000000 in
set_option maxRecDepth 100000 in
theorem c_ref3E {zl : Launch} {D : va_G} {cI cN cR : ClassId} {base : Nat} {V : gv_V} {mo tr nd tb wg ky pl : Nat} {tga tsa tpa tqa nt : Nat} {tg ts tp tq : Nat → Int32} {nl nn : Nat} {nf : Nat → Option Nat} {no : Nat} {ps pp po ex va st fr ln dn ag gr : Int32} {xe ak af as ap av ne : Nat} {kd fs sc pt vl : Nat → Int32} {kf pf : Nat → Int32} {tf : Nat → Option Nat} {i g a0 b0 n0 : Nat} {o oc : Nat} {tl0 omk : Int32} {of : Nat → Int32} {E : Nat → Ex} {a c n : Nat} {tl mk : Int32} {f : Nat → Int32} {SA : Option (List Row)} {b c2 n2 : Nat} {tl2 mk2 : Int32} {g2 : Nat → Int32} {SB : Option (List Row)}  (h_mo : V mo = some (.inr (1, [.ref tr, .ref xe, .ref nd, .ref tb, .ref wg, .ref ky, .ref pl]))) (h_tr : V tr = some (.inr (5, [.ref tga, .ref tsa, .ref tpa, .ref tqa, .int (nI nt)]))) (h_tga : V tga = some (.inl (cI, 60, .inl tg))) (h_tsa : V tsa = some (.inl (cI, 60, .inl ts))) (h_tpa : V tpa = some (.inl (cI, 60, .inl tp))) (h_tqa : V tqa = some (.inl (cI, 60, .inl tq))) (h_nd : V nd = some (.inr (3, [.ref nl, .int (nI nn)]))) (h_nl : V nl = some (.inl (cN, 30, .inr (.inr (.inr (.inr nf)))))) (h_no : V no = some (.inr (2, [.int (nI 3), .int (nI a0), .int (nI b0), .int ps, .int pp, .int po, .int ex, .int va, .int st, .int fr, .int ln, .int dn, .int ag, .int gr]))) (h_xe : V xe = some (.inr (0, [.ref ak, .ref af, .ref as, .ref ap, .ref av, .int (nI ne)]))) (h_ak : V ak = some (.inl (cI, 30, .inl kd))) (h_af : V af = some (.inl (cI, 30, .inl fs))) (h_as : V as = some (.inl (cI, 30, .inl sc))) (h_ap : V ap = some (.inl (cI, 30, .inl pt))) (h_av : V av = some (.inl (cI, 30, .inl vl))) (h_ky : V ky = some (.inl (cI, 80, .inl kf))) (h_pl : V pl = some (.inl (cI, 80, .inl pf))) (h_tb : V tb = some (.inl (cR, 120, .inr (.inr (.inr (.inr tf)))))) (h_o : V o = some (.inr (4, [.ref oc, .int (nI n0), .int tl0, .int omk]))) (h_oc : V oc = some (.inl (cI, 486, .inl of))) (h_a : V a = some (.inr (4, [.ref c, .int (nI n), .int tl, .int mk]))) (h_c : V c = some (.inl (cI, 486, .inl f))) (h_b : V b = some (.inr (4, [.ref c2, .int (nI n2), .int tl2, .int mk2]))) (h_c2 : V c2 = some (.inl (cI, 486, .inl g2))) (hX : ExR E ne kd fs sc pt) (hd : [ak, af, as, ap, av].Nodup) (hi : i < 30) (hg : g < 4) (hnf : nf i = some no) (hky : nq ky pl) (hnt : nt ≤ 60) (ht : tf (i * 4 + g) = some o) (hst : ¬ omk = nI nt) (ha0 : a0 < i) (hta : tf (a0 * 4 + g) = some a) (hSa : TRep SA n tl f) (hoa : nq o a) (hca : nq oc c) (hb0 : b0 < i) (htb : tf (b0 * 4 + g) = some b) (hSb : TRep SB n2 tl2 g2) (hob : nq o b) (hcb : nq oc c2) : ct zl D [(cI, .int), (cN, .object "AlgebraTree$Node"), (cR, .object "AlgebraTree$Rows")] base yX1_refresh cX1_refresh 6 none 5 0 0 [.ref mo, .int (nI i), .int (nI g)] V (fun zv zV => ∃ vl1 : Nat → Int32, ∃ kf1 : Nat → Int32, ∃ pf1 : Nat → Int32, ∃ n1 : Nat, ∃ tl1 : Int32, ∃ f1 : Nat → Int32, zv = none ∧ zV = gv_up (gv_up (gv_up (gv_up (gv_up V av (.inl (cI, 30, .inl vl1))) ky (.inl (cI, 80, .inl kf1))) pl (.inl (cI, 80, .inl pf1))) oc (.inl (cI, 486, .inl f1))) o (.inr (4, [.ref oc, .int (nI n1), .int tl1, .int (nI nt)])) ∧ (TRep (SA.bind (fun A => SB.bind (fun B => cap (minusL A B)))) n1 tl1 f1)) := by
  refine ct_of "AlgebraTree$Maker" rfl (by decide) (Nat.le_of_ble_eq_true rfl) ?_
  intro zp ze zs zm zargs zbelow zmeth zc C zr zlk znm
  refine k_pc (pc' := 0) (st' := []) rfl rfl ?_
  show K zp zl ze (gv_rm 5 0 0) zs zm zargs zbelow zmeth zc D base 6 (gv_E D [(cI, .int), (cN, .object "AlgebraTree$Node"), (cR, .object "AlgebraTree$Rows")] base zbelow zargs zs 0 0 (fun zv zV => ∃ vl1 : Nat → Int32, ∃ kf1 : Nat → Int32, ∃ pf1 : Nat → Int32, ∃ n1 : Nat, ∃ tl1 : Int32, ∃ f1 : Nat → Int32, zv = none ∧ zV = gv_up (gv_up (gv_up (gv_up (gv_up V av (.inl (cI, 30, .inl vl1))) ky (.inl (cI, 80, .inl kf1))) pl (.inl (cI, 80, .inl pf1))) oc (.inl (cI, 486, .inl f1))) o (.inr (4, [.ref oc, .int (nI n1), .int tl1, .int (nI nt)])) ∧ (TRep (SA.bind (fun A => SB.bind (fun B => cap (minusL A B)))) n1 tl1 f1))) V 0 0 [(0, .ref mo), (1, .int (nI i)), (2, .int (nI g))] 0 []
  refine k_aload_n C dX1_refresh_0 rfl 0 rfl ?_
  refine k_iload_n C dX1_refresh_1 rfl 1 rfl ?_
  refine k_iload_n C dX1_refresh_2 rfl 2 rfl ?_
  refine k_callV_pr C mv_1_56 (c_tableOf  h_mo h_tb (by first | assumption | omega) (by first | assumption | omega) (by first | assumption | omega)) h_mo rfl rfl (by simp [Value.category]) ⟨by decide, by decide⟩ ⟨(by decide), (by decide)⟩ dX1_refresh_3 ?_
  refine k_astore_n (lv' := [(3, .ref o), (0, .ref mo), (1, .int (nI i)), (2, .int (nI g))]) C dX1_refresh_6 rfl (by decide) rfl ?_
  refine k_aload_n C dX1_refresh_7 rfl 0 rfl ?_
  refine k_get (ci := 4) (k := 3) C fl_1_84 h_o rfl dX1_refresh_8 ?_
  refine k_aload_n C dX1_refresh_11 rfl 1 rfl ?_
  refine k_get (ci := 1) (k := 0) C fl_1_12 h_mo rfl dX1_refresh_12 ?_
  refine k_get (ci := 5) (k := 4) C fl_1_87 h_tr rfl dX1_refresh_15 ?_
  refine k_icmp_ne (tgt := 22) C dX1_refresh_18 (by decide) (fun c18 => ?_) (fun c18 => ?_)
  · skip
    refine k_aload_n C dX1_refresh_22 rfl 0 rfl ?_
    refine k_callV_pv C mv_1_90 (c_X4_clear  h_o h_oc ) h_o rfl rfl (by simp [Value.category]) ⟨by decide, by decide⟩ ⟨(by decide), (by decide)⟩ dX1_refresh_23 ?_
    refine k_aload_n C dX1_refresh_26 rfl 0 rfl ?_
    refine k_aload_n C dX1_refresh_27 rfl 1 rfl ?_
    have ne1 : nq mo o := gv_ne h_o h_mo (by simp)
    refine k_get (ci := 1) (k := 0) C fl_1_12 ((gv_up_n ne1).trans h_mo) rfl dX1_refresh_28 ?_
    have ne2 : nq tr o := gv_ne h_o h_tr (by simp)
    refine k_get (ci := 5) (k := 4) C fl_1_87 ((gv_up_n ne2).trans h_tr) rfl dX1_refresh_31 ?_
    refine k_put (ci := 4) (k := 3) (fs' := [.ref oc, .int (nI 0), .int (nI 0), .int (nI nt)]) C fl_1_84 pf_4_3 gv_up_s rfl rfl (Nat.le_of_ble_eq_true rfl) rfl dX1_refresh_34 ?_
    refine k_view (V1 := gv_up V o (.inr (4, [.ref oc, .int (nI 0), .int (nI 0), .int (nI nt)]))) gv_uu ?_
    refine k_aload_n C dX1_refresh_37 rfl 1 rfl ?_
    refine k_get (ci := 1) (k := 2) C fl_1_28 ((gv_up_n ne1).trans h_mo) rfl dX1_refresh_38 ?_
    refine k_iload_n C dX1_refresh_41 rfl 2 rfl ?_
    have ne3 : nq nd o := gv_ne h_o h_nd (by simp)
    have ne4 : nq nl o := gv_ne h_o h_nl (by simp)
    refine k_callV_pr C mv_1_60 (c_X3_at  ((gv_up_n ne3).trans h_nd) ((gv_up_n ne4).trans h_nl) (by first | assumption | omega) hnf) ((gv_up_n ne3).trans h_nd) rfl rfl (by simp [Value.category]) ⟨by decide, by decide⟩ ⟨(by decide), (by decide)⟩ dX1_refresh_42 ?_
    refine k_astore (lv' := [(4, .ref no), (3, .ref o), (0, .ref mo), (1, .int (nI i)), (2, .int (nI g))]) C dX1_refresh_45 (by decide) rfl ?_
    refine k_aload C dX1_refresh_47 0 rfl ?_
    have ne5 : nq no o := gv_ne h_o h_no (by simp)
    refine k_get (ci := 2) (k := 0) C fl_1_77 ((gv_up_n ne5).trans h_no) rfl dX1_refresh_49 ?_
    refine k_bipush (v := nI 12) C dX1_refresh_52 rfl ?_
    refine k_icmp_ne (tgt := 65) C dX1_refresh_54 (by decide) (fun c54 => ?_) (fun c54 => ?_)
    · skip
      have b54 : ¬ 3 = 12 := fun z => c54 ((nI_eq (a := 3) (b := 12) (by omega) (by omega)).mpr z)
      refine k_iload_n C dX1_refresh_65 rfl 4 rfl ?_
      refine k_istore (lv' := [(5, .int (nI g)), (4, .ref no), (3, .ref o), (0, .ref mo), (1, .int (nI i)), (2, .int (nI g))]) C dX1_refresh_66 (by decide) rfl ?_
      refine k_aload C dX1_refresh_68 1 rfl ?_
      refine k_get (ci := 2) (k := 0) C fl_1_77 ((gv_up_n ne5).trans h_no) rfl dX1_refresh_70 ?_
      refine k_if_ne (tgt := 87) C dX1_refresh_73 (by decide) (fun c73 => ?_) (fun c73 => ?_)
      · skip
        have b73 : ¬ 3 = 0 := fun z => c73 ((nI_eq (a := 3) (b := 0) (by omega) (by omega)).mpr z)
        refine k_aload C dX1_refresh_87 1 rfl ?_
        refine k_get (ci := 2) (k := 0) C fl_1_77 ((gv_up_n ne5).trans h_no) rfl dX1_refresh_89 ?_
        refine k_bipush (v := nI 13) C dX1_refresh_92 rfl ?_
        refine k_icmp_ne (tgt := 107) C dX1_refresh_94 (by decide) (fun c94 => ?_) (fun c94 => ?_)
        · skip
          have b94 : ¬ 3 = 13 := fun z => c94 ((nI_eq (a := 3) (b := 13) (by omega) (by omega)).mpr z)
          refine k_aload C dX1_refresh_107 1 rfl ?_
          refine k_get (ci := 2) (k := 2) C fl_1_74 ((gv_up_n ne5).trans h_no) rfl dX1_refresh_109 ?_
          refine k_iconst (v := (-1 : Int32)) C dX1_refresh_112 (by decide) ?_
          refine k_icmp_ne (tgt := 137) C dX1_refresh_113 (by decide) (fun c113 => ?_) (fun c113 => ?_)
          · skip
            refine k_aload_n C dX1_refresh_137 rfl 3 rfl ?_
            refine k_aload C dX1_refresh_138 1 rfl ?_
            refine k_aload_n C dX1_refresh_140 rfl 3 rfl ?_
            refine k_aload C dX1_refresh_141 1 rfl ?_
            refine k_get (ci := 2) (k := 1) C fl_1_68 ((gv_up_n ne5).trans h_no) rfl dX1_refresh_143 ?_
            refine k_iload C dX1_refresh_146 0 rfl ?_
            have ne6 : nq tb o := gv_ne h_o h_tb (by simp)
            refine k_callV_pr C mv_1_56 (c_tableOf  ((gv_up_n ne1).trans h_mo) ((gv_up_n ne6).trans h_tb) (by first | assumption | omega) (by first | assumption | omega) hta) ((gv_up_n ne1).trans h_mo) rfl rfl (by simp [Value.category]) ⟨by decide, by decide⟩ ⟨(by decide), (by decide)⟩ dX1_refresh_148 ?_
            refine k_aload_n C dX1_refresh_151 rfl 3 rfl ?_
            refine k_aload C dX1_refresh_152 1 rfl ?_
            refine k_get (ci := 2) (k := 2) C fl_1_74 ((gv_up_n ne5).trans h_no) rfl dX1_refresh_154 ?_
            refine k_iload C dX1_refresh_157 0 rfl ?_
            refine k_callV_pr C mv_1_56 (c_tableOf  ((gv_up_n ne1).trans h_mo) ((gv_up_n ne6).trans h_tb) (by first | assumption | omega) (by first | assumption | omega) htb) ((gv_up_n ne1).trans h_mo) rfl rfl (by simp [Value.category]) ⟨by decide, by decide⟩ ⟨(by decide), (by decide)⟩ dX1_refresh_159 ?_
            refine k_aload_n C dX1_refresh_162 rfl 2 rfl ?_
            rcases SA with _ | A
            · skip
              have ne7 : nq xe o := gv_ne h_o h_xe (by simp)
              have ne8 : nq ak o := gv_ne h_o h_ak (by simp)
              have ne9 : nq af o := gv_ne h_o h_af (by simp)
              have ne10 : nq as o := gv_ne h_o h_as (by simp)
              have ne11 : nq ap o := gv_ne h_o h_ap (by simp)
              have ne12 : nq av o := gv_ne h_o h_av (by simp)
              have ne13 : nq c o := gv_ne h_o h_c (by simp)
              have ne14 : nq c2 o := gv_ne h_o h_c2 (by simp)
              have ne15 : nq oc o := gv_ne h_o h_oc (by simp)
              have ne16 : nq ky o := gv_ne h_o h_ky (by simp)
              have ne17 : nq pl o := gv_ne h_o h_pl (by simp)
              refine k_callV C mv_1_105 (c_overL2  ((gv_up_n ne1).trans h_mo) ((gv_up_n ne5).trans h_no) ((gv_up_n ne7).trans h_xe) ((gv_up_n ne8).trans h_ak) ((gv_up_n ne9).trans h_af) ((gv_up_n ne10).trans h_as) ((gv_up_n ne11).trans h_ap) ((gv_up_n ne12).trans h_av) ((gv_up_n (Ne.symm hoa)).trans h_a) ((gv_up_n ne13).trans h_c) ((gv_up_n (Ne.symm hob)).trans h_b) ((gv_up_n ne14).trans h_c2) gv_up_s ((gv_up_n ne15).trans h_oc) ((gv_up_n ne16).trans h_ky) ((gv_up_n ne17).trans h_pl) (Or.inl hSa) (by first | assumption | omega) hoa hca hob hcb hky) ((gv_up_n ne1).trans h_mo) rfl rfl (by simp [Value.category]) ⟨by decide, by decide⟩ ⟨(by decide), (by decide)⟩ dX1_refresh_163 (fun zv zV zh => ?_)
              obtain ⟨vl1_w18, kf1_w18, pf1_w18, n1_w18, tl1_w18, f1_w18, rfl, rfl, ht1_w18⟩ := zh
              refine k_pc (pc' := 166) (st' := []) rfl rfl ?_
              refine k_view (V1 := gv_up (gv_up (gv_up (gv_up (gv_up V o (.inr (4, [.ref oc, .int (nI n1_w18), .int tl1_w18, .int (nI nt)]))) av (.inl (cI, 30, .inl vl1_w18))) ky (.inl (cI, 80, .inl kf1_w18))) pl (.inl (cI, 80, .inl pf1_w18))) oc (.inl (cI, 486, .inl f1_w18))) ((gv_uc (Ne.symm ne15)).trans (congrArg (fun W => gv_up W oc (.inl (cI, 486, .inl f1_w18))) ((gv_uc (Ne.symm ne17)).trans (congrArg (fun W => gv_up W pl (.inl (cI, 80, .inl pf1_w18))) ((gv_uc (Ne.symm ne16)).trans (congrArg (fun W => gv_up W ky (.inl (cI, 80, .inl kf1_w18))) ((gv_uc (Ne.symm ne12)).trans (congrArg (fun W => gv_up W av (.inl (cI, 30, .inl vl1_w18))) gv_uu)))))))) ?_
              refine k_view (V1 := gv_up (gv_up (gv_up (gv_up (gv_up V av (.inl (cI, 30, .inl vl1_w18))) o (.inr (4, [.ref oc, .int (nI n1_w18), .int tl1_w18, .int (nI nt)]))) ky (.inl (cI, 80, .inl kf1_w18))) pl (.inl (cI, 80, .inl pf1_w18))) oc (.inl (cI, 486, .inl f1_w18))) (congrArg (fun W => gv_up W oc (.inl (cI, 486, .inl f1_w18))) (congrArg (fun W => gv_up W pl (.inl (cI, 80, .inl pf1_w18))) (congrArg (fun W => gv_up W ky (.inl (cI, 80, .inl kf1_w18))) (gv_uc ne12)))) ?_
              refine k_view (V1 := gv_up (gv_up (gv_up (gv_up (gv_up V av (.inl (cI, 30, .inl vl1_w18))) ky (.inl (cI, 80, .inl kf1_w18))) o (.inr (4, [.ref oc, .int (nI n1_w18), .int tl1_w18, .int (nI nt)]))) pl (.inl (cI, 80, .inl pf1_w18))) oc (.inl (cI, 486, .inl f1_w18))) (congrArg (fun W => gv_up W oc (.inl (cI, 486, .inl f1_w18))) (congrArg (fun W => gv_up W pl (.inl (cI, 80, .inl pf1_w18))) (gv_uc ne16))) ?_
              refine k_view (V1 := gv_up (gv_up (gv_up (gv_up (gv_up V av (.inl (cI, 30, .inl vl1_w18))) ky (.inl (cI, 80, .inl kf1_w18))) pl (.inl (cI, 80, .inl pf1_w18))) o (.inr (4, [.ref oc, .int (nI n1_w18), .int tl1_w18, .int (nI nt)]))) oc (.inl (cI, 486, .inl f1_w18))) (congrArg (fun W => gv_up W oc (.inl (cI, 486, .inl f1_w18))) (gv_uc ne17)) ?_
              refine k_view (V1 := gv_up (gv_up (gv_up (gv_up (gv_up V av (.inl (cI, 30, .inl vl1_w18))) ky (.inl (cI, 80, .inl kf1_w18))) pl (.inl (cI, 80, .inl pf1_w18))) oc (.inl (cI, 486, .inl f1_w18))) o (.inr (4, [.ref oc, .int (nI n1_w18), .int tl1_w18, .int (nI nt)]))) (gv_uc ne15) ?_
              exact k_vret C zr zlk ⟨vl1_w18, kf1_w18, pf1_w18, n1_w18, tl1_w18, f1_w18, rfl, rfl, ht1_w18⟩ (Nat.le_refl _) (Nat.le_refl _) dX1_refresh_166
            · skip
              rcases SB with _ | B
              · skip
                have ne19 : nq xe o := gv_ne h_o h_xe (by simp)
                have ne20 : nq ak o := gv_ne h_o h_ak (by simp)
                have ne21 : nq af o := gv_ne h_o h_af (by simp)
                have ne22 : nq as o := gv_ne h_o h_as (by simp)
                have ne23 : nq ap o := gv_ne h_o h_ap (by simp)
                have ne24 : nq av o := gv_ne h_o h_av (by simp)
                have ne25 : nq c o := gv_ne h_o h_c (by simp)
                have ne26 : nq c2 o := gv_ne h_o h_c2 (by simp)
                have ne27 : nq oc o := gv_ne h_o h_oc (by simp)
                have ne28 : nq ky o := gv_ne h_o h_ky (by simp)
                have ne29 : nq pl o := gv_ne h_o h_pl (by simp)
                refine k_callV C mv_1_105 (c_overL2  ((gv_up_n ne1).trans h_mo) ((gv_up_n ne5).trans h_no) ((gv_up_n ne19).trans h_xe) ((gv_up_n ne20).trans h_ak) ((gv_up_n ne21).trans h_af) ((gv_up_n ne22).trans h_as) ((gv_up_n ne23).trans h_ap) ((gv_up_n ne24).trans h_av) ((gv_up_n (Ne.symm hoa)).trans h_a) ((gv_up_n ne25).trans h_c) ((gv_up_n (Ne.symm hob)).trans h_b) ((gv_up_n ne26).trans h_c2) gv_up_s ((gv_up_n ne27).trans h_oc) ((gv_up_n ne28).trans h_ky) ((gv_up_n ne29).trans h_pl) (Or.inr hSb) (by first | assumption | omega) hoa hca hob hcb hky) ((gv_up_n ne1).trans h_mo) rfl rfl (by simp [Value.category]) ⟨by decide, by decide⟩ ⟨(by decide), (by decide)⟩ dX1_refresh_163 (fun zv zV zh => ?_)
                obtain ⟨vl1_w30, kf1_w30, pf1_w30, n1_w30, tl1_w30, f1_w30, rfl, rfl, ht1_w30⟩ := zh
                refine k_pc (pc' := 166) (st' := []) rfl rfl ?_
                refine k_view (V1 := gv_up (gv_up (gv_up (gv_up (gv_up V o (.inr (4, [.ref oc, .int (nI n1_w30), .int tl1_w30, .int (nI nt)]))) av (.inl (cI, 30, .inl vl1_w30))) ky (.inl (cI, 80, .inl kf1_w30))) pl (.inl (cI, 80, .inl pf1_w30))) oc (.inl (cI, 486, .inl f1_w30))) ((gv_uc (Ne.symm ne27)).trans (congrArg (fun W => gv_up W oc (.inl (cI, 486, .inl f1_w30))) ((gv_uc (Ne.symm ne29)).trans (congrArg (fun W => gv_up W pl (.inl (cI, 80, .inl pf1_w30))) ((gv_uc (Ne.symm ne28)).trans (congrArg (fun W => gv_up W ky (.inl (cI, 80, .inl kf1_w30))) ((gv_uc (Ne.symm ne24)).trans (congrArg (fun W => gv_up W av (.inl (cI, 30, .inl vl1_w30))) gv_uu)))))))) ?_
                refine k_view (V1 := gv_up (gv_up (gv_up (gv_up (gv_up V av (.inl (cI, 30, .inl vl1_w30))) o (.inr (4, [.ref oc, .int (nI n1_w30), .int tl1_w30, .int (nI nt)]))) ky (.inl (cI, 80, .inl kf1_w30))) pl (.inl (cI, 80, .inl pf1_w30))) oc (.inl (cI, 486, .inl f1_w30))) (congrArg (fun W => gv_up W oc (.inl (cI, 486, .inl f1_w30))) (congrArg (fun W => gv_up W pl (.inl (cI, 80, .inl pf1_w30))) (congrArg (fun W => gv_up W ky (.inl (cI, 80, .inl kf1_w30))) (gv_uc ne24)))) ?_
                refine k_view (V1 := gv_up (gv_up (gv_up (gv_up (gv_up V av (.inl (cI, 30, .inl vl1_w30))) ky (.inl (cI, 80, .inl kf1_w30))) o (.inr (4, [.ref oc, .int (nI n1_w30), .int tl1_w30, .int (nI nt)]))) pl (.inl (cI, 80, .inl pf1_w30))) oc (.inl (cI, 486, .inl f1_w30))) (congrArg (fun W => gv_up W oc (.inl (cI, 486, .inl f1_w30))) (congrArg (fun W => gv_up W pl (.inl (cI, 80, .inl pf1_w30))) (gv_uc ne28))) ?_
                refine k_view (V1 := gv_up (gv_up (gv_up (gv_up (gv_up V av (.inl (cI, 30, .inl vl1_w30))) ky (.inl (cI, 80, .inl kf1_w30))) pl (.inl (cI, 80, .inl pf1_w30))) o (.inr (4, [.ref oc, .int (nI n1_w30), .int tl1_w30, .int (nI nt)]))) oc (.inl (cI, 486, .inl f1_w30))) (congrArg (fun W => gv_up W oc (.inl (cI, 486, .inl f1_w30))) (gv_uc ne29)) ?_
                refine k_view (V1 := gv_up (gv_up (gv_up (gv_up (gv_up V av (.inl (cI, 30, .inl vl1_w30))) ky (.inl (cI, 80, .inl kf1_w30))) pl (.inl (cI, 80, .inl pf1_w30))) oc (.inl (cI, 486, .inl f1_w30))) o (.inr (4, [.ref oc, .int (nI n1_w30), .int tl1_w30, .int (nI nt)]))) (gv_uc ne27) ?_
                exact k_vret C zr zlk ⟨vl1_w30, kf1_w30, pf1_w30, n1_w30, tl1_w30, f1_w30, rfl, rfl, ht1_w30⟩ (Nat.le_refl _) (Nat.le_refl _) dX1_refresh_166
              · skip
                have ne31 : nq xe o := gv_ne h_o h_xe (by simp)
                have ne32 : nq ak o := gv_ne h_o h_ak (by simp)
                have ne33 : nq af o := gv_ne h_o h_af (by simp)
                have ne34 : nq as o := gv_ne h_o h_as (by simp)
                have ne35 : nq ap o := gv_ne h_o h_ap (by simp)
                have ne36 : nq av o := gv_ne h_o h_av (by simp)
                have ne37 : nq c o := gv_ne h_o h_c (by simp)
                have ne38 : nq c2 o := gv_ne h_o h_c2 (by simp)
                have ne39 : nq oc o := gv_ne h_o h_oc (by simp)
                have ne40 : nq ky o := gv_ne h_o h_ky (by simp)
                have ne41 : nq pl o := gv_ne h_o h_pl (by simp)
                refine k_callV C mv_1_105 (c_over3  ((gv_up_n ne1).trans h_mo) ((gv_up_n ne5).trans h_no) ((gv_up_n ne31).trans h_xe) ((gv_up_n ne32).trans h_ak) ((gv_up_n ne33).trans h_af) ((gv_up_n ne34).trans h_as) ((gv_up_n ne35).trans h_ap) ((gv_up_n ne36).trans h_av) ((gv_up_n (Ne.symm hoa)).trans h_a) ((gv_up_n ne37).trans h_c) ((gv_up_n (Ne.symm hob)).trans h_b) ((gv_up_n ne38).trans h_c2) gv_up_s ((gv_up_n ne39).trans h_oc) ((gv_up_n ne40).trans h_ky) ((gv_up_n ne41).trans h_pl) (by first | assumption | omega) (by first | assumption | omega) hSa.2 hoa hca hSb.2 hob hcb hSa.1 hSb.1 hky) ((gv_up_n ne1).trans h_mo) rfl rfl (by simp [Value.category]) ⟨by decide, by decide⟩ ⟨(by decide), (by decide)⟩ dX1_refresh_163 (fun zv zV zh => ?_)
                obtain ⟨vl1_w42, kf1_w42, pf1_w42, n1_w42, tl1_w42, f1_w42, rfl, rfl, ht1_w42⟩ := zh
                refine k_pc (pc' := 166) (st' := []) rfl rfl ?_
                refine k_view (V1 := gv_up (gv_up (gv_up (gv_up (gv_up V o (.inr (4, [.ref oc, .int (nI n1_w42), .int tl1_w42, .int (nI nt)]))) av (.inl (cI, 30, .inl vl1_w42))) ky (.inl (cI, 80, .inl kf1_w42))) pl (.inl (cI, 80, .inl pf1_w42))) oc (.inl (cI, 486, .inl f1_w42))) ((gv_uc (Ne.symm ne39)).trans (congrArg (fun W => gv_up W oc (.inl (cI, 486, .inl f1_w42))) ((gv_uc (Ne.symm ne41)).trans (congrArg (fun W => gv_up W pl (.inl (cI, 80, .inl pf1_w42))) ((gv_uc (Ne.symm ne40)).trans (congrArg (fun W => gv_up W ky (.inl (cI, 80, .inl kf1_w42))) ((gv_uc (Ne.symm ne36)).trans (congrArg (fun W => gv_up W av (.inl (cI, 30, .inl vl1_w42))) gv_uu)))))))) ?_
                refine k_view (V1 := gv_up (gv_up (gv_up (gv_up (gv_up V av (.inl (cI, 30, .inl vl1_w42))) o (.inr (4, [.ref oc, .int (nI n1_w42), .int tl1_w42, .int (nI nt)]))) ky (.inl (cI, 80, .inl kf1_w42))) pl (.inl (cI, 80, .inl pf1_w42))) oc (.inl (cI, 486, .inl f1_w42))) (congrArg (fun W => gv_up W oc (.inl (cI, 486, .inl f1_w42))) (congrArg (fun W => gv_up W pl (.inl (cI, 80, .inl pf1_w42))) (congrArg (fun W => gv_up W ky (.inl (cI, 80, .inl kf1_w42))) (gv_uc ne36)))) ?_
                refine k_view (V1 := gv_up (gv_up (gv_up (gv_up (gv_up V av (.inl (cI, 30, .inl vl1_w42))) ky (.inl (cI, 80, .inl kf1_w42))) o (.inr (4, [.ref oc, .int (nI n1_w42), .int tl1_w42, .int (nI nt)]))) pl (.inl (cI, 80, .inl pf1_w42))) oc (.inl (cI, 486, .inl f1_w42))) (congrArg (fun W => gv_up W oc (.inl (cI, 486, .inl f1_w42))) (congrArg (fun W => gv_up W pl (.inl (cI, 80, .inl pf1_w42))) (gv_uc ne40))) ?_
                refine k_view (V1 := gv_up (gv_up (gv_up (gv_up (gv_up V av (.inl (cI, 30, .inl vl1_w42))) ky (.inl (cI, 80, .inl kf1_w42))) pl (.inl (cI, 80, .inl pf1_w42))) o (.inr (4, [.ref oc, .int (nI n1_w42), .int tl1_w42, .int (nI nt)]))) oc (.inl (cI, 486, .inl f1_w42))) (congrArg (fun W => gv_up W oc (.inl (cI, 486, .inl f1_w42))) (gv_uc ne41)) ?_
                refine k_view (V1 := gv_up (gv_up (gv_up (gv_up (gv_up V av (.inl (cI, 30, .inl vl1_w42))) ky (.inl (cI, 80, .inl kf1_w42))) pl (.inl (cI, 80, .inl pf1_w42))) oc (.inl (cI, 486, .inl f1_w42))) o (.inr (4, [.ref oc, .int (nI n1_w42), .int tl1_w42, .int (nI nt)]))) (gv_uc ne39) ?_
                exact k_vret C zr zlk ⟨vl1_w42, kf1_w42, pf1_w42, n1_w42, tl1_w42, f1_w42, rfl, rfl, ht1_w42⟩ (Nat.le_refl _) (Nat.le_refl _) dX1_refresh_166
          · skip
            exact absurd c113 (nI_n1 (by omega))
        · skip
          exact absurd c94 (by decide)
      · skip
        exact absurd c73 (by decide)
    · skip
      exact absurd c54 (by decide)
  · skip
    exact absurd c18 hst
set_option maxHeartbeats 4000000 in
set_option maxRecDepth 100000 in
theorem c_ref4NE {zl : Launch} {D : va_G} {cI cN cR : ClassId} {base : Nat} {V : gv_V} {mo tr nd tb wg ky pl : Nat} {tga tsa tpa tqa nt : Nat} {tg ts tp tq : Nat → Int32} {nl nn : Nat} {nf : Nat → Option Nat} {no : Nat} {ps pp po va st fr ln dn ag gr : Int32} {xe ak af as ap av ne : Nat} {kd fs sc pt vl : Nat → Int32} {kf pf : Nat → Int32} {tf : Nat → Option Nat} {i g a0 b0 n0 : Nat} {o oc : Nat} {tl0 omk : Int32} {of : Nat → Int32} {E : Nat → Ex} {a c n : Nat} {tl mk : Int32} {f : Nat → Int32} {SA : Option (List Row)} {b c2 n2 : Nat} {tl2 mk2 : Int32} {g2 : Nat → Int32} {SB : Option (List Row)}  (h_mo : V mo = some (.inr (1, [.ref tr, .ref xe, .ref nd, .ref tb, .ref wg, .ref ky, .ref pl]))) (h_tr : V tr = some (.inr (5, [.ref tga, .ref tsa, .ref tpa, .ref tqa, .int (nI nt)]))) (h_tga : V tga = some (.inl (cI, 60, .inl tg))) (h_tsa : V tsa = some (.inl (cI, 60, .inl ts))) (h_tpa : V tpa = some (.inl (cI, 60, .inl tp))) (h_tqa : V tqa = some (.inl (cI, 60, .inl tq))) (h_nd : V nd = some (.inr (3, [.ref nl, .int (nI nn)]))) (h_nl : V nl = some (.inl (cN, 30, .inr (.inr (.inr (.inr nf)))))) (h_no : V no = some (.inr (2, [.int (nI 4), .int (nI a0), .int (nI b0), .int ps, .int pp, .int po, .int (-1 : Int32), .int va, .int st, .int fr, .int ln, .int dn, .int ag, .int gr]))) (h_xe : V xe = some (.inr (0, [.ref ak, .ref af, .ref as, .ref ap, .ref av, .int (nI ne)]))) (h_ak : V ak = some (.inl (cI, 30, .inl kd))) (h_af : V af = some (.inl (cI, 30, .inl fs))) (h_as : V as = some (.inl (cI, 30, .inl sc))) (h_ap : V ap = some (.inl (cI, 30, .inl pt))) (h_av : V av = some (.inl (cI, 30, .inl vl))) (h_ky : V ky = some (.inl (cI, 80, .inl kf))) (h_pl : V pl = some (.inl (cI, 80, .inl pf))) (h_tb : V tb = some (.inl (cR, 120, .inr (.inr (.inr (.inr tf)))))) (h_o : V o = some (.inr (4, [.ref oc, .int (nI n0), .int tl0, .int omk]))) (h_oc : V oc = some (.inl (cI, 486, .inl of))) (h_a : V a = some (.inr (4, [.ref c, .int (nI n), .int tl, .int mk]))) (h_c : V c = some (.inl (cI, 486, .inl f))) (h_b : V b = some (.inr (4, [.ref c2, .int (nI n2), .int tl2, .int mk2]))) (h_c2 : V c2 = some (.inl (cI, 486, .inl g2))) (hX : ExR E ne kd fs sc pt) (hd : [ak, af, as, ap, av].Nodup) (hi : i < 30) (hg : g < 4) (hnf : nf i = some no) (hky : nq ky pl) (hnt : nt ≤ 60) (ht : tf (i * 4 + g) = some o) (hst : ¬ omk = nI nt) (ha0 : a0 < i) (hta : tf (a0 * 4 + g) = some a) (hSa : TRep SA n tl f) (hoa : nq o a) (hca : nq oc c) (hb0 : b0 < i) (htb : tf (b0 * 4 + g) = some b) (hSb : TRep SB n2 tl2 g2) (hob : nq o b) (hcb : nq oc c2) : ct zl D [(cI, .int), (cN, .object "AlgebraTree$Node"), (cR, .object "AlgebraTree$Rows")] base yX1_refresh cX1_refresh 6 none 5 0 0 [.ref mo, .int (nI i), .int (nI g)] V (fun zv zV => ∃ vl1 : Nat → Int32, ∃ kf1 : Nat → Int32, ∃ pf1 : Nat → Int32, ∃ n1 : Nat, ∃ tl1 : Int32, ∃ f1 : Nat → Int32, zv = none ∧ zV = gv_up (gv_up (gv_up (gv_up (gv_up V av (.inl (cI, 30, .inl vl1))) ky (.inl (cI, 80, .inl kf1))) pl (.inl (cI, 80, .inl pf1))) oc (.inl (cI, 486, .inl f1))) o (.inr (4, [.ref oc, .int (nI n1), .int tl1, .int (nI nt)])) ∧ (TRep (SA.bind (fun A => SB.bind (fun B => cap (leftL (fun _ => true) A B)))) n1 tl1 f1)) := by
  refine ct_of "AlgebraTree$Maker" rfl (by decide) (Nat.le_of_ble_eq_true rfl) ?_
  intro zp ze zs zm zargs zbelow zmeth zc C zr zlk znm
  refine k_pc (pc' := 0) (st' := []) rfl rfl ?_
  show K zp zl ze (gv_rm 5 0 0) zs zm zargs zbelow zmeth zc D base 6 (gv_E D [(cI, .int), (cN, .object "AlgebraTree$Node"), (cR, .object "AlgebraTree$Rows")] base zbelow zargs zs 0 0 (fun zv zV => ∃ vl1 : Nat → Int32, ∃ kf1 : Nat → Int32, ∃ pf1 : Nat → Int32, ∃ n1 : Nat, ∃ tl1 : Int32, ∃ f1 : Nat → Int32, zv = none ∧ zV = gv_up (gv_up (gv_up (gv_up (gv_up V av (.inl (cI, 30, .inl vl1))) ky (.inl (cI, 80, .inl kf1))) pl (.inl (cI, 80, .inl pf1))) oc (.inl (cI, 486, .inl f1))) o (.inr (4, [.ref oc, .int (nI n1), .int tl1, .int (nI nt)])) ∧ (TRep (SA.bind (fun A => SB.bind (fun B => cap (leftL (fun _ => true) A B)))) n1 tl1 f1))) V 0 0 [(0, .ref mo), (1, .int (nI i)), (2, .int (nI g))] 0 []
  refine k_aload_n C dX1_refresh_0 rfl 0 rfl ?_
  refine k_iload_n C dX1_refresh_1 rfl 1 rfl ?_
  refine k_iload_n C dX1_refresh_2 rfl 2 rfl ?_
  refine k_callV_pr C mv_1_56 (c_tableOf  h_mo h_tb (by first | assumption | omega) (by first | assumption | omega) (by first | assumption | omega)) h_mo rfl rfl (by simp [Value.category]) ⟨by decide, by decide⟩ ⟨(by decide), (by decide)⟩ dX1_refresh_3 ?_
  refine k_astore_n (lv' := [(3, .ref o), (0, .ref mo), (1, .int (nI i)), (2, .int (nI g))]) C dX1_refresh_6 rfl (by decide) rfl ?_
  refine k_aload_n C dX1_refresh_7 rfl 0 rfl ?_
  refine k_get (ci := 4) (k := 3) C fl_1_84 h_o rfl dX1_refresh_8 ?_
  refine k_aload_n C dX1_refresh_11 rfl 1 rfl ?_
  refine k_get (ci := 1) (k := 0) C fl_1_12 h_mo rfl dX1_refresh_12 ?_
  refine k_get (ci := 5) (k := 4) C fl_1_87 h_tr rfl dX1_refresh_15 ?_
  refine k_icmp_ne (tgt := 22) C dX1_refresh_18 (by decide) (fun c18 => ?_) (fun c18 => ?_)
  · skip
    refine k_aload_n C dX1_refresh_22 rfl 0 rfl ?_
    refine k_callV_pv C mv_1_90 (c_X4_clear  h_o h_oc ) h_o rfl rfl (by simp [Value.category]) ⟨by decide, by decide⟩ ⟨(by decide), (by decide)⟩ dX1_refresh_23 ?_
    refine k_aload_n C dX1_refresh_26 rfl 0 rfl ?_
    refine k_aload_n C dX1_refresh_27 rfl 1 rfl ?_
    have ne1 : nq mo o := gv_ne h_o h_mo (by simp)
    refine k_get (ci := 1) (k := 0) C fl_1_12 ((gv_up_n ne1).trans h_mo) rfl dX1_refresh_28 ?_
    have ne2 : nq tr o := gv_ne h_o h_tr (by simp)
    refine k_get (ci := 5) (k := 4) C fl_1_87 ((gv_up_n ne2).trans h_tr) rfl dX1_refresh_31 ?_
    refine k_put (ci := 4) (k := 3) (fs' := [.ref oc, .int (nI 0), .int (nI 0), .int (nI nt)]) C fl_1_84 pf_4_3 gv_up_s rfl rfl (Nat.le_of_ble_eq_true rfl) rfl dX1_refresh_34 ?_
    refine k_view (V1 := gv_up V o (.inr (4, [.ref oc, .int (nI 0), .int (nI 0), .int (nI nt)]))) gv_uu ?_
    refine k_aload_n C dX1_refresh_37 rfl 1 rfl ?_
    refine k_get (ci := 1) (k := 2) C fl_1_28 ((gv_up_n ne1).trans h_mo) rfl dX1_refresh_38 ?_
    refine k_iload_n C dX1_refresh_41 rfl 2 rfl ?_
    have ne3 : nq nd o := gv_ne h_o h_nd (by simp)
    have ne4 : nq nl o := gv_ne h_o h_nl (by simp)
    refine k_callV_pr C mv_1_60 (c_X3_at  ((gv_up_n ne3).trans h_nd) ((gv_up_n ne4).trans h_nl) (by first | assumption | omega) hnf) ((gv_up_n ne3).trans h_nd) rfl rfl (by simp [Value.category]) ⟨by decide, by decide⟩ ⟨(by decide), (by decide)⟩ dX1_refresh_42 ?_
    refine k_astore (lv' := [(4, .ref no), (3, .ref o), (0, .ref mo), (1, .int (nI i)), (2, .int (nI g))]) C dX1_refresh_45 (by decide) rfl ?_
    refine k_aload C dX1_refresh_47 0 rfl ?_
    have ne5 : nq no o := gv_ne h_o h_no (by simp)
    refine k_get (ci := 2) (k := 0) C fl_1_77 ((gv_up_n ne5).trans h_no) rfl dX1_refresh_49 ?_
    refine k_bipush (v := nI 12) C dX1_refresh_52 rfl ?_
    refine k_icmp_ne (tgt := 65) C dX1_refresh_54 (by decide) (fun c54 => ?_) (fun c54 => ?_)
    · skip
      have b54 : ¬ 4 = 12 := fun z => c54 ((nI_eq (a := 4) (b := 12) (by omega) (by omega)).mpr z)
      refine k_iload_n C dX1_refresh_65 rfl 4 rfl ?_
      refine k_istore (lv' := [(5, .int (nI g)), (4, .ref no), (3, .ref o), (0, .ref mo), (1, .int (nI i)), (2, .int (nI g))]) C dX1_refresh_66 (by decide) rfl ?_
      refine k_aload C dX1_refresh_68 1 rfl ?_
      refine k_get (ci := 2) (k := 0) C fl_1_77 ((gv_up_n ne5).trans h_no) rfl dX1_refresh_70 ?_
      refine k_if_ne (tgt := 87) C dX1_refresh_73 (by decide) (fun c73 => ?_) (fun c73 => ?_)
      · skip
        have b73 : ¬ 4 = 0 := fun z => c73 ((nI_eq (a := 4) (b := 0) (by omega) (by omega)).mpr z)
        refine k_aload C dX1_refresh_87 1 rfl ?_
        refine k_get (ci := 2) (k := 0) C fl_1_77 ((gv_up_n ne5).trans h_no) rfl dX1_refresh_89 ?_
        refine k_bipush (v := nI 13) C dX1_refresh_92 rfl ?_
        refine k_icmp_ne (tgt := 107) C dX1_refresh_94 (by decide) (fun c94 => ?_) (fun c94 => ?_)
        · skip
          have b94 : ¬ 4 = 13 := fun z => c94 ((nI_eq (a := 4) (b := 13) (by omega) (by omega)).mpr z)
          refine k_aload C dX1_refresh_107 1 rfl ?_
          refine k_get (ci := 2) (k := 2) C fl_1_74 ((gv_up_n ne5).trans h_no) rfl dX1_refresh_109 ?_
          refine k_iconst (v := (-1 : Int32)) C dX1_refresh_112 (by decide) ?_
          refine k_icmp_ne (tgt := 137) C dX1_refresh_113 (by decide) (fun c113 => ?_) (fun c113 => ?_)
          · skip
            refine k_aload_n C dX1_refresh_137 rfl 3 rfl ?_
            refine k_aload C dX1_refresh_138 1 rfl ?_
            refine k_aload_n C dX1_refresh_140 rfl 3 rfl ?_
            refine k_aload C dX1_refresh_141 1 rfl ?_
            refine k_get (ci := 2) (k := 1) C fl_1_68 ((gv_up_n ne5).trans h_no) rfl dX1_refresh_143 ?_
            refine k_iload C dX1_refresh_146 0 rfl ?_
            have ne6 : nq tb o := gv_ne h_o h_tb (by simp)
            refine k_callV_pr C mv_1_56 (c_tableOf  ((gv_up_n ne1).trans h_mo) ((gv_up_n ne6).trans h_tb) (by first | assumption | omega) (by first | assumption | omega) hta) ((gv_up_n ne1).trans h_mo) rfl rfl (by simp [Value.category]) ⟨by decide, by decide⟩ ⟨(by decide), (by decide)⟩ dX1_refresh_148 ?_
            refine k_aload_n C dX1_refresh_151 rfl 3 rfl ?_
            refine k_aload C dX1_refresh_152 1 rfl ?_
            refine k_get (ci := 2) (k := 2) C fl_1_74 ((gv_up_n ne5).trans h_no) rfl dX1_refresh_154 ?_
            refine k_iload C dX1_refresh_157 0 rfl ?_
            refine k_callV_pr C mv_1_56 (c_tableOf  ((gv_up_n ne1).trans h_mo) ((gv_up_n ne6).trans h_tb) (by first | assumption | omega) (by first | assumption | omega) htb) ((gv_up_n ne1).trans h_mo) rfl rfl (by simp [Value.category]) ⟨by decide, by decide⟩ ⟨(by decide), (by decide)⟩ dX1_refresh_159 ?_
            refine k_aload_n C dX1_refresh_162 rfl 2 rfl ?_
            rcases SA with _ | A
            · skip
              have ne7 : nq xe o := gv_ne h_o h_xe (by simp)
              have ne8 : nq ak o := gv_ne h_o h_ak (by simp)
              have ne9 : nq af o := gv_ne h_o h_af (by simp)
              have ne10 : nq as o := gv_ne h_o h_as (by simp)
              have ne11 : nq ap o := gv_ne h_o h_ap (by simp)
              have ne12 : nq av o := gv_ne h_o h_av (by simp)
              have ne13 : nq c o := gv_ne h_o h_c (by simp)
              have ne14 : nq c2 o := gv_ne h_o h_c2 (by simp)
              have ne15 : nq oc o := gv_ne h_o h_oc (by simp)
              have ne16 : nq ky o := gv_ne h_o h_ky (by simp)
              have ne17 : nq pl o := gv_ne h_o h_pl (by simp)
              refine k_callV C mv_1_105 (c_overL2  ((gv_up_n ne1).trans h_mo) ((gv_up_n ne5).trans h_no) ((gv_up_n ne7).trans h_xe) ((gv_up_n ne8).trans h_ak) ((gv_up_n ne9).trans h_af) ((gv_up_n ne10).trans h_as) ((gv_up_n ne11).trans h_ap) ((gv_up_n ne12).trans h_av) ((gv_up_n (Ne.symm hoa)).trans h_a) ((gv_up_n ne13).trans h_c) ((gv_up_n (Ne.symm hob)).trans h_b) ((gv_up_n ne14).trans h_c2) gv_up_s ((gv_up_n ne15).trans h_oc) ((gv_up_n ne16).trans h_ky) ((gv_up_n ne17).trans h_pl) (Or.inl hSa) (by first | assumption | omega) hoa hca hob hcb hky) ((gv_up_n ne1).trans h_mo) rfl rfl (by simp [Value.category]) ⟨by decide, by decide⟩ ⟨(by decide), (by decide)⟩ dX1_refresh_163 (fun zv zV zh => ?_)
              obtain ⟨vl1_w18, kf1_w18, pf1_w18, n1_w18, tl1_w18, f1_w18, rfl, rfl, ht1_w18⟩ := zh
              refine k_pc (pc' := 166) (st' := []) rfl rfl ?_
              refine k_view (V1 := gv_up (gv_up (gv_up (gv_up (gv_up V o (.inr (4, [.ref oc, .int (nI n1_w18), .int tl1_w18, .int (nI nt)]))) av (.inl (cI, 30, .inl vl1_w18))) ky (.inl (cI, 80, .inl kf1_w18))) pl (.inl (cI, 80, .inl pf1_w18))) oc (.inl (cI, 486, .inl f1_w18))) ((gv_uc (Ne.symm ne15)).trans (congrArg (fun W => gv_up W oc (.inl (cI, 486, .inl f1_w18))) ((gv_uc (Ne.symm ne17)).trans (congrArg (fun W => gv_up W pl (.inl (cI, 80, .inl pf1_w18))) ((gv_uc (Ne.symm ne16)).trans (congrArg (fun W => gv_up W ky (.inl (cI, 80, .inl kf1_w18))) ((gv_uc (Ne.symm ne12)).trans (congrArg (fun W => gv_up W av (.inl (cI, 30, .inl vl1_w18))) gv_uu)))))))) ?_
              refine k_view (V1 := gv_up (gv_up (gv_up (gv_up (gv_up V av (.inl (cI, 30, .inl vl1_w18))) o (.inr (4, [.ref oc, .int (nI n1_w18), .int tl1_w18, .int (nI nt)]))) ky (.inl (cI, 80, .inl kf1_w18))) pl (.inl (cI, 80, .inl pf1_w18))) oc (.inl (cI, 486, .inl f1_w18))) (congrArg (fun W => gv_up W oc (.inl (cI, 486, .inl f1_w18))) (congrArg (fun W => gv_up W pl (.inl (cI, 80, .inl pf1_w18))) (congrArg (fun W => gv_up W ky (.inl (cI, 80, .inl kf1_w18))) (gv_uc ne12)))) ?_
              refine k_view (V1 := gv_up (gv_up (gv_up (gv_up (gv_up V av (.inl (cI, 30, .inl vl1_w18))) ky (.inl (cI, 80, .inl kf1_w18))) o (.inr (4, [.ref oc, .int (nI n1_w18), .int tl1_w18, .int (nI nt)]))) pl (.inl (cI, 80, .inl pf1_w18))) oc (.inl (cI, 486, .inl f1_w18))) (congrArg (fun W => gv_up W oc (.inl (cI, 486, .inl f1_w18))) (congrArg (fun W => gv_up W pl (.inl (cI, 80, .inl pf1_w18))) (gv_uc ne16))) ?_
              refine k_view (V1 := gv_up (gv_up (gv_up (gv_up (gv_up V av (.inl (cI, 30, .inl vl1_w18))) ky (.inl (cI, 80, .inl kf1_w18))) pl (.inl (cI, 80, .inl pf1_w18))) o (.inr (4, [.ref oc, .int (nI n1_w18), .int tl1_w18, .int (nI nt)]))) oc (.inl (cI, 486, .inl f1_w18))) (congrArg (fun W => gv_up W oc (.inl (cI, 486, .inl f1_w18))) (gv_uc ne17)) ?_
              refine k_view (V1 := gv_up (gv_up (gv_up (gv_up (gv_up V av (.inl (cI, 30, .inl vl1_w18))) ky (.inl (cI, 80, .inl kf1_w18))) pl (.inl (cI, 80, .inl pf1_w18))) oc (.inl (cI, 486, .inl f1_w18))) o (.inr (4, [.ref oc, .int (nI n1_w18), .int tl1_w18, .int (nI nt)]))) (gv_uc ne15) ?_
              exact k_vret C zr zlk ⟨vl1_w18, kf1_w18, pf1_w18, n1_w18, tl1_w18, f1_w18, rfl, rfl, ht1_w18⟩ (Nat.le_refl _) (Nat.le_refl _) dX1_refresh_166
            · skip
              rcases SB with _ | B
              · skip
                have ne19 : nq xe o := gv_ne h_o h_xe (by simp)
                have ne20 : nq ak o := gv_ne h_o h_ak (by simp)
                have ne21 : nq af o := gv_ne h_o h_af (by simp)
                have ne22 : nq as o := gv_ne h_o h_as (by simp)
                have ne23 : nq ap o := gv_ne h_o h_ap (by simp)
                have ne24 : nq av o := gv_ne h_o h_av (by simp)
                have ne25 : nq c o := gv_ne h_o h_c (by simp)
                have ne26 : nq c2 o := gv_ne h_o h_c2 (by simp)
                have ne27 : nq oc o := gv_ne h_o h_oc (by simp)
                have ne28 : nq ky o := gv_ne h_o h_ky (by simp)
                have ne29 : nq pl o := gv_ne h_o h_pl (by simp)
                refine k_callV C mv_1_105 (c_overL2  ((gv_up_n ne1).trans h_mo) ((gv_up_n ne5).trans h_no) ((gv_up_n ne19).trans h_xe) ((gv_up_n ne20).trans h_ak) ((gv_up_n ne21).trans h_af) ((gv_up_n ne22).trans h_as) ((gv_up_n ne23).trans h_ap) ((gv_up_n ne24).trans h_av) ((gv_up_n (Ne.symm hoa)).trans h_a) ((gv_up_n ne25).trans h_c) ((gv_up_n (Ne.symm hob)).trans h_b) ((gv_up_n ne26).trans h_c2) gv_up_s ((gv_up_n ne27).trans h_oc) ((gv_up_n ne28).trans h_ky) ((gv_up_n ne29).trans h_pl) (Or.inr hSb) (by first | assumption | omega) hoa hca hob hcb hky) ((gv_up_n ne1).trans h_mo) rfl rfl (by simp [Value.category]) ⟨by decide, by decide⟩ ⟨(by decide), (by decide)⟩ dX1_refresh_163 (fun zv zV zh => ?_)
                obtain ⟨vl1_w30, kf1_w30, pf1_w30, n1_w30, tl1_w30, f1_w30, rfl, rfl, ht1_w30⟩ := zh
                refine k_pc (pc' := 166) (st' := []) rfl rfl ?_
                refine k_view (V1 := gv_up (gv_up (gv_up (gv_up (gv_up V o (.inr (4, [.ref oc, .int (nI n1_w30), .int tl1_w30, .int (nI nt)]))) av (.inl (cI, 30, .inl vl1_w30))) ky (.inl (cI, 80, .inl kf1_w30))) pl (.inl (cI, 80, .inl pf1_w30))) oc (.inl (cI, 486, .inl f1_w30))) ((gv_uc (Ne.symm ne27)).trans (congrArg (fun W => gv_up W oc (.inl (cI, 486, .inl f1_w30))) ((gv_uc (Ne.symm ne29)).trans (congrArg (fun W => gv_up W pl (.inl (cI, 80, .inl pf1_w30))) ((gv_uc (Ne.symm ne28)).trans (congrArg (fun W => gv_up W ky (.inl (cI, 80, .inl kf1_w30))) ((gv_uc (Ne.symm ne24)).trans (congrArg (fun W => gv_up W av (.inl (cI, 30, .inl vl1_w30))) gv_uu)))))))) ?_
                refine k_view (V1 := gv_up (gv_up (gv_up (gv_up (gv_up V av (.inl (cI, 30, .inl vl1_w30))) o (.inr (4, [.ref oc, .int (nI n1_w30), .int tl1_w30, .int (nI nt)]))) ky (.inl (cI, 80, .inl kf1_w30))) pl (.inl (cI, 80, .inl pf1_w30))) oc (.inl (cI, 486, .inl f1_w30))) (congrArg (fun W => gv_up W oc (.inl (cI, 486, .inl f1_w30))) (congrArg (fun W => gv_up W pl (.inl (cI, 80, .inl pf1_w30))) (congrArg (fun W => gv_up W ky (.inl (cI, 80, .inl kf1_w30))) (gv_uc ne24)))) ?_
                refine k_view (V1 := gv_up (gv_up (gv_up (gv_up (gv_up V av (.inl (cI, 30, .inl vl1_w30))) ky (.inl (cI, 80, .inl kf1_w30))) o (.inr (4, [.ref oc, .int (nI n1_w30), .int tl1_w30, .int (nI nt)]))) pl (.inl (cI, 80, .inl pf1_w30))) oc (.inl (cI, 486, .inl f1_w30))) (congrArg (fun W => gv_up W oc (.inl (cI, 486, .inl f1_w30))) (congrArg (fun W => gv_up W pl (.inl (cI, 80, .inl pf1_w30))) (gv_uc ne28))) ?_
                refine k_view (V1 := gv_up (gv_up (gv_up (gv_up (gv_up V av (.inl (cI, 30, .inl vl1_w30))) ky (.inl (cI, 80, .inl kf1_w30))) pl (.inl (cI, 80, .inl pf1_w30))) o (.inr (4, [.ref oc, .int (nI n1_w30), .int tl1_w30, .int (nI nt)]))) oc (.inl (cI, 486, .inl f1_w30))) (congrArg (fun W => gv_up W oc (.inl (cI, 486, .inl f1_w30))) (gv_uc ne29)) ?_
                refine k_view (V1 := gv_up (gv_up (gv_up (gv_up (gv_up V av (.inl (cI, 30, .inl vl1_w30))) ky (.inl (cI, 80, .inl kf1_w30))) pl (.inl (cI, 80, .inl pf1_w30))) oc (.inl (cI, 486, .inl f1_w30))) o (.inr (4, [.ref oc, .int (nI n1_w30), .int tl1_w30, .int (nI nt)]))) (gv_uc ne27) ?_
                exact k_vret C zr zlk ⟨vl1_w30, kf1_w30, pf1_w30, n1_w30, tl1_w30, f1_w30, rfl, rfl, ht1_w30⟩ (Nat.le_refl _) (Nat.le_refl _) dX1_refresh_166
              · skip
                have ne31 : nq xe o := gv_ne h_o h_xe (by simp)
                have ne32 : nq ak o := gv_ne h_o h_ak (by simp)
                have ne33 : nq af o := gv_ne h_o h_af (by simp)
                have ne34 : nq as o := gv_ne h_o h_as (by simp)
                have ne35 : nq ap o := gv_ne h_o h_ap (by simp)
                have ne36 : nq av o := gv_ne h_o h_av (by simp)
                have ne37 : nq c o := gv_ne h_o h_c (by simp)
                have ne38 : nq c2 o := gv_ne h_o h_c2 (by simp)
                have ne39 : nq oc o := gv_ne h_o h_oc (by simp)
                have ne40 : nq ky o := gv_ne h_o h_ky (by simp)
                have ne41 : nq pl o := gv_ne h_o h_pl (by simp)
                refine k_callV C mv_1_105 (c_over4N  ((gv_up_n ne1).trans h_mo) ((gv_up_n ne5).trans h_no) ((gv_up_n ne31).trans h_xe) ((gv_up_n ne32).trans h_ak) ((gv_up_n ne33).trans h_af) ((gv_up_n ne34).trans h_as) ((gv_up_n ne35).trans h_ap) ((gv_up_n ne36).trans h_av) ((gv_up_n (Ne.symm hoa)).trans h_a) ((gv_up_n ne37).trans h_c) ((gv_up_n (Ne.symm hob)).trans h_b) ((gv_up_n ne38).trans h_c2) gv_up_s ((gv_up_n ne39).trans h_oc) ((gv_up_n ne40).trans h_ky) ((gv_up_n ne41).trans h_pl) (by first | assumption | omega) (by first | assumption | omega) hSa.2 hoa hca hSb.2 hob hcb hSa.1 hSb.1 hky) ((gv_up_n ne1).trans h_mo) rfl rfl (by simp [Value.category]) ⟨by decide, by decide⟩ ⟨(by decide), (by decide)⟩ dX1_refresh_163 (fun zv zV zh => ?_)
                obtain ⟨vl1_w42, kf1_w42, pf1_w42, n1_w42, tl1_w42, f1_w42, rfl, rfl, ht1_w42⟩ := zh
                refine k_pc (pc' := 166) (st' := []) rfl rfl ?_
                refine k_view (V1 := gv_up (gv_up (gv_up (gv_up (gv_up V o (.inr (4, [.ref oc, .int (nI n1_w42), .int tl1_w42, .int (nI nt)]))) av (.inl (cI, 30, .inl vl1_w42))) ky (.inl (cI, 80, .inl kf1_w42))) pl (.inl (cI, 80, .inl pf1_w42))) oc (.inl (cI, 486, .inl f1_w42))) ((gv_uc (Ne.symm ne39)).trans (congrArg (fun W => gv_up W oc (.inl (cI, 486, .inl f1_w42))) ((gv_uc (Ne.symm ne41)).trans (congrArg (fun W => gv_up W pl (.inl (cI, 80, .inl pf1_w42))) ((gv_uc (Ne.symm ne40)).trans (congrArg (fun W => gv_up W ky (.inl (cI, 80, .inl kf1_w42))) ((gv_uc (Ne.symm ne36)).trans (congrArg (fun W => gv_up W av (.inl (cI, 30, .inl vl1_w42))) gv_uu)))))))) ?_
                refine k_view (V1 := gv_up (gv_up (gv_up (gv_up (gv_up V av (.inl (cI, 30, .inl vl1_w42))) o (.inr (4, [.ref oc, .int (nI n1_w42), .int tl1_w42, .int (nI nt)]))) ky (.inl (cI, 80, .inl kf1_w42))) pl (.inl (cI, 80, .inl pf1_w42))) oc (.inl (cI, 486, .inl f1_w42))) (congrArg (fun W => gv_up W oc (.inl (cI, 486, .inl f1_w42))) (congrArg (fun W => gv_up W pl (.inl (cI, 80, .inl pf1_w42))) (congrArg (fun W => gv_up W ky (.inl (cI, 80, .inl kf1_w42))) (gv_uc ne36)))) ?_
                refine k_view (V1 := gv_up (gv_up (gv_up (gv_up (gv_up V av (.inl (cI, 30, .inl vl1_w42))) ky (.inl (cI, 80, .inl kf1_w42))) o (.inr (4, [.ref oc, .int (nI n1_w42), .int tl1_w42, .int (nI nt)]))) pl (.inl (cI, 80, .inl pf1_w42))) oc (.inl (cI, 486, .inl f1_w42))) (congrArg (fun W => gv_up W oc (.inl (cI, 486, .inl f1_w42))) (congrArg (fun W => gv_up W pl (.inl (cI, 80, .inl pf1_w42))) (gv_uc ne40))) ?_
                refine k_view (V1 := gv_up (gv_up (gv_up (gv_up (gv_up V av (.inl (cI, 30, .inl vl1_w42))) ky (.inl (cI, 80, .inl kf1_w42))) pl (.inl (cI, 80, .inl pf1_w42))) o (.inr (4, [.ref oc, .int (nI n1_w42), .int tl1_w42, .int (nI nt)]))) oc (.inl (cI, 486, .inl f1_w42))) (congrArg (fun W => gv_up W oc (.inl (cI, 486, .inl f1_w42))) (gv_uc ne41)) ?_
                refine k_view (V1 := gv_up (gv_up (gv_up (gv_up (gv_up V av (.inl (cI, 30, .inl vl1_w42))) ky (.inl (cI, 80, .inl kf1_w42))) pl (.inl (cI, 80, .inl pf1_w42))) oc (.inl (cI, 486, .inl f1_w42))) o (.inr (4, [.ref oc, .int (nI n1_w42), .int tl1_w42, .int (nI nt)]))) (gv_uc ne39) ?_
                exact k_vret C zr zlk ⟨vl1_w42, kf1_w42, pf1_w42, n1_w42, tl1_w42, f1_w42, rfl, rfl, ht1_w42⟩ (Nat.le_refl _) (Nat.le_refl _) dX1_refresh_166
          · skip
            exact absurd c113 (nI_n1 (by omega))
        · skip
          exact absurd c94 (by decide)
      · skip
        exact absurd c73 (by decide)
    · skip
      exact absurd c54 (by decide)
  · skip
    exact absurd c18 hst
set_option maxHeartbeats 4000000 in
set_option maxRecDepth 100000 in
theorem c_ref4EE {zl : Launch} {D : va_G} {cI cN cR : ClassId} {base : Nat} {V : gv_V} {mo tr nd tb wg ky pl : Nat} {tga tsa tpa tqa nt : Nat} {tg ts tp tq : Nat → Int32} {nl nn : Nat} {nf : Nat → Option Nat} {no : Nat} {ps pp po va st fr ln dn ag gr : Int32} {e : Nat} {xe ak af as ap av ne : Nat} {kd fs sc pt vl : Nat → Int32} {kf pf : Nat → Int32} {tf : Nat → Option Nat} {i g a0 b0 n0 : Nat} {o oc : Nat} {tl0 omk : Int32} {of : Nat → Int32} {E : Nat → Ex} {a c n : Nat} {tl mk : Int32} {f : Nat → Int32} {SA : Option (List Row)} {b c2 n2 : Nat} {tl2 mk2 : Int32} {g2 : Nat → Int32} {SB : Option (List Row)}  (h_mo : V mo = some (.inr (1, [.ref tr, .ref xe, .ref nd, .ref tb, .ref wg, .ref ky, .ref pl]))) (h_tr : V tr = some (.inr (5, [.ref tga, .ref tsa, .ref tpa, .ref tqa, .int (nI nt)]))) (h_tga : V tga = some (.inl (cI, 60, .inl tg))) (h_tsa : V tsa = some (.inl (cI, 60, .inl ts))) (h_tpa : V tpa = some (.inl (cI, 60, .inl tp))) (h_tqa : V tqa = some (.inl (cI, 60, .inl tq))) (h_nd : V nd = some (.inr (3, [.ref nl, .int (nI nn)]))) (h_nl : V nl = some (.inl (cN, 30, .inr (.inr (.inr (.inr nf)))))) (h_no : V no = some (.inr (2, [.int (nI 4), .int (nI a0), .int (nI b0), .int ps, .int pp, .int po, .int (nI e), .int va, .int st, .int fr, .int ln, .int dn, .int ag, .int gr]))) (h_xe : V xe = some (.inr (0, [.ref ak, .ref af, .ref as, .ref ap, .ref av, .int (nI ne)]))) (h_ak : V ak = some (.inl (cI, 30, .inl kd))) (h_af : V af = some (.inl (cI, 30, .inl fs))) (h_as : V as = some (.inl (cI, 30, .inl sc))) (h_ap : V ap = some (.inl (cI, 30, .inl pt))) (h_av : V av = some (.inl (cI, 30, .inl vl))) (h_ky : V ky = some (.inl (cI, 80, .inl kf))) (h_pl : V pl = some (.inl (cI, 80, .inl pf))) (h_tb : V tb = some (.inl (cR, 120, .inr (.inr (.inr (.inr tf)))))) (h_o : V o = some (.inr (4, [.ref oc, .int (nI n0), .int tl0, .int omk]))) (h_oc : V oc = some (.inl (cI, 486, .inl of))) (h_a : V a = some (.inr (4, [.ref c, .int (nI n), .int tl, .int mk]))) (h_c : V c = some (.inl (cI, 486, .inl f))) (h_b : V b = some (.inr (4, [.ref c2, .int (nI n2), .int tl2, .int mk2]))) (h_c2 : V c2 = some (.inl (cI, 486, .inl g2))) (hX : ExR E ne kd fs sc pt) (hd : [ak, af, as, ap, av].Nodup) (hi : i < 30) (hg : g < 4) (hnf : nf i = some no) (hky : nq ky pl) (hnt : nt ≤ 60) (ht : tf (i * 4 + g) = some o) (hst : ¬ omk = nI nt) (ha0 : a0 < i) (hta : tf (a0 * 4 + g) = some a) (hSa : TRep SA n tl f) (hoa : nq o a) (hca : nq oc c) (hb0 : b0 < i) (htb : tf (b0 * 4 + g) = some b) (hSb : TRep SB n2 tl2 g2) (hob : nq o b) (hcb : nq oc c2) (he : e < ne) : ct zl D [(cI, .int), (cN, .object "AlgebraTree$Node"), (cR, .object "AlgebraTree$Rows")] base yX1_refresh cX1_refresh 6 none 5 0 0 [.ref mo, .int (nI i), .int (nI g)] V (fun zv zV => ∃ vl1 : Nat → Int32, ∃ kf1 : Nat → Int32, ∃ pf1 : Nat → Int32, ∃ n1 : Nat, ∃ tl1 : Int32, ∃ f1 : Nat → Int32, zv = none ∧ zV = gv_up (gv_up (gv_up (gv_up (gv_up V av (.inl (cI, 30, .inl vl1))) ky (.inl (cI, 80, .inl kf1))) pl (.inl (cI, 80, .inl pf1))) oc (.inl (cI, 486, .inl f1))) o (.inr (4, [.ref oc, .int (nI n1), .int tl1, .int (nI nt)])) ∧ (TRep (SA.bind (fun A => SB.bind (fun B => cap (leftL (fun x => isT (ev E x e)) A B)))) n1 tl1 f1)) := by
  refine ct_of "AlgebraTree$Maker" rfl (by decide) (Nat.le_of_ble_eq_true rfl) ?_
  intro zp ze zs zm zargs zbelow zmeth zc C zr zlk znm
  refine k_pc (pc' := 0) (st' := []) rfl rfl ?_
  show K zp zl ze (gv_rm 5 0 0) zs zm zargs zbelow zmeth zc D base 6 (gv_E D [(cI, .int), (cN, .object "AlgebraTree$Node"), (cR, .object "AlgebraTree$Rows")] base zbelow zargs zs 0 0 (fun zv zV => ∃ vl1 : Nat → Int32, ∃ kf1 : Nat → Int32, ∃ pf1 : Nat → Int32, ∃ n1 : Nat, ∃ tl1 : Int32, ∃ f1 : Nat → Int32, zv = none ∧ zV = gv_up (gv_up (gv_up (gv_up (gv_up V av (.inl (cI, 30, .inl vl1))) ky (.inl (cI, 80, .inl kf1))) pl (.inl (cI, 80, .inl pf1))) oc (.inl (cI, 486, .inl f1))) o (.inr (4, [.ref oc, .int (nI n1), .int tl1, .int (nI nt)])) ∧ (TRep (SA.bind (fun A => SB.bind (fun B => cap (leftL (fun x => isT (ev E x e)) A B)))) n1 tl1 f1))) V 0 0 [(0, .ref mo), (1, .int (nI i)), (2, .int (nI g))] 0 []
  refine k_aload_n C dX1_refresh_0 rfl 0 rfl ?_
  refine k_iload_n C dX1_refresh_1 rfl 1 rfl ?_
  refine k_iload_n C dX1_refresh_2 rfl 2 rfl ?_
  refine k_callV_pr C mv_1_56 (c_tableOf  h_mo h_tb (by first | assumption | omega) (by first | assumption | omega) (by first | assumption | omega)) h_mo rfl rfl (by simp [Value.category]) ⟨by decide, by decide⟩ ⟨(by decide), (by decide)⟩ dX1_refresh_3 ?_
  refine k_astore_n (lv' := [(3, .ref o), (0, .ref mo), (1, .int (nI i)), (2, .int (nI g))]) C dX1_refresh_6 rfl (by decide) rfl ?_
  refine k_aload_n C dX1_refresh_7 rfl 0 rfl ?_
  refine k_get (ci := 4) (k := 3) C fl_1_84 h_o rfl dX1_refresh_8 ?_
  refine k_aload_n C dX1_refresh_11 rfl 1 rfl ?_
  refine k_get (ci := 1) (k := 0) C fl_1_12 h_mo rfl dX1_refresh_12 ?_
  refine k_get (ci := 5) (k := 4) C fl_1_87 h_tr rfl dX1_refresh_15 ?_
  refine k_icmp_ne (tgt := 22) C dX1_refresh_18 (by decide) (fun c18 => ?_) (fun c18 => ?_)
  · skip
    refine k_aload_n C dX1_refresh_22 rfl 0 rfl ?_
    refine k_callV_pv C mv_1_90 (c_X4_clear  h_o h_oc ) h_o rfl rfl (by simp [Value.category]) ⟨by decide, by decide⟩ ⟨(by decide), (by decide)⟩ dX1_refresh_23 ?_
    refine k_aload_n C dX1_refresh_26 rfl 0 rfl ?_
    refine k_aload_n C dX1_refresh_27 rfl 1 rfl ?_
    have ne1 : nq mo o := gv_ne h_o h_mo (by simp)
    refine k_get (ci := 1) (k := 0) C fl_1_12 ((gv_up_n ne1).trans h_mo) rfl dX1_refresh_28 ?_
    have ne2 : nq tr o := gv_ne h_o h_tr (by simp)
    refine k_get (ci := 5) (k := 4) C fl_1_87 ((gv_up_n ne2).trans h_tr) rfl dX1_refresh_31 ?_
    refine k_put (ci := 4) (k := 3) (fs' := [.ref oc, .int (nI 0), .int (nI 0), .int (nI nt)]) C fl_1_84 pf_4_3 gv_up_s rfl rfl (Nat.le_of_ble_eq_true rfl) rfl dX1_refresh_34 ?_
    refine k_view (V1 := gv_up V o (.inr (4, [.ref oc, .int (nI 0), .int (nI 0), .int (nI nt)]))) gv_uu ?_
    refine k_aload_n C dX1_refresh_37 rfl 1 rfl ?_
    refine k_get (ci := 1) (k := 2) C fl_1_28 ((gv_up_n ne1).trans h_mo) rfl dX1_refresh_38 ?_
    refine k_iload_n C dX1_refresh_41 rfl 2 rfl ?_
    have ne3 : nq nd o := gv_ne h_o h_nd (by simp)
    have ne4 : nq nl o := gv_ne h_o h_nl (by simp)
    refine k_callV_pr C mv_1_60 (c_X3_at  ((gv_up_n ne3).trans h_nd) ((gv_up_n ne4).trans h_nl) (by first | assumption | omega) hnf) ((gv_up_n ne3).trans h_nd) rfl rfl (by simp [Value.category]) ⟨by decide, by decide⟩ ⟨(by decide), (by decide)⟩ dX1_refresh_42 ?_
    refine k_astore (lv' := [(4, .ref no), (3, .ref o), (0, .ref mo), (1, .int (nI i)), (2, .int (nI g))]) C dX1_refresh_45 (by decide) rfl ?_
    refine k_aload C dX1_refresh_47 0 rfl ?_
    have ne5 : nq no o := gv_ne h_o h_no (by simp)
    refine k_get (ci := 2) (k := 0) C fl_1_77 ((gv_up_n ne5).trans h_no) rfl dX1_refresh_49 ?_
    refine k_bipush (v := nI 12) C dX1_refresh_52 rfl ?_
    refine k_icmp_ne (tgt := 65) C dX1_refresh_54 (by decide) (fun c54 => ?_) (fun c54 => ?_)
    · skip
      have b54 : ¬ 4 = 12 := fun z => c54 ((nI_eq (a := 4) (b := 12) (by omega) (by omega)).mpr z)
      refine k_iload_n C dX1_refresh_65 rfl 4 rfl ?_
      refine k_istore (lv' := [(5, .int (nI g)), (4, .ref no), (3, .ref o), (0, .ref mo), (1, .int (nI i)), (2, .int (nI g))]) C dX1_refresh_66 (by decide) rfl ?_
      refine k_aload C dX1_refresh_68 1 rfl ?_
      refine k_get (ci := 2) (k := 0) C fl_1_77 ((gv_up_n ne5).trans h_no) rfl dX1_refresh_70 ?_
      refine k_if_ne (tgt := 87) C dX1_refresh_73 (by decide) (fun c73 => ?_) (fun c73 => ?_)
      · skip
        have b73 : ¬ 4 = 0 := fun z => c73 ((nI_eq (a := 4) (b := 0) (by omega) (by omega)).mpr z)
        refine k_aload C dX1_refresh_87 1 rfl ?_
        refine k_get (ci := 2) (k := 0) C fl_1_77 ((gv_up_n ne5).trans h_no) rfl dX1_refresh_89 ?_
        refine k_bipush (v := nI 13) C dX1_refresh_92 rfl ?_
        refine k_icmp_ne (tgt := 107) C dX1_refresh_94 (by decide) (fun c94 => ?_) (fun c94 => ?_)
        · skip
          have b94 : ¬ 4 = 13 := fun z => c94 ((nI_eq (a := 4) (b := 13) (by omega) (by omega)).mpr z)
          refine k_aload C dX1_refresh_107 1 rfl ?_
          refine k_get (ci := 2) (k := 2) C fl_1_74 ((gv_up_n ne5).trans h_no) rfl dX1_refresh_109 ?_
          refine k_iconst (v := (-1 : Int32)) C dX1_refresh_112 (by decide) ?_
          refine k_icmp_ne (tgt := 137) C dX1_refresh_113 (by decide) (fun c113 => ?_) (fun c113 => ?_)
          · skip
            refine k_aload_n C dX1_refresh_137 rfl 3 rfl ?_
            refine k_aload C dX1_refresh_138 1 rfl ?_
            refine k_aload_n C dX1_refresh_140 rfl 3 rfl ?_
            refine k_aload C dX1_refresh_141 1 rfl ?_
            refine k_get (ci := 2) (k := 1) C fl_1_68 ((gv_up_n ne5).trans h_no) rfl dX1_refresh_143 ?_
            refine k_iload C dX1_refresh_146 0 rfl ?_
            have ne6 : nq tb o := gv_ne h_o h_tb (by simp)
            refine k_callV_pr C mv_1_56 (c_tableOf  ((gv_up_n ne1).trans h_mo) ((gv_up_n ne6).trans h_tb) (by first | assumption | omega) (by first | assumption | omega) hta) ((gv_up_n ne1).trans h_mo) rfl rfl (by simp [Value.category]) ⟨by decide, by decide⟩ ⟨(by decide), (by decide)⟩ dX1_refresh_148 ?_
            refine k_aload_n C dX1_refresh_151 rfl 3 rfl ?_
            refine k_aload C dX1_refresh_152 1 rfl ?_
            refine k_get (ci := 2) (k := 2) C fl_1_74 ((gv_up_n ne5).trans h_no) rfl dX1_refresh_154 ?_
            refine k_iload C dX1_refresh_157 0 rfl ?_
            refine k_callV_pr C mv_1_56 (c_tableOf  ((gv_up_n ne1).trans h_mo) ((gv_up_n ne6).trans h_tb) (by first | assumption | omega) (by first | assumption | omega) htb) ((gv_up_n ne1).trans h_mo) rfl rfl (by simp [Value.category]) ⟨by decide, by decide⟩ ⟨(by decide), (by decide)⟩ dX1_refresh_159 ?_
            refine k_aload_n C dX1_refresh_162 rfl 2 rfl ?_
            rcases SA with _ | A
            · skip
              have ne7 : nq xe o := gv_ne h_o h_xe (by simp)
              have ne8 : nq ak o := gv_ne h_o h_ak (by simp)
              have ne9 : nq af o := gv_ne h_o h_af (by simp)
              have ne10 : nq as o := gv_ne h_o h_as (by simp)
              have ne11 : nq ap o := gv_ne h_o h_ap (by simp)
              have ne12 : nq av o := gv_ne h_o h_av (by simp)
              have ne13 : nq c o := gv_ne h_o h_c (by simp)
              have ne14 : nq c2 o := gv_ne h_o h_c2 (by simp)
              have ne15 : nq oc o := gv_ne h_o h_oc (by simp)
              have ne16 : nq ky o := gv_ne h_o h_ky (by simp)
              have ne17 : nq pl o := gv_ne h_o h_pl (by simp)
              refine k_callV C mv_1_105 (c_overL2  ((gv_up_n ne1).trans h_mo) ((gv_up_n ne5).trans h_no) ((gv_up_n ne7).trans h_xe) ((gv_up_n ne8).trans h_ak) ((gv_up_n ne9).trans h_af) ((gv_up_n ne10).trans h_as) ((gv_up_n ne11).trans h_ap) ((gv_up_n ne12).trans h_av) ((gv_up_n (Ne.symm hoa)).trans h_a) ((gv_up_n ne13).trans h_c) ((gv_up_n (Ne.symm hob)).trans h_b) ((gv_up_n ne14).trans h_c2) gv_up_s ((gv_up_n ne15).trans h_oc) ((gv_up_n ne16).trans h_ky) ((gv_up_n ne17).trans h_pl) (Or.inl hSa) (by first | assumption | omega) hoa hca hob hcb hky) ((gv_up_n ne1).trans h_mo) rfl rfl (by simp [Value.category]) ⟨by decide, by decide⟩ ⟨(by decide), (by decide)⟩ dX1_refresh_163 (fun zv zV zh => ?_)
              obtain ⟨vl1_w18, kf1_w18, pf1_w18, n1_w18, tl1_w18, f1_w18, rfl, rfl, ht1_w18⟩ := zh
              refine k_pc (pc' := 166) (st' := []) rfl rfl ?_
              refine k_view (V1 := gv_up (gv_up (gv_up (gv_up (gv_up V o (.inr (4, [.ref oc, .int (nI n1_w18), .int tl1_w18, .int (nI nt)]))) av (.inl (cI, 30, .inl vl1_w18))) ky (.inl (cI, 80, .inl kf1_w18))) pl (.inl (cI, 80, .inl pf1_w18))) oc (.inl (cI, 486, .inl f1_w18))) ((gv_uc (Ne.symm ne15)).trans (congrArg (fun W => gv_up W oc (.inl (cI, 486, .inl f1_w18))) ((gv_uc (Ne.symm ne17)).trans (congrArg (fun W => gv_up W pl (.inl (cI, 80, .inl pf1_w18))) ((gv_uc (Ne.symm ne16)).trans (congrArg (fun W => gv_up W ky (.inl (cI, 80, .inl kf1_w18))) ((gv_uc (Ne.symm ne12)).trans (congrArg (fun W => gv_up W av (.inl (cI, 30, .inl vl1_w18))) gv_uu)))))))) ?_
              refine k_view (V1 := gv_up (gv_up (gv_up (gv_up (gv_up V av (.inl (cI, 30, .inl vl1_w18))) o (.inr (4, [.ref oc, .int (nI n1_w18), .int tl1_w18, .int (nI nt)]))) ky (.inl (cI, 80, .inl kf1_w18))) pl (.inl (cI, 80, .inl pf1_w18))) oc (.inl (cI, 486, .inl f1_w18))) (congrArg (fun W => gv_up W oc (.inl (cI, 486, .inl f1_w18))) (congrArg (fun W => gv_up W pl (.inl (cI, 80, .inl pf1_w18))) (congrArg (fun W => gv_up W ky (.inl (cI, 80, .inl kf1_w18))) (gv_uc ne12)))) ?_
              refine k_view (V1 := gv_up (gv_up (gv_up (gv_up (gv_up V av (.inl (cI, 30, .inl vl1_w18))) ky (.inl (cI, 80, .inl kf1_w18))) o (.inr (4, [.ref oc, .int (nI n1_w18), .int tl1_w18, .int (nI nt)]))) pl (.inl (cI, 80, .inl pf1_w18))) oc (.inl (cI, 486, .inl f1_w18))) (congrArg (fun W => gv_up W oc (.inl (cI, 486, .inl f1_w18))) (congrArg (fun W => gv_up W pl (.inl (cI, 80, .inl pf1_w18))) (gv_uc ne16))) ?_
              refine k_view (V1 := gv_up (gv_up (gv_up (gv_up (gv_up V av (.inl (cI, 30, .inl vl1_w18))) ky (.inl (cI, 80, .inl kf1_w18))) pl (.inl (cI, 80, .inl pf1_w18))) o (.inr (4, [.ref oc, .int (nI n1_w18), .int tl1_w18, .int (nI nt)]))) oc (.inl (cI, 486, .inl f1_w18))) (congrArg (fun W => gv_up W oc (.inl (cI, 486, .inl f1_w18))) (gv_uc ne17)) ?_
              refine k_view (V1 := gv_up (gv_up (gv_up (gv_up (gv_up V av (.inl (cI, 30, .inl vl1_w18))) ky (.inl (cI, 80, .inl kf1_w18))) pl (.inl (cI, 80, .inl pf1_w18))) oc (.inl (cI, 486, .inl f1_w18))) o (.inr (4, [.ref oc, .int (nI n1_w18), .int tl1_w18, .int (nI nt)]))) (gv_uc ne15) ?_
              exact k_vret C zr zlk ⟨vl1_w18, kf1_w18, pf1_w18, n1_w18, tl1_w18, f1_w18, rfl, rfl, ht1_w18⟩ (Nat.le_refl _) (Nat.le_refl _) dX1_refresh_166
            · skip
              rcases SB with _ | B
              · skip
                have ne19 : nq xe o := gv_ne h_o h_xe (by simp)
                have ne20 : nq ak o := gv_ne h_o h_ak (by simp)
                have ne21 : nq af o := gv_ne h_o h_af (by simp)
                have ne22 : nq as o := gv_ne h_o h_as (by simp)
                have ne23 : nq ap o := gv_ne h_o h_ap (by simp)
                have ne24 : nq av o := gv_ne h_o h_av (by simp)
                have ne25 : nq c o := gv_ne h_o h_c (by simp)
                have ne26 : nq c2 o := gv_ne h_o h_c2 (by simp)
                have ne27 : nq oc o := gv_ne h_o h_oc (by simp)
                have ne28 : nq ky o := gv_ne h_o h_ky (by simp)
                have ne29 : nq pl o := gv_ne h_o h_pl (by simp)
                refine k_callV C mv_1_105 (c_overL2  ((gv_up_n ne1).trans h_mo) ((gv_up_n ne5).trans h_no) ((gv_up_n ne19).trans h_xe) ((gv_up_n ne20).trans h_ak) ((gv_up_n ne21).trans h_af) ((gv_up_n ne22).trans h_as) ((gv_up_n ne23).trans h_ap) ((gv_up_n ne24).trans h_av) ((gv_up_n (Ne.symm hoa)).trans h_a) ((gv_up_n ne25).trans h_c) ((gv_up_n (Ne.symm hob)).trans h_b) ((gv_up_n ne26).trans h_c2) gv_up_s ((gv_up_n ne27).trans h_oc) ((gv_up_n ne28).trans h_ky) ((gv_up_n ne29).trans h_pl) (Or.inr hSb) (by first | assumption | omega) hoa hca hob hcb hky) ((gv_up_n ne1).trans h_mo) rfl rfl (by simp [Value.category]) ⟨by decide, by decide⟩ ⟨(by decide), (by decide)⟩ dX1_refresh_163 (fun zv zV zh => ?_)
                obtain ⟨vl1_w30, kf1_w30, pf1_w30, n1_w30, tl1_w30, f1_w30, rfl, rfl, ht1_w30⟩ := zh
                refine k_pc (pc' := 166) (st' := []) rfl rfl ?_
                refine k_view (V1 := gv_up (gv_up (gv_up (gv_up (gv_up V o (.inr (4, [.ref oc, .int (nI n1_w30), .int tl1_w30, .int (nI nt)]))) av (.inl (cI, 30, .inl vl1_w30))) ky (.inl (cI, 80, .inl kf1_w30))) pl (.inl (cI, 80, .inl pf1_w30))) oc (.inl (cI, 486, .inl f1_w30))) ((gv_uc (Ne.symm ne27)).trans (congrArg (fun W => gv_up W oc (.inl (cI, 486, .inl f1_w30))) ((gv_uc (Ne.symm ne29)).trans (congrArg (fun W => gv_up W pl (.inl (cI, 80, .inl pf1_w30))) ((gv_uc (Ne.symm ne28)).trans (congrArg (fun W => gv_up W ky (.inl (cI, 80, .inl kf1_w30))) ((gv_uc (Ne.symm ne24)).trans (congrArg (fun W => gv_up W av (.inl (cI, 30, .inl vl1_w30))) gv_uu)))))))) ?_
                refine k_view (V1 := gv_up (gv_up (gv_up (gv_up (gv_up V av (.inl (cI, 30, .inl vl1_w30))) o (.inr (4, [.ref oc, .int (nI n1_w30), .int tl1_w30, .int (nI nt)]))) ky (.inl (cI, 80, .inl kf1_w30))) pl (.inl (cI, 80, .inl pf1_w30))) oc (.inl (cI, 486, .inl f1_w30))) (congrArg (fun W => gv_up W oc (.inl (cI, 486, .inl f1_w30))) (congrArg (fun W => gv_up W pl (.inl (cI, 80, .inl pf1_w30))) (congrArg (fun W => gv_up W ky (.inl (cI, 80, .inl kf1_w30))) (gv_uc ne24)))) ?_
                refine k_view (V1 := gv_up (gv_up (gv_up (gv_up (gv_up V av (.inl (cI, 30, .inl vl1_w30))) ky (.inl (cI, 80, .inl kf1_w30))) o (.inr (4, [.ref oc, .int (nI n1_w30), .int tl1_w30, .int (nI nt)]))) pl (.inl (cI, 80, .inl pf1_w30))) oc (.inl (cI, 486, .inl f1_w30))) (congrArg (fun W => gv_up W oc (.inl (cI, 486, .inl f1_w30))) (congrArg (fun W => gv_up W pl (.inl (cI, 80, .inl pf1_w30))) (gv_uc ne28))) ?_
                refine k_view (V1 := gv_up (gv_up (gv_up (gv_up (gv_up V av (.inl (cI, 30, .inl vl1_w30))) ky (.inl (cI, 80, .inl kf1_w30))) pl (.inl (cI, 80, .inl pf1_w30))) o (.inr (4, [.ref oc, .int (nI n1_w30), .int tl1_w30, .int (nI nt)]))) oc (.inl (cI, 486, .inl f1_w30))) (congrArg (fun W => gv_up W oc (.inl (cI, 486, .inl f1_w30))) (gv_uc ne29)) ?_
                refine k_view (V1 := gv_up (gv_up (gv_up (gv_up (gv_up V av (.inl (cI, 30, .inl vl1_w30))) ky (.inl (cI, 80, .inl kf1_w30))) pl (.inl (cI, 80, .inl pf1_w30))) oc (.inl (cI, 486, .inl f1_w30))) o (.inr (4, [.ref oc, .int (nI n1_w30), .int tl1_w30, .int (nI nt)]))) (gv_uc ne27) ?_
                exact k_vret C zr zlk ⟨vl1_w30, kf1_w30, pf1_w30, n1_w30, tl1_w30, f1_w30, rfl, rfl, ht1_w30⟩ (Nat.le_refl _) (Nat.le_refl _) dX1_refresh_166
              · skip
                have ne31 : nq xe o := gv_ne h_o h_xe (by simp)
                have ne32 : nq ak o := gv_ne h_o h_ak (by simp)
                have ne33 : nq af o := gv_ne h_o h_af (by simp)
                have ne34 : nq as o := gv_ne h_o h_as (by simp)
                have ne35 : nq ap o := gv_ne h_o h_ap (by simp)
                have ne36 : nq av o := gv_ne h_o h_av (by simp)
                have ne37 : nq c o := gv_ne h_o h_c (by simp)
                have ne38 : nq c2 o := gv_ne h_o h_c2 (by simp)
                have ne39 : nq oc o := gv_ne h_o h_oc (by simp)
                have ne40 : nq ky o := gv_ne h_o h_ky (by simp)
                have ne41 : nq pl o := gv_ne h_o h_pl (by simp)
                refine k_callV C mv_1_105 (c_over4E  ((gv_up_n ne1).trans h_mo) ((gv_up_n ne5).trans h_no) ((gv_up_n ne31).trans h_xe) ((gv_up_n ne32).trans h_ak) ((gv_up_n ne33).trans h_af) ((gv_up_n ne34).trans h_as) ((gv_up_n ne35).trans h_ap) ((gv_up_n ne36).trans h_av) ((gv_up_n (Ne.symm hoa)).trans h_a) ((gv_up_n ne37).trans h_c) ((gv_up_n (Ne.symm hob)).trans h_b) ((gv_up_n ne38).trans h_c2) gv_up_s ((gv_up_n ne39).trans h_oc) ((gv_up_n ne40).trans h_ky) ((gv_up_n ne41).trans h_pl) (by first | assumption | omega) (by first | assumption | omega) hSa.2 hoa hca hSb.2 hob hcb hSa.1 hSb.1 hky (by first | assumption | omega)) ((gv_up_n ne1).trans h_mo) rfl rfl (by simp [Value.category]) ⟨by decide, by decide⟩ ⟨(by decide), (by decide)⟩ dX1_refresh_163 (fun zv zV zh => ?_)
                obtain ⟨vl1_w42, kf1_w42, pf1_w42, n1_w42, tl1_w42, f1_w42, rfl, rfl, ht1_w42⟩ := zh
                refine k_pc (pc' := 166) (st' := []) rfl rfl ?_
                refine k_view (V1 := gv_up (gv_up (gv_up (gv_up (gv_up V o (.inr (4, [.ref oc, .int (nI n1_w42), .int tl1_w42, .int (nI nt)]))) av (.inl (cI, 30, .inl vl1_w42))) ky (.inl (cI, 80, .inl kf1_w42))) pl (.inl (cI, 80, .inl pf1_w42))) oc (.inl (cI, 486, .inl f1_w42))) ((gv_uc (Ne.symm ne39)).trans (congrArg (fun W => gv_up W oc (.inl (cI, 486, .inl f1_w42))) ((gv_uc (Ne.symm ne41)).trans (congrArg (fun W => gv_up W pl (.inl (cI, 80, .inl pf1_w42))) ((gv_uc (Ne.symm ne40)).trans (congrArg (fun W => gv_up W ky (.inl (cI, 80, .inl kf1_w42))) ((gv_uc (Ne.symm ne36)).trans (congrArg (fun W => gv_up W av (.inl (cI, 30, .inl vl1_w42))) gv_uu)))))))) ?_
                refine k_view (V1 := gv_up (gv_up (gv_up (gv_up (gv_up V av (.inl (cI, 30, .inl vl1_w42))) o (.inr (4, [.ref oc, .int (nI n1_w42), .int tl1_w42, .int (nI nt)]))) ky (.inl (cI, 80, .inl kf1_w42))) pl (.inl (cI, 80, .inl pf1_w42))) oc (.inl (cI, 486, .inl f1_w42))) (congrArg (fun W => gv_up W oc (.inl (cI, 486, .inl f1_w42))) (congrArg (fun W => gv_up W pl (.inl (cI, 80, .inl pf1_w42))) (congrArg (fun W => gv_up W ky (.inl (cI, 80, .inl kf1_w42))) (gv_uc ne36)))) ?_
                refine k_view (V1 := gv_up (gv_up (gv_up (gv_up (gv_up V av (.inl (cI, 30, .inl vl1_w42))) ky (.inl (cI, 80, .inl kf1_w42))) o (.inr (4, [.ref oc, .int (nI n1_w42), .int tl1_w42, .int (nI nt)]))) pl (.inl (cI, 80, .inl pf1_w42))) oc (.inl (cI, 486, .inl f1_w42))) (congrArg (fun W => gv_up W oc (.inl (cI, 486, .inl f1_w42))) (congrArg (fun W => gv_up W pl (.inl (cI, 80, .inl pf1_w42))) (gv_uc ne40))) ?_
                refine k_view (V1 := gv_up (gv_up (gv_up (gv_up (gv_up V av (.inl (cI, 30, .inl vl1_w42))) ky (.inl (cI, 80, .inl kf1_w42))) pl (.inl (cI, 80, .inl pf1_w42))) o (.inr (4, [.ref oc, .int (nI n1_w42), .int tl1_w42, .int (nI nt)]))) oc (.inl (cI, 486, .inl f1_w42))) (congrArg (fun W => gv_up W oc (.inl (cI, 486, .inl f1_w42))) (gv_uc ne41)) ?_
                refine k_view (V1 := gv_up (gv_up (gv_up (gv_up (gv_up V av (.inl (cI, 30, .inl vl1_w42))) ky (.inl (cI, 80, .inl kf1_w42))) pl (.inl (cI, 80, .inl pf1_w42))) oc (.inl (cI, 486, .inl f1_w42))) o (.inr (4, [.ref oc, .int (nI n1_w42), .int tl1_w42, .int (nI nt)]))) (gv_uc ne39) ?_
                exact k_vret C zr zlk ⟨vl1_w42, kf1_w42, pf1_w42, n1_w42, tl1_w42, f1_w42, rfl, rfl, ht1_w42⟩ (Nat.le_refl _) (Nat.le_refl _) dX1_refresh_166
          · skip
            exact absurd c113 (nI_n1 (by omega))
        · skip
          exact absurd c94 (by decide)
      · skip
        exact absurd c73 (by decide)
    · skip
      exact absurd c54 (by decide)
  · skip
    exact absurd c18 hst
