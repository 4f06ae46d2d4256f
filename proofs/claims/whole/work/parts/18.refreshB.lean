set_option maxHeartbeats 4000000 in
set_option maxRecDepth 100000 in
theorem c_ref0N {zl : Launch} {D : va_G} {cI cN cR : ClassId} {base : Nat} {V : gv_V} {mo tr nd tb wg ky pl : Nat} {tga tsa tpa tqa nt : Nat} {tg ts tp tq : Nat → Int32} {nl nn : Nat} {nf : Nat → Option Nat} {no : Nat} {ps pp po ex va st fr ln dn ag gr : Int32} {xe ak af as ap av ne : Nat} {kd fs sc pt vl : Nat → Int32} {kf pf : Nat → Int32} {tf : Nat → Option Nat} {i g : Nat} {E : Nat → Ex} {T : List Tr}  (h_mo : V mo = some (.inr (1, [.ref tr, .ref xe, .ref nd, .ref tb, .ref wg, .ref ky, .ref pl]))) (h_tr : V tr = some (.inr (5, [.ref tga, .ref tsa, .ref tpa, .ref tqa, .int (nI nt)]))) (h_tga : V tga = some (.inl (cI, 60, .inl tg))) (h_tsa : V tsa = some (.inl (cI, 60, .inl ts))) (h_tpa : V tpa = some (.inl (cI, 60, .inl tp))) (h_tqa : V tqa = some (.inl (cI, 60, .inl tq))) (h_nd : V nd = some (.inr (3, [.ref nl, .int (nI nn)]))) (h_nl : V nl = some (.inl (cN, 30, .inr (.inr (.inr (.inr nf)))))) (h_no : V no = some (.inr (2, [.int (nI 0), .int (-1 : Int32), .int (-1 : Int32), .int ps, .int pp, .int po, .int ex, .int va, .int st, .int fr, .int ln, .int dn, .int ag, .int gr]))) (h_xe : V xe = some (.inr (0, [.ref ak, .ref af, .ref as, .ref ap, .ref av, .int (nI ne)]))) (h_ak : V ak = some (.inl (cI, 30, .inl kd))) (h_af : V af = some (.inl (cI, 30, .inl fs))) (h_as : V as = some (.inl (cI, 30, .inl sc))) (h_ap : V ap = some (.inl (cI, 30, .inl pt))) (h_av : V av = some (.inl (cI, 30, .inl vl))) (h_ky : V ky = some (.inl (cI, 80, .inl kf))) (h_pl : V pl = some (.inl (cI, 80, .inl pf))) (h_tb : V tb = some (.inl (cR, 120, .inr (.inr (.inr (.inr tf)))))) (hX : ExR E ne kd fs sc pt) (hd : [ak, af, as, ap, av].Nodup) (hi : i < 30) (hg : g < 4) (hnf : nf i = some no) (hky : nq ky pl) (hnt : nt ≤ 60) (ht : tf (i * 4 + g) = none) (hT : TrR T nt tg ts tp tq) (hps : plc ps = true) (hpp : plc pp = true) (hpo : plc po = true) : ct zl D [(cI, .int), (cN, .object "AlgebraTree$Node"), (cR, .object "AlgebraTree$Rows")] base yX1_refresh cX1_refresh 6 none 5 2 490 [.ref mo, .int (nI i), .int (nI g)] V (fun zv zV => ∃ t : Nat, ∃ q : Nat, ∃ vl1 : Nat → Int32, ∃ kf1 : Nat → Int32, ∃ pf1 : Nat → Int32, ∃ n1 : Nat, ∃ tl1 : Int32, ∃ f1 : Nat → Int32, zv = none ∧ zV = gv_up (gv_up (gv_up (gv_up (gv_up (gv_up V av (.inl (cI, 30, .inl vl1))) ky (.inl (cI, 80, .inl kf1))) pl (.inl (cI, 80, .inl pf1))) q (.inl (cI, 486, .inl f1))) t (.inr (4, [.ref q, .int (nI n1), .int tl1, .int (nI nt)]))) tb (.inl (cR, 120, .inr (.inr (.inr (.inr (va_up tf (i * 4 + g) (some t))))))) ∧ (V t = none) ∧ (V q = none) ∧ (nq t q) ∧ (TRep (cap (patL T (nI g) ps pp po)) n1 tl1 f1)) := by
  refine ct_of "AlgebraTree$Maker" rfl (by decide) (Nat.le_of_ble_eq_true rfl) ?_
  intro zp ze zs zm zargs zbelow zmeth zc C zr zlk znm
  refine k_pc (pc' := 0) (st' := []) rfl rfl ?_
  show K zp zl ze (gv_rm 5 2 490) zs zm zargs zbelow zmeth zc D base 6 (gv_E D [(cI, .int), (cN, .object "AlgebraTree$Node"), (cR, .object "AlgebraTree$Rows")] base zbelow zargs zs 2 490 (fun zv zV => ∃ t : Nat, ∃ q : Nat, ∃ vl1 : Nat → Int32, ∃ kf1 : Nat → Int32, ∃ pf1 : Nat → Int32, ∃ n1 : Nat, ∃ tl1 : Int32, ∃ f1 : Nat → Int32, zv = none ∧ zV = gv_up (gv_up (gv_up (gv_up (gv_up (gv_up V av (.inl (cI, 30, .inl vl1))) ky (.inl (cI, 80, .inl kf1))) pl (.inl (cI, 80, .inl pf1))) q (.inl (cI, 486, .inl f1))) t (.inr (4, [.ref q, .int (nI n1), .int tl1, .int (nI nt)]))) tb (.inl (cR, 120, .inr (.inr (.inr (.inr (va_up tf (i * 4 + g) (some t))))))) ∧ (V t = none) ∧ (V q = none) ∧ (nq t q) ∧ (TRep (cap (patL T (nI g) ps pp po)) n1 tl1 f1))) V 0 0 [(0, .ref mo), (1, .int (nI i)), (2, .int (nI g))] 0 []
  refine k_aload_n C dX1_refresh_0 rfl 0 rfl ?_
  refine k_iload_n C dX1_refresh_1 rfl 1 rfl ?_
  refine k_iload_n C dX1_refresh_2 rfl 2 rfl ?_
  refine k_callV C mv_1_56 (c_tableOfN  h_mo h_tb (by first | assumption | omega) (by first | assumption | omega) (by first | assumption | omega)) h_mo rfl rfl (by simp [Value.category]) ⟨by decide, by decide⟩ ⟨(by decide), (by decide)⟩ dX1_refresh_3 (fun zv zV zh => ?_)
  obtain ⟨t_w1, q_w1, rfl, rfl, ht1_w1, hq_w1, htq_w1⟩ := zh
  refine k_pc (pc' := 6) (st' := .ref t_w1 :: []) rfl rfl ?_
  have ne2 : nq mo t_w1 := gv_nf ht1_w1 h_mo
  have ne3 : nq tr t_w1 := gv_nf ht1_w1 h_tr
  have ne4 : nq tga t_w1 := gv_nf ht1_w1 h_tga
  have ne5 : nq tsa t_w1 := gv_nf ht1_w1 h_tsa
  have ne6 : nq tpa t_w1 := gv_nf ht1_w1 h_tpa
  have ne7 : nq tqa t_w1 := gv_nf ht1_w1 h_tqa
  have ne8 : nq nd t_w1 := gv_nf ht1_w1 h_nd
  have ne9 : nq nl t_w1 := gv_nf ht1_w1 h_nl
  have ne10 : nq no t_w1 := gv_nf ht1_w1 h_no
  have ne11 : nq xe t_w1 := gv_nf ht1_w1 h_xe
  have ne12 : nq ak t_w1 := gv_nf ht1_w1 h_ak
  have ne13 : nq af t_w1 := gv_nf ht1_w1 h_af
  have ne14 : nq as t_w1 := gv_nf ht1_w1 h_as
  have ne15 : nq ap t_w1 := gv_nf ht1_w1 h_ap
  have ne16 : nq av t_w1 := gv_nf ht1_w1 h_av
  have ne17 : nq ky t_w1 := gv_nf ht1_w1 h_ky
  have ne18 : nq pl t_w1 := gv_nf ht1_w1 h_pl
  have ne19 : nq tb t_w1 := gv_nf ht1_w1 h_tb
  have ne20 : nq mo q_w1 := gv_nf hq_w1 h_mo
  have ne21 : nq tr q_w1 := gv_nf hq_w1 h_tr
  have ne22 : nq tga q_w1 := gv_nf hq_w1 h_tga
  have ne23 : nq tsa q_w1 := gv_nf hq_w1 h_tsa
  have ne24 : nq tpa q_w1 := gv_nf hq_w1 h_tpa
  have ne25 : nq tqa q_w1 := gv_nf hq_w1 h_tqa
  have ne26 : nq nd q_w1 := gv_nf hq_w1 h_nd
  have ne27 : nq nl q_w1 := gv_nf hq_w1 h_nl
  have ne28 : nq no q_w1 := gv_nf hq_w1 h_no
  have ne29 : nq xe q_w1 := gv_nf hq_w1 h_xe
  have ne30 : nq ak q_w1 := gv_nf hq_w1 h_ak
  have ne31 : nq af q_w1 := gv_nf hq_w1 h_af
  have ne32 : nq as q_w1 := gv_nf hq_w1 h_as
  have ne33 : nq ap q_w1 := gv_nf hq_w1 h_ap
  have ne34 : nq av q_w1 := gv_nf hq_w1 h_av
  have ne35 : nq ky q_w1 := gv_nf hq_w1 h_ky
  have ne36 : nq pl q_w1 := gv_nf hq_w1 h_pl
  have ne37 : nq tb q_w1 := gv_nf hq_w1 h_tb
  refine k_astore_n (lv' := [(3, .ref t_w1), (0, .ref mo), (1, .int (nI i)), (2, .int (nI g))]) C dX1_refresh_6 rfl (by decide) rfl ?_
  refine k_aload_n C dX1_refresh_7 rfl 0 rfl ?_
  refine k_get (ci := 4) (k := 3) C fl_1_84 ((gv_up_n (Ne.symm ne19)).trans ((gv_up_n htq_w1).trans gv_up_s)) rfl dX1_refresh_8 ?_
  refine k_aload_n C dX1_refresh_11 rfl 1 rfl ?_
  have ne38 : nq mo tb := gv_ne h_tb h_mo (by simp)
  refine k_get (ci := 1) (k := 0) C fl_1_12 ((gv_up_n ne38).trans ((gv_up_n ne20).trans ((gv_up_n ne2).trans h_mo))) rfl dX1_refresh_12 ?_
  have ne39 : nq tr tb := gv_ne h_tb h_tr (by simp)
  refine k_get (ci := 5) (k := 4) C fl_1_87 ((gv_up_n ne39).trans ((gv_up_n ne21).trans ((gv_up_n ne3).trans h_tr))) rfl dX1_refresh_15 ?_
  refine k_icmp_ne (tgt := 22) C dX1_refresh_18 (by decide) (fun c18 => ?_) (fun c18 => ?_)
  · skip
    refine k_aload_n C dX1_refresh_22 rfl 0 rfl ?_
    refine k_callV_pv C mv_1_90 (c_X4_clear  ((gv_up_n (Ne.symm ne19)).trans ((gv_up_n htq_w1).trans gv_up_s)) ((gv_up_n (Ne.symm ne37)).trans gv_up_s) ) ((gv_up_n (Ne.symm ne19)).trans ((gv_up_n htq_w1).trans gv_up_s)) rfl rfl (by simp [Value.category]) ⟨by decide, by decide⟩ ⟨(by decide), (by decide)⟩ dX1_refresh_23 ?_
    refine k_view (V1 := gv_up (gv_up (gv_up V t_w1 (.inr (4, [.ref q_w1, .int (nI 0), .int (nI 0), .int (-1 : Int32)]))) q_w1 (.inl (cI, 486, .inl (fun _ => 0)))) tb (.inl (cR, 120, .inr (.inr (.inr (.inr (va_up tf (i * 4 + g) (some t_w1)))))))) ((gv_uc (Ne.symm ne19)).trans (congrArg (fun W => gv_up W tb (.inl (cR, 120, .inr (.inr (.inr (.inr (va_up tf (i * 4 + g) (some t_w1)))))))) ((gv_uc htq_w1).trans (congrArg (fun W => gv_up W q_w1 (.inl (cI, 486, .inl (fun _ => 0)))) gv_uu)))) ?_
    refine k_aload_n C dX1_refresh_26 rfl 0 rfl ?_
    refine k_aload_n C dX1_refresh_27 rfl 1 rfl ?_
    refine k_get (ci := 1) (k := 0) C fl_1_12 ((gv_up_n ne38).trans ((gv_up_n ne20).trans ((gv_up_n ne2).trans h_mo))) rfl dX1_refresh_28 ?_
    refine k_get (ci := 5) (k := 4) C fl_1_87 ((gv_up_n ne39).trans ((gv_up_n ne21).trans ((gv_up_n ne3).trans h_tr))) rfl dX1_refresh_31 ?_
    refine k_put (ci := 4) (k := 3) (fs' := [.ref q_w1, .int (nI 0), .int (nI 0), .int (nI nt)]) C fl_1_84 pf_4_3 ((gv_up_n (Ne.symm ne19)).trans ((gv_up_n htq_w1).trans gv_up_s)) rfl rfl (Nat.le_of_ble_eq_true rfl) rfl dX1_refresh_34 ?_
    refine k_view (V1 := gv_up (gv_up (gv_up V t_w1 (.inr (4, [.ref q_w1, .int (nI 0), .int (nI 0), .int (nI nt)]))) q_w1 (.inl (cI, 486, .inl (fun _ => 0)))) tb (.inl (cR, 120, .inr (.inr (.inr (.inr (va_up tf (i * 4 + g) (some t_w1)))))))) ((gv_uc (Ne.symm ne19)).trans (congrArg (fun W => gv_up W tb (.inl (cR, 120, .inr (.inr (.inr (.inr (va_up tf (i * 4 + g) (some t_w1)))))))) ((gv_uc htq_w1).trans (congrArg (fun W => gv_up W q_w1 (.inl (cI, 486, .inl (fun _ => 0)))) gv_uu)))) ?_
    refine k_aload_n C dX1_refresh_37 rfl 1 rfl ?_
    refine k_get (ci := 1) (k := 2) C fl_1_28 ((gv_up_n ne38).trans ((gv_up_n ne20).trans ((gv_up_n ne2).trans h_mo))) rfl dX1_refresh_38 ?_
    refine k_iload_n C dX1_refresh_41 rfl 2 rfl ?_
    have ne40 : nq nd tb := gv_ne h_tb h_nd (by simp)
    have ne41 : nq nl tb := gv_ne h_tb h_nl (by simp)
    refine k_callV_pr C mv_1_60 (c_X3_at  ((gv_up_n ne40).trans ((gv_up_n ne26).trans ((gv_up_n ne8).trans h_nd))) ((gv_up_n ne41).trans ((gv_up_n ne27).trans ((gv_up_n ne9).trans h_nl))) (by first | assumption | omega) hnf) ((gv_up_n ne40).trans ((gv_up_n ne26).trans ((gv_up_n ne8).trans h_nd))) rfl rfl (by simp [Value.category]) ⟨by decide, by decide⟩ ⟨(by decide), (by decide)⟩ dX1_refresh_42 ?_
    refine k_astore (lv' := [(4, .ref no), (3, .ref t_w1), (0, .ref mo), (1, .int (nI i)), (2, .int (nI g))]) C dX1_refresh_45 (by decide) rfl ?_
    refine k_aload C dX1_refresh_47 0 rfl ?_
    have ne42 : nq no tb := gv_ne h_tb h_no (by simp)
    refine k_get (ci := 2) (k := 0) C fl_1_77 ((gv_up_n ne42).trans ((gv_up_n ne28).trans ((gv_up_n ne10).trans h_no))) rfl dX1_refresh_49 ?_
    refine k_bipush (v := nI 12) C dX1_refresh_52 rfl ?_
    refine k_icmp_ne (tgt := 65) C dX1_refresh_54 (by decide) (fun c54 => ?_) (fun c54 => ?_)
    · skip
      have b54 : ¬ 0 = 12 := fun z => c54 ((nI_eq (a := 0) (b := 12) (by omega) (by omega)).mpr z)
      refine k_iload_n C dX1_refresh_65 rfl 4 rfl ?_
      refine k_istore (lv' := [(5, .int (nI g)), (4, .ref no), (3, .ref t_w1), (0, .ref mo), (1, .int (nI i)), (2, .int (nI g))]) C dX1_refresh_66 (by decide) rfl ?_
      refine k_aload C dX1_refresh_68 1 rfl ?_
      refine k_get (ci := 2) (k := 0) C fl_1_77 ((gv_up_n ne42).trans ((gv_up_n ne28).trans ((gv_up_n ne10).trans h_no))) rfl dX1_refresh_70 ?_
      refine k_if_ne (tgt := 87) C dX1_refresh_73 (by decide) (fun c73 => ?_) (fun c73 => ?_)
      · skip
        exact absurd rfl c73
      · skip
        have b73 : 0 = 0 := (nI_eq (a := 0) (b := 0) (by omega) (by omega)).mp c73
        refine k_aload_n C dX1_refresh_76 rfl 3 rfl ?_
        refine k_aload C dX1_refresh_77 1 rfl ?_
        refine k_iload_n C dX1_refresh_79 rfl 5 rfl ?_
        refine k_aload_n C dX1_refresh_80 rfl 2 rfl ?_
        have ne43 : nq tga tb := gv_ne h_tb h_tga (by simp)
        have ne44 : nq tsa tb := gv_ne h_tb h_tsa (by simp)
        have ne45 : nq tpa tb := gv_ne h_tb h_tpa (by simp)
        have ne46 : nq tqa tb := gv_ne h_tb h_tqa (by simp)
        refine k_callV C mv_1_93 (c_X1_makePattern  ((gv_up_n ne38).trans ((gv_up_n ne20).trans ((gv_up_n ne2).trans h_mo))) ((gv_up_n ne42).trans ((gv_up_n ne28).trans ((gv_up_n ne10).trans h_no))) ((gv_up_n ne39).trans ((gv_up_n ne21).trans ((gv_up_n ne3).trans h_tr))) ((gv_up_n ne43).trans ((gv_up_n ne22).trans ((gv_up_n ne4).trans h_tga))) ((gv_up_n ne44).trans ((gv_up_n ne23).trans ((gv_up_n ne5).trans h_tsa))) ((gv_up_n ne45).trans ((gv_up_n ne24).trans ((gv_up_n ne6).trans h_tpa))) ((gv_up_n ne46).trans ((gv_up_n ne25).trans ((gv_up_n ne7).trans h_tqa))) ((gv_up_n (Ne.symm ne19)).trans ((gv_up_n htq_w1).trans gv_up_s)) ((gv_up_n (Ne.symm ne37)).trans gv_up_s) (by first | assumption | omega) (by first | assumption | omega) (by first | assumption | omega) (by first | assumption | omega)) ((gv_up_n ne38).trans ((gv_up_n ne20).trans ((gv_up_n ne2).trans h_mo))) rfl rfl (by simp [Value.category]) ⟨by decide, by decide⟩ ⟨(by decide), (by decide)⟩ dX1_refresh_81 (fun zv zV zh => ?_)
        obtain ⟨n1_w47, tl1_w47, f1_w47, rfl, rfl, hr1_w47⟩ := zh
        refine k_pc (pc' := 84) (st' := []) rfl rfl ?_
        refine k_view (V1 := gv_up (gv_up (gv_up (gv_up V t_w1 (.inr (4, [.ref q_w1, .int (nI 0), .int (nI 0), .int (nI nt)]))) q_w1 (.inl (cI, 486, .inl f1_w47))) tb (.inl (cR, 120, .inr (.inr (.inr (.inr (va_up tf (i * 4 + g) (some t_w1)))))))) t_w1 (.inr (4, [.ref q_w1, .int (nI n1_w47), .int tl1_w47, .int (nI nt)]))) (congrArg (fun W => gv_up W t_w1 (.inr (4, [.ref q_w1, .int (nI n1_w47), .int tl1_w47, .int (nI nt)]))) ((gv_uc (Ne.symm ne37)).trans (congrArg (fun W => gv_up W tb (.inl (cR, 120, .inr (.inr (.inr (.inr (va_up tf (i * 4 + g) (some t_w1)))))))) gv_uu))) ?_
        refine k_view (V1 := gv_up (gv_up (gv_up V t_w1 (.inr (4, [.ref q_w1, .int (nI n1_w47), .int tl1_w47, .int (nI nt)]))) q_w1 (.inl (cI, 486, .inl f1_w47))) tb (.inl (cR, 120, .inr (.inr (.inr (.inr (va_up tf (i * 4 + g) (some t_w1)))))))) ((gv_uc (Ne.symm ne19)).trans (congrArg (fun W => gv_up W tb (.inl (cR, 120, .inr (.inr (.inr (.inr (va_up tf (i * 4 + g) (some t_w1)))))))) ((gv_uc htq_w1).trans (congrArg (fun W => gv_up W q_w1 (.inl (cI, 486, .inl f1_w47))) gv_uu)))) ?_
        refine k_goto (tgt := 166) C dX1_refresh_84 (by decide) ?_
        have ne48 : nq av tb := gv_ne h_tb h_av (by simp)
        refine k_view (V1 := gv_up (gv_up (gv_up (gv_up V t_w1 (.inr (4, [.ref q_w1, .int (nI n1_w47), .int tl1_w47, .int (nI nt)]))) q_w1 (.inl (cI, 486, .inl f1_w47))) tb (.inl (cR, 120, .inr (.inr (.inr (.inr (va_up tf (i * 4 + g) (some t_w1)))))))) av (.inl (cI, 30, .inl vl))) (gv_id ((gv_up_n ne48).trans ((gv_up_n ne34).trans ((gv_up_n ne16).trans h_av)))).symm ?_
        have ne49 : nq ky tb := gv_ne h_tb h_ky (by simp)
        have ne50 : nq ky av := gv_ne h_av h_ky (by simp)
        refine k_view (V1 := gv_up (gv_up (gv_up (gv_up (gv_up V t_w1 (.inr (4, [.ref q_w1, .int (nI n1_w47), .int tl1_w47, .int (nI nt)]))) q_w1 (.inl (cI, 486, .inl f1_w47))) tb (.inl (cR, 120, .inr (.inr (.inr (.inr (va_up tf (i * 4 + g) (some t_w1)))))))) av (.inl (cI, 30, .inl vl))) ky (.inl (cI, 80, .inl kf))) (gv_id ((gv_up_n ne50).trans ((gv_up_n ne49).trans ((gv_up_n ne35).trans ((gv_up_n ne17).trans h_ky))))).symm ?_
        have ne51 : nq pl tb := gv_ne h_tb h_pl (by simp)
        have ne52 : nq pl av := gv_ne h_av h_pl (by simp)
        refine k_view (V1 := gv_up (gv_up (gv_up (gv_up (gv_up (gv_up V t_w1 (.inr (4, [.ref q_w1, .int (nI n1_w47), .int tl1_w47, .int (nI nt)]))) q_w1 (.inl (cI, 486, .inl f1_w47))) tb (.inl (cR, 120, .inr (.inr (.inr (.inr (va_up tf (i * 4 + g) (some t_w1)))))))) av (.inl (cI, 30, .inl vl))) ky (.inl (cI, 80, .inl kf))) pl (.inl (cI, 80, .inl pf))) (gv_id ((gv_up_n (Ne.symm hky)).trans ((gv_up_n ne52).trans ((gv_up_n ne51).trans ((gv_up_n ne36).trans ((gv_up_n ne18).trans h_pl)))))).symm ?_
        refine k_view (V1 := gv_up (gv_up (gv_up (gv_up (gv_up (gv_up V t_w1 (.inr (4, [.ref q_w1, .int (nI n1_w47), .int tl1_w47, .int (nI nt)]))) q_w1 (.inl (cI, 486, .inl f1_w47))) av (.inl (cI, 30, .inl vl))) tb (.inl (cR, 120, .inr (.inr (.inr (.inr (va_up tf (i * 4 + g) (some t_w1)))))))) ky (.inl (cI, 80, .inl kf))) pl (.inl (cI, 80, .inl pf))) (congrArg (fun W => gv_up W pl (.inl (cI, 80, .inl pf))) (congrArg (fun W => gv_up W ky (.inl (cI, 80, .inl kf))) (gv_uc ne48))) ?_
        refine k_view (V1 := gv_up (gv_up (gv_up (gv_up (gv_up (gv_up V t_w1 (.inr (4, [.ref q_w1, .int (nI n1_w47), .int tl1_w47, .int (nI nt)]))) av (.inl (cI, 30, .inl vl))) q_w1 (.inl (cI, 486, .inl f1_w47))) tb (.inl (cR, 120, .inr (.inr (.inr (.inr (va_up tf (i * 4 + g) (some t_w1)))))))) ky (.inl (cI, 80, .inl kf))) pl (.inl (cI, 80, .inl pf))) (congrArg (fun W => gv_up W pl (.inl (cI, 80, .inl pf))) (congrArg (fun W => gv_up W ky (.inl (cI, 80, .inl kf))) (congrArg (fun W => gv_up W tb (.inl (cR, 120, .inr (.inr (.inr (.inr (va_up tf (i * 4 + g) (some t_w1)))))))) (gv_uc ne34)))) ?_
        refine k_view (V1 := gv_up (gv_up (gv_up (gv_up (gv_up (gv_up V av (.inl (cI, 30, .inl vl))) t_w1 (.inr (4, [.ref q_w1, .int (nI n1_w47), .int tl1_w47, .int (nI nt)]))) q_w1 (.inl (cI, 486, .inl f1_w47))) tb (.inl (cR, 120, .inr (.inr (.inr (.inr (va_up tf (i * 4 + g) (some t_w1)))))))) ky (.inl (cI, 80, .inl kf))) pl (.inl (cI, 80, .inl pf))) (congrArg (fun W => gv_up W pl (.inl (cI, 80, .inl pf))) (congrArg (fun W => gv_up W ky (.inl (cI, 80, .inl kf))) (congrArg (fun W => gv_up W tb (.inl (cR, 120, .inr (.inr (.inr (.inr (va_up tf (i * 4 + g) (some t_w1)))))))) (congrArg (fun W => gv_up W q_w1 (.inl (cI, 486, .inl f1_w47))) (gv_uc ne16))))) ?_
        refine k_view (V1 := gv_up (gv_up (gv_up (gv_up (gv_up (gv_up V av (.inl (cI, 30, .inl vl))) t_w1 (.inr (4, [.ref q_w1, .int (nI n1_w47), .int tl1_w47, .int (nI nt)]))) q_w1 (.inl (cI, 486, .inl f1_w47))) ky (.inl (cI, 80, .inl kf))) tb (.inl (cR, 120, .inr (.inr (.inr (.inr (va_up tf (i * 4 + g) (some t_w1)))))))) pl (.inl (cI, 80, .inl pf))) (congrArg (fun W => gv_up W pl (.inl (cI, 80, .inl pf))) (gv_uc ne49)) ?_
        refine k_view (V1 := gv_up (gv_up (gv_up (gv_up (gv_up (gv_up V av (.inl (cI, 30, .inl vl))) t_w1 (.inr (4, [.ref q_w1, .int (nI n1_w47), .int tl1_w47, .int (nI nt)]))) ky (.inl (cI, 80, .inl kf))) q_w1 (.inl (cI, 486, .inl f1_w47))) tb (.inl (cR, 120, .inr (.inr (.inr (.inr (va_up tf (i * 4 + g) (some t_w1)))))))) pl (.inl (cI, 80, .inl pf))) (congrArg (fun W => gv_up W pl (.inl (cI, 80, .inl pf))) (congrArg (fun W => gv_up W tb (.inl (cR, 120, .inr (.inr (.inr (.inr (va_up tf (i * 4 + g) (some t_w1)))))))) (gv_uc ne35))) ?_
        refine k_view (V1 := gv_up (gv_up (gv_up (gv_up (gv_up (gv_up V av (.inl (cI, 30, .inl vl))) ky (.inl (cI, 80, .inl kf))) t_w1 (.inr (4, [.ref q_w1, .int (nI n1_w47), .int tl1_w47, .int (nI nt)]))) q_w1 (.inl (cI, 486, .inl f1_w47))) tb (.inl (cR, 120, .inr (.inr (.inr (.inr (va_up tf (i * 4 + g) (some t_w1)))))))) pl (.inl (cI, 80, .inl pf))) (congrArg (fun W => gv_up W pl (.inl (cI, 80, .inl pf))) (congrArg (fun W => gv_up W tb (.inl (cR, 120, .inr (.inr (.inr (.inr (va_up tf (i * 4 + g) (some t_w1)))))))) (congrArg (fun W => gv_up W q_w1 (.inl (cI, 486, .inl f1_w47))) (gv_uc ne17)))) ?_
        refine k_view (V1 := gv_up (gv_up (gv_up (gv_up (gv_up (gv_up V av (.inl (cI, 30, .inl vl))) ky (.inl (cI, 80, .inl kf))) t_w1 (.inr (4, [.ref q_w1, .int (nI n1_w47), .int tl1_w47, .int (nI nt)]))) q_w1 (.inl (cI, 486, .inl f1_w47))) pl (.inl (cI, 80, .inl pf))) tb (.inl (cR, 120, .inr (.inr (.inr (.inr (va_up tf (i * 4 + g) (some t_w1)))))))) (gv_uc ne51) ?_
        refine k_view (V1 := gv_up (gv_up (gv_up (gv_up (gv_up (gv_up V av (.inl (cI, 30, .inl vl))) ky (.inl (cI, 80, .inl kf))) t_w1 (.inr (4, [.ref q_w1, .int (nI n1_w47), .int tl1_w47, .int (nI nt)]))) pl (.inl (cI, 80, .inl pf))) q_w1 (.inl (cI, 486, .inl f1_w47))) tb (.inl (cR, 120, .inr (.inr (.inr (.inr (va_up tf (i * 4 + g) (some t_w1)))))))) (congrArg (fun W => gv_up W tb (.inl (cR, 120, .inr (.inr (.inr (.inr (va_up tf (i * 4 + g) (some t_w1)))))))) (gv_uc ne36)) ?_
        refine k_view (V1 := gv_up (gv_up (gv_up (gv_up (gv_up (gv_up V av (.inl (cI, 30, .inl vl))) ky (.inl (cI, 80, .inl kf))) pl (.inl (cI, 80, .inl pf))) t_w1 (.inr (4, [.ref q_w1, .int (nI n1_w47), .int tl1_w47, .int (nI nt)]))) q_w1 (.inl (cI, 486, .inl f1_w47))) tb (.inl (cR, 120, .inr (.inr (.inr (.inr (va_up tf (i * 4 + g) (some t_w1)))))))) (congrArg (fun W => gv_up W tb (.inl (cR, 120, .inr (.inr (.inr (.inr (va_up tf (i * 4 + g) (some t_w1)))))))) (congrArg (fun W => gv_up W q_w1 (.inl (cI, 486, .inl f1_w47))) (gv_uc ne18))) ?_
        refine k_view (V1 := gv_up (gv_up (gv_up (gv_up (gv_up (gv_up V av (.inl (cI, 30, .inl vl))) ky (.inl (cI, 80, .inl kf))) pl (.inl (cI, 80, .inl pf))) q_w1 (.inl (cI, 486, .inl f1_w47))) t_w1 (.inr (4, [.ref q_w1, .int (nI n1_w47), .int tl1_w47, .int (nI nt)]))) tb (.inl (cR, 120, .inr (.inr (.inr (.inr (va_up tf (i * 4 + g) (some t_w1)))))))) (congrArg (fun W => gv_up W tb (.inl (cR, 120, .inr (.inr (.inr (.inr (va_up tf (i * 4 + g) (some t_w1)))))))) (gv_uc (Ne.symm htq_w1))) ?_
        exact k_vret C zr zlk ⟨t_w1, q_w1, vl, kf, pf, n1_w47, tl1_w47, f1_w47, rfl, rfl, ht1_w1, hq_w1, htq_w1, hr1_w47.tr⟩ (Nat.le_refl _) (Nat.le_refl _) dX1_refresh_166
    · skip
      exact absurd c54 (by decide)
  · skip
    exact absurd c18.symm (nI_n1 (by omega))
set_option maxHeartbeats 4000000 in
set_option maxRecDepth 100000 in
theorem c_ref13N {zl : Launch} {D : va_G} {cI cN cR : ClassId} {base : Nat} {V : gv_V} {mo tr nd tb wg ky pl : Nat} {tga tsa tpa tqa nt : Nat} {tg ts tp tq : Nat → Int32} {nl nn : Nat} {nf : Nat → Option Nat} {no : Nat} {ps pp po ex st fr ln dn ag gr : Int32} {vv : Nat} {xe ak af as ap av ne : Nat} {kd fs sc pt vl : Nat → Int32} {kf pf : Nat → Int32} {tf : Nat → Option Nat} {i g a0 : Nat} {E : Nat → Ex} {tA cA nA : Nat → Nat} {tlA mkA : Nat → Int32} {fA : Nat → Nat → Int32} {SA : Nat → Option (List Row)}  (h_mo : V mo = some (.inr (1, [.ref tr, .ref xe, .ref nd, .ref tb, .ref wg, .ref ky, .ref pl]))) (h_tr : V tr = some (.inr (5, [.ref tga, .ref tsa, .ref tpa, .ref tqa, .int (nI nt)]))) (h_tga : V tga = some (.inl (cI, 60, .inl tg))) (h_tsa : V tsa = some (.inl (cI, 60, .inl ts))) (h_tpa : V tpa = some (.inl (cI, 60, .inl tp))) (h_tqa : V tqa = some (.inl (cI, 60, .inl tq))) (h_nd : V nd = some (.inr (3, [.ref nl, .int (nI nn)]))) (h_nl : V nl = some (.inl (cN, 30, .inr (.inr (.inr (.inr nf)))))) (h_no : V no = some (.inr (2, [.int (nI 13), .int (nI a0), .int (-1 : Int32), .int ps, .int pp, .int po, .int ex, .int (nI vv), .int st, .int fr, .int ln, .int dn, .int ag, .int gr]))) (h_xe : V xe = some (.inr (0, [.ref ak, .ref af, .ref as, .ref ap, .ref av, .int (nI ne)]))) (h_ak : V ak = some (.inl (cI, 30, .inl kd))) (h_af : V af = some (.inl (cI, 30, .inl fs))) (h_as : V as = some (.inl (cI, 30, .inl sc))) (h_ap : V ap = some (.inl (cI, 30, .inl pt))) (h_av : V av = some (.inl (cI, 30, .inl vl))) (h_ky : V ky = some (.inl (cI, 80, .inl kf))) (h_pl : V pl = some (.inl (cI, 80, .inl pf))) (h_tb : V tb = some (.inl (cR, 120, .inr (.inr (.inr (.inr tf)))))) (hX : ExR E ne kd fs sc pt) (hd : [ak, af, as, ap, av].Nodup) (hi : i < 30) (hg : g < 4) (hnf : nf i = some no) (hky : nq ky pl) (hnt : nt ≤ 60) (ht : tf (i * 4 + g) = none) (ha0 : a0 < i) (hch : ∀ z, 1 ≤ z → z < 4 → tf (a0 * 4 + z) = some (tA z) ∧ V (tA z) = some (.inr (4, [.ref (cA z), .int (nI (nA z)), .int (tlA z), .int (mkA z)])) ∧ V (cA z) = some (.inl (cI, 486, .inl (fA z))) ∧ TRep (SA z) (nA z) (tlA z) (fA z)) (hvv : vv < 6) : ct zl D [(cI, .int), (cN, .object "AlgebraTree$Node"), (cR, .object "AlgebraTree$Rows")] base yX1_refresh cX1_refresh 6 none 5 2 490 [.ref mo, .int (nI i), .int (nI g)] V (fun zv zV => ∃ t : Nat, ∃ q : Nat, ∃ vl1 : Nat → Int32, ∃ kf1 : Nat → Int32, ∃ pf1 : Nat → Int32, ∃ n1 : Nat, ∃ tl1 : Int32, ∃ f1 : Nat → Int32, zv = none ∧ zV = gv_up (gv_up (gv_up (gv_up (gv_up (gv_up V av (.inl (cI, 30, .inl vl1))) ky (.inl (cI, 80, .inl kf1))) pl (.inl (cI, 80, .inl pf1))) q (.inl (cI, 486, .inl f1))) t (.inr (4, [.ref q, .int (nI n1), .int tl1, .int (nI nt)]))) tb (.inl (cR, 120, .inr (.inr (.inr (.inr (va_up tf (i * 4 + g) (some t))))))) ∧ (V t = none) ∧ (V q = none) ∧ (nq t q) ∧ (TRep (eachS SA vv) n1 tl1 f1)) := by
  refine ct_of "AlgebraTree$Maker" rfl (by decide) (Nat.le_of_ble_eq_true rfl) ?_
  intro zp ze zs zm zargs zbelow zmeth zc C zr zlk znm
  refine k_pc (pc' := 0) (st' := []) rfl rfl ?_
  show K zp zl ze (gv_rm 5 2 490) zs zm zargs zbelow zmeth zc D base 6 (gv_E D [(cI, .int), (cN, .object "AlgebraTree$Node"), (cR, .object "AlgebraTree$Rows")] base zbelow zargs zs 2 490 (fun zv zV => ∃ t : Nat, ∃ q : Nat, ∃ vl1 : Nat → Int32, ∃ kf1 : Nat → Int32, ∃ pf1 : Nat → Int32, ∃ n1 : Nat, ∃ tl1 : Int32, ∃ f1 : Nat → Int32, zv = none ∧ zV = gv_up (gv_up (gv_up (gv_up (gv_up (gv_up V av (.inl (cI, 30, .inl vl1))) ky (.inl (cI, 80, .inl kf1))) pl (.inl (cI, 80, .inl pf1))) q (.inl (cI, 486, .inl f1))) t (.inr (4, [.ref q, .int (nI n1), .int tl1, .int (nI nt)]))) tb (.inl (cR, 120, .inr (.inr (.inr (.inr (va_up tf (i * 4 + g) (some t))))))) ∧ (V t = none) ∧ (V q = none) ∧ (nq t q) ∧ (TRep (eachS SA vv) n1 tl1 f1))) V 0 0 [(0, .ref mo), (1, .int (nI i)), (2, .int (nI g))] 0 []
  refine k_aload_n C dX1_refresh_0 rfl 0 rfl ?_
  refine k_iload_n C dX1_refresh_1 rfl 1 rfl ?_
  refine k_iload_n C dX1_refresh_2 rfl 2 rfl ?_
  refine k_callV C mv_1_56 (c_tableOfN  h_mo h_tb (by first | assumption | omega) (by first | assumption | omega) (by first | assumption | omega)) h_mo rfl rfl (by simp [Value.category]) ⟨by decide, by decide⟩ ⟨(by decide), (by decide)⟩ dX1_refresh_3 (fun zv zV zh => ?_)
  obtain ⟨t_w1, q_w1, rfl, rfl, ht1_w1, hq_w1, htq_w1⟩ := zh
  refine k_pc (pc' := 6) (st' := .ref t_w1 :: []) rfl rfl ?_
  have ne2 : nq mo t_w1 := gv_nf ht1_w1 h_mo
  have ne3 : nq tr t_w1 := gv_nf ht1_w1 h_tr
  have ne4 : nq tga t_w1 := gv_nf ht1_w1 h_tga
  have ne5 : nq tsa t_w1 := gv_nf ht1_w1 h_tsa
  have ne6 : nq tpa t_w1 := gv_nf ht1_w1 h_tpa
  have ne7 : nq tqa t_w1 := gv_nf ht1_w1 h_tqa
  have ne8 : nq nd t_w1 := gv_nf ht1_w1 h_nd
  have ne9 : nq nl t_w1 := gv_nf ht1_w1 h_nl
  have ne10 : nq no t_w1 := gv_nf ht1_w1 h_no
  have ne11 : nq xe t_w1 := gv_nf ht1_w1 h_xe
  have ne12 : nq ak t_w1 := gv_nf ht1_w1 h_ak
  have ne13 : nq af t_w1 := gv_nf ht1_w1 h_af
  have ne14 : nq as t_w1 := gv_nf ht1_w1 h_as
  have ne15 : nq ap t_w1 := gv_nf ht1_w1 h_ap
  have ne16 : nq av t_w1 := gv_nf ht1_w1 h_av
  have ne17 : nq ky t_w1 := gv_nf ht1_w1 h_ky
  have ne18 : nq pl t_w1 := gv_nf ht1_w1 h_pl
  have ne19 : nq tb t_w1 := gv_nf ht1_w1 h_tb
  have ne20 : nq mo q_w1 := gv_nf hq_w1 h_mo
  have ne21 : nq tr q_w1 := gv_nf hq_w1 h_tr
  have ne22 : nq tga q_w1 := gv_nf hq_w1 h_tga
  have ne23 : nq tsa q_w1 := gv_nf hq_w1 h_tsa
  have ne24 : nq tpa q_w1 := gv_nf hq_w1 h_tpa
  have ne25 : nq tqa q_w1 := gv_nf hq_w1 h_tqa
  have ne26 : nq nd q_w1 := gv_nf hq_w1 h_nd
  have ne27 : nq nl q_w1 := gv_nf hq_w1 h_nl
  have ne28 : nq no q_w1 := gv_nf hq_w1 h_no
  have ne29 : nq xe q_w1 := gv_nf hq_w1 h_xe
  have ne30 : nq ak q_w1 := gv_nf hq_w1 h_ak
  have ne31 : nq af q_w1 := gv_nf hq_w1 h_af
  have ne32 : nq as q_w1 := gv_nf hq_w1 h_as
  have ne33 : nq ap q_w1 := gv_nf hq_w1 h_ap
  have ne34 : nq av q_w1 := gv_nf hq_w1 h_av
  have ne35 : nq ky q_w1 := gv_nf hq_w1 h_ky
  have ne36 : nq pl q_w1 := gv_nf hq_w1 h_pl
  have ne37 : nq tb q_w1 := gv_nf hq_w1 h_tb
  refine k_astore_n (lv' := [(3, .ref t_w1), (0, .ref mo), (1, .int (nI i)), (2, .int (nI g))]) C dX1_refresh_6 rfl (by decide) rfl ?_
  refine k_aload_n C dX1_refresh_7 rfl 0 rfl ?_
  refine k_get (ci := 4) (k := 3) C fl_1_84 ((gv_up_n (Ne.symm ne19)).trans ((gv_up_n htq_w1).trans gv_up_s)) rfl dX1_refresh_8 ?_
  refine k_aload_n C dX1_refresh_11 rfl 1 rfl ?_
  have ne38 : nq mo tb := gv_ne h_tb h_mo (by simp)
  refine k_get (ci := 1) (k := 0) C fl_1_12 ((gv_up_n ne38).trans ((gv_up_n ne20).trans ((gv_up_n ne2).trans h_mo))) rfl dX1_refresh_12 ?_
  have ne39 : nq tr tb := gv_ne h_tb h_tr (by simp)
  refine k_get (ci := 5) (k := 4) C fl_1_87 ((gv_up_n ne39).trans ((gv_up_n ne21).trans ((gv_up_n ne3).trans h_tr))) rfl dX1_refresh_15 ?_
  refine k_icmp_ne (tgt := 22) C dX1_refresh_18 (by decide) (fun c18 => ?_) (fun c18 => ?_)
  · skip
    refine k_aload_n C dX1_refresh_22 rfl 0 rfl ?_
    refine k_callV_pv C mv_1_90 (c_X4_clear  ((gv_up_n (Ne.symm ne19)).trans ((gv_up_n htq_w1).trans gv_up_s)) ((gv_up_n (Ne.symm ne37)).trans gv_up_s) ) ((gv_up_n (Ne.symm ne19)).trans ((gv_up_n htq_w1).trans gv_up_s)) rfl rfl (by simp [Value.category]) ⟨by decide, by decide⟩ ⟨(by decide), (by decide)⟩ dX1_refresh_23 ?_
    refine k_view (V1 := gv_up (gv_up (gv_up V t_w1 (.inr (4, [.ref q_w1, .int (nI 0), .int (nI 0), .int (-1 : Int32)]))) q_w1 (.inl (cI, 486, .inl (fun _ => 0)))) tb (.inl (cR, 120, .inr (.inr (.inr (.inr (va_up tf (i * 4 + g) (some t_w1)))))))) ((gv_uc (Ne.symm ne19)).trans (congrArg (fun W => gv_up W tb (.inl (cR, 120, .inr (.inr (.inr (.inr (va_up tf (i * 4 + g) (some t_w1)))))))) ((gv_uc htq_w1).trans (congrArg (fun W => gv_up W q_w1 (.inl (cI, 486, .inl (fun _ => 0)))) gv_uu)))) ?_
    refine k_aload_n C dX1_refresh_26 rfl 0 rfl ?_
    refine k_aload_n C dX1_refresh_27 rfl 1 rfl ?_
    refine k_get (ci := 1) (k := 0) C fl_1_12 ((gv_up_n ne38).trans ((gv_up_n ne20).trans ((gv_up_n ne2).trans h_mo))) rfl dX1_refresh_28 ?_
    refine k_get (ci := 5) (k := 4) C fl_1_87 ((gv_up_n ne39).trans ((gv_up_n ne21).trans ((gv_up_n ne3).trans h_tr))) rfl dX1_refresh_31 ?_
    refine k_put (ci := 4) (k := 3) (fs' := [.ref q_w1, .int (nI 0), .int (nI 0), .int (nI nt)]) C fl_1_84 pf_4_3 ((gv_up_n (Ne.symm ne19)).trans ((gv_up_n htq_w1).trans gv_up_s)) rfl rfl (Nat.le_of_ble_eq_true rfl) rfl dX1_refresh_34 ?_
    refine k_view (V1 := gv_up (gv_up (gv_up V t_w1 (.inr (4, [.ref q_w1, .int (nI 0), .int (nI 0), .int (nI nt)]))) q_w1 (.inl (cI, 486, .inl (fun _ => 0)))) tb (.inl (cR, 120, .inr (.inr (.inr (.inr (va_up tf (i * 4 + g) (some t_w1)))))))) ((gv_uc (Ne.symm ne19)).trans (congrArg (fun W => gv_up W tb (.inl (cR, 120, .inr (.inr (.inr (.inr (va_up tf (i * 4 + g) (some t_w1)))))))) ((gv_uc htq_w1).trans (congrArg (fun W => gv_up W q_w1 (.inl (cI, 486, .inl (fun _ => 0)))) gv_uu)))) ?_
    refine k_aload_n C dX1_refresh_37 rfl 1 rfl ?_
    refine k_get (ci := 1) (k := 2) C fl_1_28 ((gv_up_n ne38).trans ((gv_up_n ne20).trans ((gv_up_n ne2).trans h_mo))) rfl dX1_refresh_38 ?_
    refine k_iload_n C dX1_refresh_41 rfl 2 rfl ?_
    have ne40 : nq nd tb := gv_ne h_tb h_nd (by simp)
    have ne41 : nq nl tb := gv_ne h_tb h_nl (by simp)
    refine k_callV_pr C mv_1_60 (c_X3_at  ((gv_up_n ne40).trans ((gv_up_n ne26).trans ((gv_up_n ne8).trans h_nd))) ((gv_up_n ne41).trans ((gv_up_n ne27).trans ((gv_up_n ne9).trans h_nl))) (by first | assumption | omega) hnf) ((gv_up_n ne40).trans ((gv_up_n ne26).trans ((gv_up_n ne8).trans h_nd))) rfl rfl (by simp [Value.category]) ⟨by decide, by decide⟩ ⟨(by decide), (by decide)⟩ dX1_refresh_42 ?_
    refine k_astore (lv' := [(4, .ref no), (3, .ref t_w1), (0, .ref mo), (1, .int (nI i)), (2, .int (nI g))]) C dX1_refresh_45 (by decide) rfl ?_
    refine k_aload C dX1_refresh_47 0 rfl ?_
    have ne42 : nq no tb := gv_ne h_tb h_no (by simp)
    refine k_get (ci := 2) (k := 0) C fl_1_77 ((gv_up_n ne42).trans ((gv_up_n ne28).trans ((gv_up_n ne10).trans h_no))) rfl dX1_refresh_49 ?_
    refine k_bipush (v := nI 12) C dX1_refresh_52 rfl ?_
    refine k_icmp_ne (tgt := 65) C dX1_refresh_54 (by decide) (fun c54 => ?_) (fun c54 => ?_)
    · skip
      have b54 : ¬ 13 = 12 := fun z => c54 ((nI_eq (a := 13) (b := 12) (by omega) (by omega)).mpr z)
      refine k_iload_n C dX1_refresh_65 rfl 4 rfl ?_
      refine k_istore (lv' := [(5, .int (nI g)), (4, .ref no), (3, .ref t_w1), (0, .ref mo), (1, .int (nI i)), (2, .int (nI g))]) C dX1_refresh_66 (by decide) rfl ?_
      refine k_aload C dX1_refresh_68 1 rfl ?_
      refine k_get (ci := 2) (k := 0) C fl_1_77 ((gv_up_n ne42).trans ((gv_up_n ne28).trans ((gv_up_n ne10).trans h_no))) rfl dX1_refresh_70 ?_
      refine k_if_ne (tgt := 87) C dX1_refresh_73 (by decide) (fun c73 => ?_) (fun c73 => ?_)
      · skip
        have b73 : ¬ 13 = 0 := fun z => c73 ((nI_eq (a := 13) (b := 0) (by omega) (by omega)).mpr z)
        refine k_aload C dX1_refresh_87 1 rfl ?_
        refine k_get (ci := 2) (k := 0) C fl_1_77 ((gv_up_n ne42).trans ((gv_up_n ne28).trans ((gv_up_n ne10).trans h_no))) rfl dX1_refresh_89 ?_
        refine k_bipush (v := nI 13) C dX1_refresh_92 rfl ?_
        refine k_icmp_ne (tgt := 107) C dX1_refresh_94 (by decide) (fun c94 => ?_) (fun c94 => ?_)
        · skip
          exact absurd rfl c94
        · skip
          have b94 : 13 = 13 := (nI_eq (a := 13) (b := 13) (by omega) (by omega)).mp c94
          refine k_aload_n C dX1_refresh_97 rfl 3 rfl ?_
          refine k_aload C dX1_refresh_98 1 rfl ?_
          refine k_aload_n C dX1_refresh_100 rfl 2 rfl ?_
          refine k_callV C mv_1_97 (c_X1_makeEachGraph  ((gv_up_n ne38).trans ((gv_up_n ne20).trans ((gv_up_n ne2).trans h_mo))) ((gv_up_n ne42).trans ((gv_up_n ne28).trans ((gv_up_n ne10).trans h_no))) gv_up_s ((gv_up_n (Ne.symm ne19)).trans ((gv_up_n htq_w1).trans gv_up_s)) ((gv_up_n (Ne.symm ne37)).trans gv_up_s) (by omega) (by first | assumption | omega) (fun z h1 h2 => by
            obtain ⟨p1, p2, p3, p6⟩ := hch z h1 h2
            exact ⟨by simp only [va_up]; rw [if_neg (by omega)]; exact p1, ((gv_up_n (gv_ne h_tb p2 (by simp))).trans ((gv_up_n (gv_nf hq_w1 p2)).trans ((gv_up_n (gv_nf ht1_w1 p2)).trans p2))), ((gv_up_n (gv_ne h_tb p3 (by simp))).trans ((gv_up_n (gv_nf hq_w1 p3)).trans ((gv_up_n (gv_nf ht1_w1 p3)).trans p3))), Ne.symm (gv_nf ht1_w1 p2), Ne.symm (gv_nf hq_w1 p3), p6⟩)) ((gv_up_n ne38).trans ((gv_up_n ne20).trans ((gv_up_n ne2).trans h_mo))) rfl rfl (by simp [Value.category]) ⟨by decide, by decide⟩ ⟨(by decide), (by decide)⟩ dX1_refresh_101 (fun zv zV zh => ?_)
          obtain ⟨n1_w43, tl1_w43, f1_w43, rfl, rfl, ht1_w43⟩ := zh
          refine k_pc (pc' := 104) (st' := []) rfl rfl ?_
          refine k_view (V1 := gv_up (gv_up (gv_up (gv_up V t_w1 (.inr (4, [.ref q_w1, .int (nI 0), .int (nI 0), .int (nI nt)]))) q_w1 (.inl (cI, 486, .inl f1_w43))) tb (.inl (cR, 120, .inr (.inr (.inr (.inr (va_up tf (i * 4 + g) (some t_w1)))))))) t_w1 (.inr (4, [.ref q_w1, .int (nI n1_w43), .int tl1_w43, .int (nI nt)]))) (congrArg (fun W => gv_up W t_w1 (.inr (4, [.ref q_w1, .int (nI n1_w43), .int tl1_w43, .int (nI nt)]))) ((gv_uc (Ne.symm ne37)).trans (congrArg (fun W => gv_up W tb (.inl (cR, 120, .inr (.inr (.inr (.inr (va_up tf (i * 4 + g) (some t_w1)))))))) gv_uu))) ?_
          refine k_view (V1 := gv_up (gv_up (gv_up V t_w1 (.inr (4, [.ref q_w1, .int (nI n1_w43), .int tl1_w43, .int (nI nt)]))) q_w1 (.inl (cI, 486, .inl f1_w43))) tb (.inl (cR, 120, .inr (.inr (.inr (.inr (va_up tf (i * 4 + g) (some t_w1)))))))) ((gv_uc (Ne.symm ne19)).trans (congrArg (fun W => gv_up W tb (.inl (cR, 120, .inr (.inr (.inr (.inr (va_up tf (i * 4 + g) (some t_w1)))))))) ((gv_uc htq_w1).trans (congrArg (fun W => gv_up W q_w1 (.inl (cI, 486, .inl f1_w43))) gv_uu)))) ?_
          refine k_goto (tgt := 166) C dX1_refresh_104 (by decide) ?_
          have ne44 : nq av tb := gv_ne h_tb h_av (by simp)
          refine k_view (V1 := gv_up (gv_up (gv_up (gv_up V t_w1 (.inr (4, [.ref q_w1, .int (nI n1_w43), .int tl1_w43, .int (nI nt)]))) q_w1 (.inl (cI, 486, .inl f1_w43))) tb (.inl (cR, 120, .inr (.inr (.inr (.inr (va_up tf (i * 4 + g) (some t_w1)))))))) av (.inl (cI, 30, .inl vl))) (gv_id ((gv_up_n ne44).trans ((gv_up_n ne34).trans ((gv_up_n ne16).trans h_av)))).symm ?_
          have ne45 : nq ky tb := gv_ne h_tb h_ky (by simp)
          have ne46 : nq ky av := gv_ne h_av h_ky (by simp)
          refine k_view (V1 := gv_up (gv_up (gv_up (gv_up (gv_up V t_w1 (.inr (4, [.ref q_w1, .int (nI n1_w43), .int tl1_w43, .int (nI nt)]))) q_w1 (.inl (cI, 486, .inl f1_w43))) tb (.inl (cR, 120, .inr (.inr (.inr (.inr (va_up tf (i * 4 + g) (some t_w1)))))))) av (.inl (cI, 30, .inl vl))) ky (.inl (cI, 80, .inl kf))) (gv_id ((gv_up_n ne46).trans ((gv_up_n ne45).trans ((gv_up_n ne35).trans ((gv_up_n ne17).trans h_ky))))).symm ?_
          have ne47 : nq pl tb := gv_ne h_tb h_pl (by simp)
          have ne48 : nq pl av := gv_ne h_av h_pl (by simp)
          refine k_view (V1 := gv_up (gv_up (gv_up (gv_up (gv_up (gv_up V t_w1 (.inr (4, [.ref q_w1, .int (nI n1_w43), .int tl1_w43, .int (nI nt)]))) q_w1 (.inl (cI, 486, .inl f1_w43))) tb (.inl (cR, 120, .inr (.inr (.inr (.inr (va_up tf (i * 4 + g) (some t_w1)))))))) av (.inl (cI, 30, .inl vl))) ky (.inl (cI, 80, .inl kf))) pl (.inl (cI, 80, .inl pf))) (gv_id ((gv_up_n (Ne.symm hky)).trans ((gv_up_n ne48).trans ((gv_up_n ne47).trans ((gv_up_n ne36).trans ((gv_up_n ne18).trans h_pl)))))).symm ?_
          refine k_view (V1 := gv_up (gv_up (gv_up (gv_up (gv_up (gv_up V t_w1 (.inr (4, [.ref q_w1, .int (nI n1_w43), .int tl1_w43, .int (nI nt)]))) q_w1 (.inl (cI, 486, .inl f1_w43))) av (.inl (cI, 30, .inl vl))) tb (.inl (cR, 120, .inr (.inr (.inr (.inr (va_up tf (i * 4 + g) (some t_w1)))))))) ky (.inl (cI, 80, .inl kf))) pl (.inl (cI, 80, .inl pf))) (congrArg (fun W => gv_up W pl (.inl (cI, 80, .inl pf))) (congrArg (fun W => gv_up W ky (.inl (cI, 80, .inl kf))) (gv_uc ne44))) ?_
          refine k_view (V1 := gv_up (gv_up (gv_up (gv_up (gv_up (gv_up V t_w1 (.inr (4, [.ref q_w1, .int (nI n1_w43), .int tl1_w43, .int (nI nt)]))) av (.inl (cI, 30, .inl vl))) q_w1 (.inl (cI, 486, .inl f1_w43))) tb (.inl (cR, 120, .inr (.inr (.inr (.inr (va_up tf (i * 4 + g) (some t_w1)))))))) ky (.inl (cI, 80, .inl kf))) pl (.inl (cI, 80, .inl pf))) (congrArg (fun W => gv_up W pl (.inl (cI, 80, .inl pf))) (congrArg (fun W => gv_up W ky (.inl (cI, 80, .inl kf))) (congrArg (fun W => gv_up W tb (.inl (cR, 120, .inr (.inr (.inr (.inr (va_up tf (i * 4 + g) (some t_w1)))))))) (gv_uc ne34)))) ?_
          refine k_view (V1 := gv_up (gv_up (gv_up (gv_up (gv_up (gv_up V av (.inl (cI, 30, .inl vl))) t_w1 (.inr (4, [.ref q_w1, .int (nI n1_w43), .int tl1_w43, .int (nI nt)]))) q_w1 (.inl (cI, 486, .inl f1_w43))) tb (.inl (cR, 120, .inr (.inr (.inr (.inr (va_up tf (i * 4 + g) (some t_w1)))))))) ky (.inl (cI, 80, .inl kf))) pl (.inl (cI, 80, .inl pf))) (congrArg (fun W => gv_up W pl (.inl (cI, 80, .inl pf))) (congrArg (fun W => gv_up W ky (.inl (cI, 80, .inl kf))) (congrArg (fun W => gv_up W tb (.inl (cR, 120, .inr (.inr (.inr (.inr (va_up tf (i * 4 + g) (some t_w1)))))))) (congrArg (fun W => gv_up W q_w1 (.inl (cI, 486, .inl f1_w43))) (gv_uc ne16))))) ?_
          refine k_view (V1 := gv_up (gv_up (gv_up (gv_up (gv_up (gv_up V av (.inl (cI, 30, .inl vl))) t_w1 (.inr (4, [.ref q_w1, .int (nI n1_w43), .int tl1_w43, .int (nI nt)]))) q_w1 (.inl (cI, 486, .inl f1_w43))) ky (.inl (cI, 80, .inl kf))) tb (.inl (cR, 120, .inr (.inr (.inr (.inr (va_up tf (i * 4 + g) (some t_w1)))))))) pl (.inl (cI, 80, .inl pf))) (congrArg (fun W => gv_up W pl (.inl (cI, 80, .inl pf))) (gv_uc ne45)) ?_
          refine k_view (V1 := gv_up (gv_up (gv_up (gv_up (gv_up (gv_up V av (.inl (cI, 30, .inl vl))) t_w1 (.inr (4, [.ref q_w1, .int (nI n1_w43), .int tl1_w43, .int (nI nt)]))) ky (.inl (cI, 80, .inl kf))) q_w1 (.inl (cI, 486, .inl f1_w43))) tb (.inl (cR, 120, .inr (.inr (.inr (.inr (va_up tf (i * 4 + g) (some t_w1)))))))) pl (.inl (cI, 80, .inl pf))) (congrArg (fun W => gv_up W pl (.inl (cI, 80, .inl pf))) (congrArg (fun W => gv_up W tb (.inl (cR, 120, .inr (.inr (.inr (.inr (va_up tf (i * 4 + g) (some t_w1)))))))) (gv_uc ne35))) ?_
          refine k_view (V1 := gv_up (gv_up (gv_up (gv_up (gv_up (gv_up V av (.inl (cI, 30, .inl vl))) ky (.inl (cI, 80, .inl kf))) t_w1 (.inr (4, [.ref q_w1, .int (nI n1_w43), .int tl1_w43, .int (nI nt)]))) q_w1 (.inl (cI, 486, .inl f1_w43))) tb (.inl (cR, 120, .inr (.inr (.inr (.inr (va_up tf (i * 4 + g) (some t_w1)))))))) pl (.inl (cI, 80, .inl pf))) (congrArg (fun W => gv_up W pl (.inl (cI, 80, .inl pf))) (congrArg (fun W => gv_up W tb (.inl (cR, 120, .inr (.inr (.inr (.inr (va_up tf (i * 4 + g) (some t_w1)))))))) (congrArg (fun W => gv_up W q_w1 (.inl (cI, 486, .inl f1_w43))) (gv_uc ne17)))) ?_
          refine k_view (V1 := gv_up (gv_up (gv_up (gv_up (gv_up (gv_up V av (.inl (cI, 30, .inl vl))) ky (.inl (cI, 80, .inl kf))) t_w1 (.inr (4, [.ref q_w1, .int (nI n1_w43), .int tl1_w43, .int (nI nt)]))) q_w1 (.inl (cI, 486, .inl f1_w43))) pl (.inl (cI, 80, .inl pf))) tb (.inl (cR, 120, .inr (.inr (.inr (.inr (va_up tf (i * 4 + g) (some t_w1)))))))) (gv_uc ne47) ?_
          refine k_view (V1 := gv_up (gv_up (gv_up (gv_up (gv_up (gv_up V av (.inl (cI, 30, .inl vl))) ky (.inl (cI, 80, .inl kf))) t_w1 (.inr (4, [.ref q_w1, .int (nI n1_w43), .int tl1_w43, .int (nI nt)]))) pl (.inl (cI, 80, .inl pf))) q_w1 (.inl (cI, 486, .inl f1_w43))) tb (.inl (cR, 120, .inr (.inr (.inr (.inr (va_up tf (i * 4 + g) (some t_w1)))))))) (congrArg (fun W => gv_up W tb (.inl (cR, 120, .inr (.inr (.inr (.inr (va_up tf (i * 4 + g) (some t_w1)))))))) (gv_uc ne36)) ?_
          refine k_view (V1 := gv_up (gv_up (gv_up (gv_up (gv_up (gv_up V av (.inl (cI, 30, .inl vl))) ky (.inl (cI, 80, .inl kf))) pl (.inl (cI, 80, .inl pf))) t_w1 (.inr (4, [.ref q_w1, .int (nI n1_w43), .int tl1_w43, .int (nI nt)]))) q_w1 (.inl (cI, 486, .inl f1_w43))) tb (.inl (cR, 120, .inr (.inr (.inr (.inr (va_up tf (i * 4 + g) (some t_w1)))))))) (congrArg (fun W => gv_up W tb (.inl (cR, 120, .inr (.inr (.inr (.inr (va_up tf (i * 4 + g) (some t_w1)))))))) (congrArg (fun W => gv_up W q_w1 (.inl (cI, 486, .inl f1_w43))) (gv_uc ne18))) ?_
          refine k_view (V1 := gv_up (gv_up (gv_up (gv_up (gv_up (gv_up V av (.inl (cI, 30, .inl vl))) ky (.inl (cI, 80, .inl kf))) pl (.inl (cI, 80, .inl pf))) q_w1 (.inl (cI, 486, .inl f1_w43))) t_w1 (.inr (4, [.ref q_w1, .int (nI n1_w43), .int tl1_w43, .int (nI nt)]))) tb (.inl (cR, 120, .inr (.inr (.inr (.inr (va_up tf (i * 4 + g) (some t_w1)))))))) (congrArg (fun W => gv_up W tb (.inl (cR, 120, .inr (.inr (.inr (.inr (va_up tf (i * 4 + g) (some t_w1)))))))) (gv_uc (Ne.symm htq_w1))) ?_
          exact k_vret C zr zlk ⟨t_w1, q_w1, vl, kf, pf, n1_w43, tl1_w43, f1_w43, rfl, rfl, ht1_w1, hq_w1, htq_w1, ht1_w43⟩ (Nat.le_refl _) (Nat.le_refl _) dX1_refresh_166
      · skip
        exact absurd c73 (by decide)
    · skip
      exact absurd c54 (by decide)
  · skip
    exact absurd c18.symm (nI_n1 (by omega))
set_option maxHeartbeats 4000000 in
set_option maxRecDepth 100000 in
theorem c_ref5N {zl : Launch} {D : va_G} {cI cN cR : ClassId} {base : Nat} {V : gv_V} {mo tr nd tb wg ky pl : Nat} {tga tsa tpa tqa nt : Nat} {tg ts tp tq : Nat → Int32} {nl nn : Nat} {nf : Nat → Option Nat} {no : Nat} {ps pp po va st fr ln dn ag gr : Int32} {e : Nat} {xe ak af as ap av ne : Nat} {kd fs sc pt vl : Nat → Int32} {kf pf : Nat → Int32} {tf : Nat → Option Nat} {i g a0 : Nat} {E : Nat → Ex} {a c n : Nat} {tl mk : Int32} {f : Nat → Int32} {SA : Option (List Row)}  (h_mo : V mo = some (.inr (1, [.ref tr, .ref xe, .ref nd, .ref tb, .ref wg, .ref ky, .ref pl]))) (h_tr : V tr = some (.inr (5, [.ref tga, .ref tsa, .ref tpa, .ref tqa, .int (nI nt)]))) (h_tga : V tga = some (.inl (cI, 60, .inl tg))) (h_tsa : V tsa = some (.inl (cI, 60, .inl ts))) (h_tpa : V tpa = some (.inl (cI, 60, .inl tp))) (h_tqa : V tqa = some (.inl (cI, 60, .inl tq))) (h_nd : V nd = some (.inr (3, [.ref nl, .int (nI nn)]))) (h_nl : V nl = some (.inl (cN, 30, .inr (.inr (.inr (.inr nf)))))) (h_no : V no = some (.inr (2, [.int (nI 5), .int (nI a0), .int (-1 : Int32), .int ps, .int pp, .int po, .int (nI e), .int va, .int st, .int fr, .int ln, .int dn, .int ag, .int gr]))) (h_xe : V xe = some (.inr (0, [.ref ak, .ref af, .ref as, .ref ap, .ref av, .int (nI ne)]))) (h_ak : V ak = some (.inl (cI, 30, .inl kd))) (h_af : V af = some (.inl (cI, 30, .inl fs))) (h_as : V as = some (.inl (cI, 30, .inl sc))) (h_ap : V ap = some (.inl (cI, 30, .inl pt))) (h_av : V av = some (.inl (cI, 30, .inl vl))) (h_ky : V ky = some (.inl (cI, 80, .inl kf))) (h_pl : V pl = some (.inl (cI, 80, .inl pf))) (h_tb : V tb = some (.inl (cR, 120, .inr (.inr (.inr (.inr tf)))))) (h_a : V a = some (.inr (4, [.ref c, .int (nI n), .int tl, .int mk]))) (h_c : V c = some (.inl (cI, 486, .inl f))) (hX : ExR E ne kd fs sc pt) (hd : [ak, af, as, ap, av].Nodup) (hi : i < 30) (hg : g < 4) (hnf : nf i = some no) (hky : nq ky pl) (hnt : nt ≤ 60) (ht : tf (i * 4 + g) = none) (ha0 : a0 < i) (hta : tf (a0 * 4 + g) = some a) (hSa : TRep SA n tl f) (he : e < ne) : ct zl D [(cI, .int), (cN, .object "AlgebraTree$Node"), (cR, .object "AlgebraTree$Rows")] base yX1_refresh cX1_refresh 6 none 5 2 490 [.ref mo, .int (nI i), .int (nI g)] V (fun zv zV => ∃ t : Nat, ∃ q : Nat, ∃ vl1 : Nat → Int32, ∃ kf1 : Nat → Int32, ∃ pf1 : Nat → Int32, ∃ n1 : Nat, ∃ tl1 : Int32, ∃ f1 : Nat → Int32, zv = none ∧ zV = gv_up (gv_up (gv_up (gv_up (gv_up (gv_up V av (.inl (cI, 30, .inl vl1))) ky (.inl (cI, 80, .inl kf1))) pl (.inl (cI, 80, .inl pf1))) q (.inl (cI, 486, .inl f1))) t (.inr (4, [.ref q, .int (nI n1), .int tl1, .int (nI nt)]))) tb (.inl (cR, 120, .inr (.inr (.inr (.inr (va_up tf (i * 4 + g) (some t))))))) ∧ (V t = none) ∧ (V q = none) ∧ (nq t q) ∧ (TRep (SA.bind (fun A => cap (A.filter (fun x => isT (ev E x e))))) n1 tl1 f1)) := by
  refine ct_of "AlgebraTree$Maker" rfl (by decide) (Nat.le_of_ble_eq_true rfl) ?_
  intro zp ze zs zm zargs zbelow zmeth zc C zr zlk znm
  refine k_pc (pc' := 0) (st' := []) rfl rfl ?_
  show K zp zl ze (gv_rm 5 2 490) zs zm zargs zbelow zmeth zc D base 6 (gv_E D [(cI, .int), (cN, .object "AlgebraTree$Node"), (cR, .object "AlgebraTree$Rows")] base zbelow zargs zs 2 490 (fun zv zV => ∃ t : Nat, ∃ q : Nat, ∃ vl1 : Nat → Int32, ∃ kf1 : Nat → Int32, ∃ pf1 : Nat → Int32, ∃ n1 : Nat, ∃ tl1 : Int32, ∃ f1 : Nat → Int32, zv = none ∧ zV = gv_up (gv_up (gv_up (gv_up (gv_up (gv_up V av (.inl (cI, 30, .inl vl1))) ky (.inl (cI, 80, .inl kf1))) pl (.inl (cI, 80, .inl pf1))) q (.inl (cI, 486, .inl f1))) t (.inr (4, [.ref q, .int (nI n1), .int tl1, .int (nI nt)]))) tb (.inl (cR, 120, .inr (.inr (.inr (.inr (va_up tf (i * 4 + g) (some t))))))) ∧ (V t = none) ∧ (V q = none) ∧ (nq t q) ∧ (TRep (SA.bind (fun A => cap (A.filter (fun x => isT (ev E x e))))) n1 tl1 f1))) V 0 0 [(0, .ref mo), (1, .int (nI i)), (2, .int (nI g))] 0 []
  refine k_aload_n C dX1_refresh_0 rfl 0 rfl ?_
  refine k_iload_n C dX1_refresh_1 rfl 1 rfl ?_
  refine k_iload_n C dX1_refresh_2 rfl 2 rfl ?_
  refine k_callV C mv_1_56 (c_tableOfN  h_mo h_tb (by first | assumption | omega) (by first | assumption | omega) (by first | assumption | omega)) h_mo rfl rfl (by simp [Value.category]) ⟨by decide, by decide⟩ ⟨(by decide), (by decide)⟩ dX1_refresh_3 (fun zv zV zh => ?_)
  obtain ⟨t_w1, q_w1, rfl, rfl, ht1_w1, hq_w1, htq_w1⟩ := zh
  refine k_pc (pc' := 6) (st' := .ref t_w1 :: []) rfl rfl ?_
  have ne2 : nq mo t_w1 := gv_nf ht1_w1 h_mo
  have ne3 : nq tr t_w1 := gv_nf ht1_w1 h_tr
  have ne4 : nq tga t_w1 := gv_nf ht1_w1 h_tga
  have ne5 : nq tsa t_w1 := gv_nf ht1_w1 h_tsa
  have ne6 : nq tpa t_w1 := gv_nf ht1_w1 h_tpa
  have ne7 : nq tqa t_w1 := gv_nf ht1_w1 h_tqa
  have ne8 : nq nd t_w1 := gv_nf ht1_w1 h_nd
  have ne9 : nq nl t_w1 := gv_nf ht1_w1 h_nl
  have ne10 : nq no t_w1 := gv_nf ht1_w1 h_no
  have ne11 : nq xe t_w1 := gv_nf ht1_w1 h_xe
  have ne12 : nq ak t_w1 := gv_nf ht1_w1 h_ak
  have ne13 : nq af t_w1 := gv_nf ht1_w1 h_af
  have ne14 : nq as t_w1 := gv_nf ht1_w1 h_as
  have ne15 : nq ap t_w1 := gv_nf ht1_w1 h_ap
  have ne16 : nq av t_w1 := gv_nf ht1_w1 h_av
  have ne17 : nq ky t_w1 := gv_nf ht1_w1 h_ky
  have ne18 : nq pl t_w1 := gv_nf ht1_w1 h_pl
  have ne19 : nq tb t_w1 := gv_nf ht1_w1 h_tb
  have ne20 : nq a t_w1 := gv_nf ht1_w1 h_a
  have ne21 : nq c t_w1 := gv_nf ht1_w1 h_c
  have ne22 : nq mo q_w1 := gv_nf hq_w1 h_mo
  have ne23 : nq tr q_w1 := gv_nf hq_w1 h_tr
  have ne24 : nq tga q_w1 := gv_nf hq_w1 h_tga
  have ne25 : nq tsa q_w1 := gv_nf hq_w1 h_tsa
  have ne26 : nq tpa q_w1 := gv_nf hq_w1 h_tpa
  have ne27 : nq tqa q_w1 := gv_nf hq_w1 h_tqa
  have ne28 : nq nd q_w1 := gv_nf hq_w1 h_nd
  have ne29 : nq nl q_w1 := gv_nf hq_w1 h_nl
  have ne30 : nq no q_w1 := gv_nf hq_w1 h_no
  have ne31 : nq xe q_w1 := gv_nf hq_w1 h_xe
  have ne32 : nq ak q_w1 := gv_nf hq_w1 h_ak
  have ne33 : nq af q_w1 := gv_nf hq_w1 h_af
  have ne34 : nq as q_w1 := gv_nf hq_w1 h_as
  have ne35 : nq ap q_w1 := gv_nf hq_w1 h_ap
  have ne36 : nq av q_w1 := gv_nf hq_w1 h_av
  have ne37 : nq ky q_w1 := gv_nf hq_w1 h_ky
  have ne38 : nq pl q_w1 := gv_nf hq_w1 h_pl
  have ne39 : nq tb q_w1 := gv_nf hq_w1 h_tb
  have ne40 : nq a q_w1 := gv_nf hq_w1 h_a
  have ne41 : nq c q_w1 := gv_nf hq_w1 h_c
  refine k_astore_n (lv' := [(3, .ref t_w1), (0, .ref mo), (1, .int (nI i)), (2, .int (nI g))]) C dX1_refresh_6 rfl (by decide) rfl ?_
  refine k_aload_n C dX1_refresh_7 rfl 0 rfl ?_
  refine k_get (ci := 4) (k := 3) C fl_1_84 ((gv_up_n (Ne.symm ne19)).trans ((gv_up_n htq_w1).trans gv_up_s)) rfl dX1_refresh_8 ?_
  refine k_aload_n C dX1_refresh_11 rfl 1 rfl ?_
  have ne42 : nq mo tb := gv_ne h_tb h_mo (by simp)
  refine k_get (ci := 1) (k := 0) C fl_1_12 ((gv_up_n ne42).trans ((gv_up_n ne22).trans ((gv_up_n ne2).trans h_mo))) rfl dX1_refresh_12 ?_
  have ne43 : nq tr tb := gv_ne h_tb h_tr (by simp)
  refine k_get (ci := 5) (k := 4) C fl_1_87 ((gv_up_n ne43).trans ((gv_up_n ne23).trans ((gv_up_n ne3).trans h_tr))) rfl dX1_refresh_15 ?_
  refine k_icmp_ne (tgt := 22) C dX1_refresh_18 (by decide) (fun c18 => ?_) (fun c18 => ?_)
  · skip
    refine k_aload_n C dX1_refresh_22 rfl 0 rfl ?_
    refine k_callV_pv C mv_1_90 (c_X4_clear  ((gv_up_n (Ne.symm ne19)).trans ((gv_up_n htq_w1).trans gv_up_s)) ((gv_up_n (Ne.symm ne39)).trans gv_up_s) ) ((gv_up_n (Ne.symm ne19)).trans ((gv_up_n htq_w1).trans gv_up_s)) rfl rfl (by simp [Value.category]) ⟨by decide, by decide⟩ ⟨(by decide), (by decide)⟩ dX1_refresh_23 ?_
    refine k_view (V1 := gv_up (gv_up (gv_up V t_w1 (.inr (4, [.ref q_w1, .int (nI 0), .int (nI 0), .int (-1 : Int32)]))) q_w1 (.inl (cI, 486, .inl (fun _ => 0)))) tb (.inl (cR, 120, .inr (.inr (.inr (.inr (va_up tf (i * 4 + g) (some t_w1)))))))) ((gv_uc (Ne.symm ne19)).trans (congrArg (fun W => gv_up W tb (.inl (cR, 120, .inr (.inr (.inr (.inr (va_up tf (i * 4 + g) (some t_w1)))))))) ((gv_uc htq_w1).trans (congrArg (fun W => gv_up W q_w1 (.inl (cI, 486, .inl (fun _ => 0)))) gv_uu)))) ?_
    refine k_aload_n C dX1_refresh_26 rfl 0 rfl ?_
    refine k_aload_n C dX1_refresh_27 rfl 1 rfl ?_
    refine k_get (ci := 1) (k := 0) C fl_1_12 ((gv_up_n ne42).trans ((gv_up_n ne22).trans ((gv_up_n ne2).trans h_mo))) rfl dX1_refresh_28 ?_
    refine k_get (ci := 5) (k := 4) C fl_1_87 ((gv_up_n ne43).trans ((gv_up_n ne23).trans ((gv_up_n ne3).trans h_tr))) rfl dX1_refresh_31 ?_
    refine k_put (ci := 4) (k := 3) (fs' := [.ref q_w1, .int (nI 0), .int (nI 0), .int (nI nt)]) C fl_1_84 pf_4_3 ((gv_up_n (Ne.symm ne19)).trans ((gv_up_n htq_w1).trans gv_up_s)) rfl rfl (Nat.le_of_ble_eq_true rfl) rfl dX1_refresh_34 ?_
    refine k_view (V1 := gv_up (gv_up (gv_up V t_w1 (.inr (4, [.ref q_w1, .int (nI 0), .int (nI 0), .int (nI nt)]))) q_w1 (.inl (cI, 486, .inl (fun _ => 0)))) tb (.inl (cR, 120, .inr (.inr (.inr (.inr (va_up tf (i * 4 + g) (some t_w1)))))))) ((gv_uc (Ne.symm ne19)).trans (congrArg (fun W => gv_up W tb (.inl (cR, 120, .inr (.inr (.inr (.inr (va_up tf (i * 4 + g) (some t_w1)))))))) ((gv_uc htq_w1).trans (congrArg (fun W => gv_up W q_w1 (.inl (cI, 486, .inl (fun _ => 0)))) gv_uu)))) ?_
    refine k_aload_n C dX1_refresh_37 rfl 1 rfl ?_
    refine k_get (ci := 1) (k := 2) C fl_1_28 ((gv_up_n ne42).trans ((gv_up_n ne22).trans ((gv_up_n ne2).trans h_mo))) rfl dX1_refresh_38 ?_
    refine k_iload_n C dX1_refresh_41 rfl 2 rfl ?_
    have ne44 : nq nd tb := gv_ne h_tb h_nd (by simp)
    have ne45 : nq nl tb := gv_ne h_tb h_nl (by simp)
    refine k_callV_pr C mv_1_60 (c_X3_at  ((gv_up_n ne44).trans ((gv_up_n ne28).trans ((gv_up_n ne8).trans h_nd))) ((gv_up_n ne45).trans ((gv_up_n ne29).trans ((gv_up_n ne9).trans h_nl))) (by first | assumption | omega) hnf) ((gv_up_n ne44).trans ((gv_up_n ne28).trans ((gv_up_n ne8).trans h_nd))) rfl rfl (by simp [Value.category]) ⟨by decide, by decide⟩ ⟨(by decide), (by decide)⟩ dX1_refresh_42 ?_
    refine k_astore (lv' := [(4, .ref no), (3, .ref t_w1), (0, .ref mo), (1, .int (nI i)), (2, .int (nI g))]) C dX1_refresh_45 (by decide) rfl ?_
    refine k_aload C dX1_refresh_47 0 rfl ?_
    have ne46 : nq no tb := gv_ne h_tb h_no (by simp)
    refine k_get (ci := 2) (k := 0) C fl_1_77 ((gv_up_n ne46).trans ((gv_up_n ne30).trans ((gv_up_n ne10).trans h_no))) rfl dX1_refresh_49 ?_
    refine k_bipush (v := nI 12) C dX1_refresh_52 rfl ?_
    refine k_icmp_ne (tgt := 65) C dX1_refresh_54 (by decide) (fun c54 => ?_) (fun c54 => ?_)
    · skip
      have b54 : ¬ 5 = 12 := fun z => c54 ((nI_eq (a := 5) (b := 12) (by omega) (by omega)).mpr z)
      refine k_iload_n C dX1_refresh_65 rfl 4 rfl ?_
      refine k_istore (lv' := [(5, .int (nI g)), (4, .ref no), (3, .ref t_w1), (0, .ref mo), (1, .int (nI i)), (2, .int (nI g))]) C dX1_refresh_66 (by decide) rfl ?_
      refine k_aload C dX1_refresh_68 1 rfl ?_
      refine k_get (ci := 2) (k := 0) C fl_1_77 ((gv_up_n ne46).trans ((gv_up_n ne30).trans ((gv_up_n ne10).trans h_no))) rfl dX1_refresh_70 ?_
      refine k_if_ne (tgt := 87) C dX1_refresh_73 (by decide) (fun c73 => ?_) (fun c73 => ?_)
      · skip
        have b73 : ¬ 5 = 0 := fun z => c73 ((nI_eq (a := 5) (b := 0) (by omega) (by omega)).mpr z)
        refine k_aload C dX1_refresh_87 1 rfl ?_
        refine k_get (ci := 2) (k := 0) C fl_1_77 ((gv_up_n ne46).trans ((gv_up_n ne30).trans ((gv_up_n ne10).trans h_no))) rfl dX1_refresh_89 ?_
        refine k_bipush (v := nI 13) C dX1_refresh_92 rfl ?_
        refine k_icmp_ne (tgt := 107) C dX1_refresh_94 (by decide) (fun c94 => ?_) (fun c94 => ?_)
        · skip
          have b94 : ¬ 5 = 13 := fun z => c94 ((nI_eq (a := 5) (b := 13) (by omega) (by omega)).mpr z)
          refine k_aload C dX1_refresh_107 1 rfl ?_
          refine k_get (ci := 2) (k := 2) C fl_1_74 ((gv_up_n ne46).trans ((gv_up_n ne30).trans ((gv_up_n ne10).trans h_no))) rfl dX1_refresh_109 ?_
          refine k_iconst (v := (-1 : Int32)) C dX1_refresh_112 (by decide) ?_
          refine k_icmp_ne (tgt := 137) C dX1_refresh_113 (by decide) (fun c113 => ?_) (fun c113 => ?_)
          · skip
            exact absurd rfl c113
          · skip
            refine k_aload_n C dX1_refresh_116 rfl 3 rfl ?_
            refine k_aload C dX1_refresh_117 1 rfl ?_
            refine k_aload_n C dX1_refresh_119 rfl 3 rfl ?_
            refine k_aload C dX1_refresh_120 1 rfl ?_
            refine k_get (ci := 2) (k := 1) C fl_1_68 ((gv_up_n ne46).trans ((gv_up_n ne30).trans ((gv_up_n ne10).trans h_no))) rfl dX1_refresh_122 ?_
            refine k_iload C dX1_refresh_125 0 rfl ?_
            refine k_callV_pr C mv_1_56 (c_tableOf  ((gv_up_n ne42).trans ((gv_up_n ne22).trans ((gv_up_n ne2).trans h_mo))) gv_up_s (by first | assumption | omega) (by first | assumption | omega) (by simp only [va_up]; rw [if_neg (by omega)]; exact hta)) ((gv_up_n ne42).trans ((gv_up_n ne22).trans ((gv_up_n ne2).trans h_mo))) rfl rfl (by simp [Value.category]) ⟨by decide, by decide⟩ ⟨(by decide), (by decide)⟩ dX1_refresh_127 ?_
            refine k_aload_n C dX1_refresh_130 rfl 2 rfl ?_
            rcases SA with _ | A
            · skip
              have ne47 : nq xe tb := gv_ne h_tb h_xe (by simp)
              have ne48 : nq ak tb := gv_ne h_tb h_ak (by simp)
              have ne49 : nq af tb := gv_ne h_tb h_af (by simp)
              have ne50 : nq as tb := gv_ne h_tb h_as (by simp)
              have ne51 : nq ap tb := gv_ne h_tb h_ap (by simp)
              have ne52 : nq av tb := gv_ne h_tb h_av (by simp)
              have ne53 : nq a tb := gv_ne h_tb h_a (by simp)
              have ne54 : nq c tb := gv_ne h_tb h_c (by simp)
              have ne55 : nq ky tb := gv_ne h_tb h_ky (by simp)
              have ne56 : nq pl tb := gv_ne h_tb h_pl (by simp)
              refine k_callV C mv_1_101 (c_overL  ((gv_up_n ne42).trans ((gv_up_n ne22).trans ((gv_up_n ne2).trans h_mo))) ((gv_up_n ne46).trans ((gv_up_n ne30).trans ((gv_up_n ne10).trans h_no))) ((gv_up_n ne47).trans ((gv_up_n ne31).trans ((gv_up_n ne11).trans h_xe))) ((gv_up_n ne48).trans ((gv_up_n ne32).trans ((gv_up_n ne12).trans h_ak))) ((gv_up_n ne49).trans ((gv_up_n ne33).trans ((gv_up_n ne13).trans h_af))) ((gv_up_n ne50).trans ((gv_up_n ne34).trans ((gv_up_n ne14).trans h_as))) ((gv_up_n ne51).trans ((gv_up_n ne35).trans ((gv_up_n ne15).trans h_ap))) ((gv_up_n ne52).trans ((gv_up_n ne36).trans ((gv_up_n ne16).trans h_av))) ((gv_up_n ne53).trans ((gv_up_n ne40).trans ((gv_up_n ne20).trans h_a))) ((gv_up_n ne54).trans ((gv_up_n ne41).trans ((gv_up_n ne21).trans h_c))) ((gv_up_n (Ne.symm ne19)).trans ((gv_up_n htq_w1).trans gv_up_s)) ((gv_up_n (Ne.symm ne39)).trans gv_up_s) ((gv_up_n ne55).trans ((gv_up_n ne37).trans ((gv_up_n ne17).trans h_ky))) ((gv_up_n ne56).trans ((gv_up_n ne38).trans ((gv_up_n ne18).trans h_pl))) hSa (by first | assumption | omega) (Ne.symm ne20) (Ne.symm ne41) hky) ((gv_up_n ne42).trans ((gv_up_n ne22).trans ((gv_up_n ne2).trans h_mo))) rfl rfl (by simp [Value.category]) ⟨by decide, by decide⟩ ⟨(by decide), (by decide)⟩ dX1_refresh_131 (fun zv zV zh => ?_)
              obtain ⟨vl1_w57, kf1_w57, pf1_w57, n1_w57, tl1_w57, f1_w57, rfl, rfl, ht1_w57⟩ := zh
              refine k_pc (pc' := 134) (st' := []) rfl rfl ?_
              refine k_view (V1 := gv_up (gv_up (gv_up (gv_up (gv_up (gv_up (gv_up V t_w1 (.inr (4, [.ref q_w1, .int (nI 0), .int (nI 0), .int (nI nt)]))) q_w1 (.inl (cI, 486, .inl f1_w57))) tb (.inl (cR, 120, .inr (.inr (.inr (.inr (va_up tf (i * 4 + g) (some t_w1)))))))) av (.inl (cI, 30, .inl vl1_w57))) ky (.inl (cI, 80, .inl kf1_w57))) pl (.inl (cI, 80, .inl pf1_w57))) t_w1 (.inr (4, [.ref q_w1, .int (nI n1_w57), .int tl1_w57, .int (nI nt)]))) (congrArg (fun W => gv_up W t_w1 (.inr (4, [.ref q_w1, .int (nI n1_w57), .int tl1_w57, .int (nI nt)]))) ((gv_uc (Ne.symm ne38)).trans (congrArg (fun W => gv_up W pl (.inl (cI, 80, .inl pf1_w57))) ((gv_uc (Ne.symm ne37)).trans (congrArg (fun W => gv_up W ky (.inl (cI, 80, .inl kf1_w57))) ((gv_uc (Ne.symm ne36)).trans (congrArg (fun W => gv_up W av (.inl (cI, 30, .inl vl1_w57))) ((gv_uc (Ne.symm ne39)).trans (congrArg (fun W => gv_up W tb (.inl (cR, 120, .inr (.inr (.inr (.inr (va_up tf (i * 4 + g) (some t_w1)))))))) gv_uu))))))))) ?_
              refine k_view (V1 := gv_up (gv_up (gv_up (gv_up (gv_up (gv_up V t_w1 (.inr (4, [.ref q_w1, .int (nI n1_w57), .int tl1_w57, .int (nI nt)]))) q_w1 (.inl (cI, 486, .inl f1_w57))) tb (.inl (cR, 120, .inr (.inr (.inr (.inr (va_up tf (i * 4 + g) (some t_w1)))))))) av (.inl (cI, 30, .inl vl1_w57))) ky (.inl (cI, 80, .inl kf1_w57))) pl (.inl (cI, 80, .inl pf1_w57))) ((gv_uc (Ne.symm ne18)).trans (congrArg (fun W => gv_up W pl (.inl (cI, 80, .inl pf1_w57))) ((gv_uc (Ne.symm ne17)).trans (congrArg (fun W => gv_up W ky (.inl (cI, 80, .inl kf1_w57))) ((gv_uc (Ne.symm ne16)).trans (congrArg (fun W => gv_up W av (.inl (cI, 30, .inl vl1_w57))) ((gv_uc (Ne.symm ne19)).trans (congrArg (fun W => gv_up W tb (.inl (cR, 120, .inr (.inr (.inr (.inr (va_up tf (i * 4 + g) (some t_w1)))))))) ((gv_uc htq_w1).trans (congrArg (fun W => gv_up W q_w1 (.inl (cI, 486, .inl f1_w57))) gv_uu)))))))))) ?_
              refine k_goto (tgt := 166) C dX1_refresh_134 (by decide) ?_
              refine k_view (V1 := gv_up (gv_up (gv_up (gv_up (gv_up (gv_up V t_w1 (.inr (4, [.ref q_w1, .int (nI n1_w57), .int tl1_w57, .int (nI nt)]))) q_w1 (.inl (cI, 486, .inl f1_w57))) av (.inl (cI, 30, .inl vl1_w57))) tb (.inl (cR, 120, .inr (.inr (.inr (.inr (va_up tf (i * 4 + g) (some t_w1)))))))) ky (.inl (cI, 80, .inl kf1_w57))) pl (.inl (cI, 80, .inl pf1_w57))) (congrArg (fun W => gv_up W pl (.inl (cI, 80, .inl pf1_w57))) (congrArg (fun W => gv_up W ky (.inl (cI, 80, .inl kf1_w57))) (gv_uc ne52))) ?_
              refine k_view (V1 := gv_up (gv_up (gv_up (gv_up (gv_up (gv_up V t_w1 (.inr (4, [.ref q_w1, .int (nI n1_w57), .int tl1_w57, .int (nI nt)]))) av (.inl (cI, 30, .inl vl1_w57))) q_w1 (.inl (cI, 486, .inl f1_w57))) tb (.inl (cR, 120, .inr (.inr (.inr (.inr (va_up tf (i * 4 + g) (some t_w1)))))))) ky (.inl (cI, 80, .inl kf1_w57))) pl (.inl (cI, 80, .inl pf1_w57))) (congrArg (fun W => gv_up W pl (.inl (cI, 80, .inl pf1_w57))) (congrArg (fun W => gv_up W ky (.inl (cI, 80, .inl kf1_w57))) (congrArg (fun W => gv_up W tb (.inl (cR, 120, .inr (.inr (.inr (.inr (va_up tf (i * 4 + g) (some t_w1)))))))) (gv_uc ne36)))) ?_
              refine k_view (V1 := gv_up (gv_up (gv_up (gv_up (gv_up (gv_up V av (.inl (cI, 30, .inl vl1_w57))) t_w1 (.inr (4, [.ref q_w1, .int (nI n1_w57), .int tl1_w57, .int (nI nt)]))) q_w1 (.inl (cI, 486, .inl f1_w57))) tb (.inl (cR, 120, .inr (.inr (.inr (.inr (va_up tf (i * 4 + g) (some t_w1)))))))) ky (.inl (cI, 80, .inl kf1_w57))) pl (.inl (cI, 80, .inl pf1_w57))) (congrArg (fun W => gv_up W pl (.inl (cI, 80, .inl pf1_w57))) (congrArg (fun W => gv_up W ky (.inl (cI, 80, .inl kf1_w57))) (congrArg (fun W => gv_up W tb (.inl (cR, 120, .inr (.inr (.inr (.inr (va_up tf (i * 4 + g) (some t_w1)))))))) (congrArg (fun W => gv_up W q_w1 (.inl (cI, 486, .inl f1_w57))) (gv_uc ne16))))) ?_
              refine k_view (V1 := gv_up (gv_up (gv_up (gv_up (gv_up (gv_up V av (.inl (cI, 30, .inl vl1_w57))) t_w1 (.inr (4, [.ref q_w1, .int (nI n1_w57), .int tl1_w57, .int (nI nt)]))) q_w1 (.inl (cI, 486, .inl f1_w57))) ky (.inl (cI, 80, .inl kf1_w57))) tb (.inl (cR, 120, .inr (.inr (.inr (.inr (va_up tf (i * 4 + g) (some t_w1)))))))) pl (.inl (cI, 80, .inl pf1_w57))) (congrArg (fun W => gv_up W pl (.inl (cI, 80, .inl pf1_w57))) (gv_uc ne55)) ?_
              refine k_view (V1 := gv_up (gv_up (gv_up (gv_up (gv_up (gv_up V av (.inl (cI, 30, .inl vl1_w57))) t_w1 (.inr (4, [.ref q_w1, .int (nI n1_w57), .int tl1_w57, .int (nI nt)]))) ky (.inl (cI, 80, .inl kf1_w57))) q_w1 (.inl (cI, 486, .inl f1_w57))) tb (.inl (cR, 120, .inr (.inr (.inr (.inr (va_up tf (i * 4 + g) (some t_w1)))))))) pl (.inl (cI, 80, .inl pf1_w57))) (congrArg (fun W => gv_up W pl (.inl (cI, 80, .inl pf1_w57))) (congrArg (fun W => gv_up W tb (.inl (cR, 120, .inr (.inr (.inr (.inr (va_up tf (i * 4 + g) (some t_w1)))))))) (gv_uc ne37))) ?_
              refine k_view (V1 := gv_up (gv_up (gv_up (gv_up (gv_up (gv_up V av (.inl (cI, 30, .inl vl1_w57))) ky (.inl (cI, 80, .inl kf1_w57))) t_w1 (.inr (4, [.ref q_w1, .int (nI n1_w57), .int tl1_w57, .int (nI nt)]))) q_w1 (.inl (cI, 486, .inl f1_w57))) tb (.inl (cR, 120, .inr (.inr (.inr (.inr (va_up tf (i * 4 + g) (some t_w1)))))))) pl (.inl (cI, 80, .inl pf1_w57))) (congrArg (fun W => gv_up W pl (.inl (cI, 80, .inl pf1_w57))) (congrArg (fun W => gv_up W tb (.inl (cR, 120, .inr (.inr (.inr (.inr (va_up tf (i * 4 + g) (some t_w1)))))))) (congrArg (fun W => gv_up W q_w1 (.inl (cI, 486, .inl f1_w57))) (gv_uc ne17)))) ?_
              refine k_view (V1 := gv_up (gv_up (gv_up (gv_up (gv_up (gv_up V av (.inl (cI, 30, .inl vl1_w57))) ky (.inl (cI, 80, .inl kf1_w57))) t_w1 (.inr (4, [.ref q_w1, .int (nI n1_w57), .int tl1_w57, .int (nI nt)]))) q_w1 (.inl (cI, 486, .inl f1_w57))) pl (.inl (cI, 80, .inl pf1_w57))) tb (.inl (cR, 120, .inr (.inr (.inr (.inr (va_up tf (i * 4 + g) (some t_w1)))))))) (gv_uc ne56) ?_
              refine k_view (V1 := gv_up (gv_up (gv_up (gv_up (gv_up (gv_up V av (.inl (cI, 30, .inl vl1_w57))) ky (.inl (cI, 80, .inl kf1_w57))) t_w1 (.inr (4, [.ref q_w1, .int (nI n1_w57), .int tl1_w57, .int (nI nt)]))) pl (.inl (cI, 80, .inl pf1_w57))) q_w1 (.inl (cI, 486, .inl f1_w57))) tb (.inl (cR, 120, .inr (.inr (.inr (.inr (va_up tf (i * 4 + g) (some t_w1)))))))) (congrArg (fun W => gv_up W tb (.inl (cR, 120, .inr (.inr (.inr (.inr (va_up tf (i * 4 + g) (some t_w1)))))))) (gv_uc ne38)) ?_
              refine k_view (V1 := gv_up (gv_up (gv_up (gv_up (gv_up (gv_up V av (.inl (cI, 30, .inl vl1_w57))) ky (.inl (cI, 80, .inl kf1_w57))) pl (.inl (cI, 80, .inl pf1_w57))) t_w1 (.inr (4, [.ref q_w1, .int (nI n1_w57), .int tl1_w57, .int (nI nt)]))) q_w1 (.inl (cI, 486, .inl f1_w57))) tb (.inl (cR, 120, .inr (.inr (.inr (.inr (va_up tf (i * 4 + g) (some t_w1)))))))) (congrArg (fun W => gv_up W tb (.inl (cR, 120, .inr (.inr (.inr (.inr (va_up tf (i * 4 + g) (some t_w1)))))))) (congrArg (fun W => gv_up W q_w1 (.inl (cI, 486, .inl f1_w57))) (gv_uc ne18))) ?_
              refine k_view (V1 := gv_up (gv_up (gv_up (gv_up (gv_up (gv_up V av (.inl (cI, 30, .inl vl1_w57))) ky (.inl (cI, 80, .inl kf1_w57))) pl (.inl (cI, 80, .inl pf1_w57))) q_w1 (.inl (cI, 486, .inl f1_w57))) t_w1 (.inr (4, [.ref q_w1, .int (nI n1_w57), .int tl1_w57, .int (nI nt)]))) tb (.inl (cR, 120, .inr (.inr (.inr (.inr (va_up tf (i * 4 + g) (some t_w1)))))))) (congrArg (fun W => gv_up W tb (.inl (cR, 120, .inr (.inr (.inr (.inr (va_up tf (i * 4 + g) (some t_w1)))))))) (gv_uc (Ne.symm htq_w1))) ?_
              exact k_vret C zr zlk ⟨t_w1, q_w1, vl1_w57, kf1_w57, pf1_w57, n1_w57, tl1_w57, f1_w57, rfl, rfl, ht1_w1, hq_w1, htq_w1, ht1_w57⟩ (Nat.le_refl _) (Nat.le_refl _) dX1_refresh_166
            · skip
              have ne58 : nq xe tb := gv_ne h_tb h_xe (by simp)
              have ne59 : nq ak tb := gv_ne h_tb h_ak (by simp)
              have ne60 : nq af tb := gv_ne h_tb h_af (by simp)
              have ne61 : nq as tb := gv_ne h_tb h_as (by simp)
              have ne62 : nq ap tb := gv_ne h_tb h_ap (by simp)
              have ne63 : nq av tb := gv_ne h_tb h_av (by simp)
              have ne64 : nq a tb := gv_ne h_tb h_a (by simp)
              have ne65 : nq c tb := gv_ne h_tb h_c (by simp)
              have ne66 : nq ky tb := gv_ne h_tb h_ky (by simp)
              have ne67 : nq pl tb := gv_ne h_tb h_pl (by simp)
              refine k_callV C mv_1_101 (c_over5  ((gv_up_n ne42).trans ((gv_up_n ne22).trans ((gv_up_n ne2).trans h_mo))) ((gv_up_n ne46).trans ((gv_up_n ne30).trans ((gv_up_n ne10).trans h_no))) ((gv_up_n ne58).trans ((gv_up_n ne31).trans ((gv_up_n ne11).trans h_xe))) ((gv_up_n ne59).trans ((gv_up_n ne32).trans ((gv_up_n ne12).trans h_ak))) ((gv_up_n ne60).trans ((gv_up_n ne33).trans ((gv_up_n ne13).trans h_af))) ((gv_up_n ne61).trans ((gv_up_n ne34).trans ((gv_up_n ne14).trans h_as))) ((gv_up_n ne62).trans ((gv_up_n ne35).trans ((gv_up_n ne15).trans h_ap))) ((gv_up_n ne63).trans ((gv_up_n ne36).trans ((gv_up_n ne16).trans h_av))) ((gv_up_n ne64).trans ((gv_up_n ne40).trans ((gv_up_n ne20).trans h_a))) ((gv_up_n ne65).trans ((gv_up_n ne41).trans ((gv_up_n ne21).trans h_c))) ((gv_up_n (Ne.symm ne19)).trans ((gv_up_n htq_w1).trans gv_up_s)) ((gv_up_n (Ne.symm ne39)).trans gv_up_s) ((gv_up_n ne66).trans ((gv_up_n ne37).trans ((gv_up_n ne17).trans h_ky))) ((gv_up_n ne67).trans ((gv_up_n ne38).trans ((gv_up_n ne18).trans h_pl))) (by first | assumption | omega) (by first | assumption | omega) hSa.2 (Ne.symm ne20) (Ne.symm ne41) hSa.1 hky (by first | assumption | omega)) ((gv_up_n ne42).trans ((gv_up_n ne22).trans ((gv_up_n ne2).trans h_mo))) rfl rfl (by simp [Value.category]) ⟨by decide, by decide⟩ ⟨(by decide), (by decide)⟩ dX1_refresh_131 (fun zv zV zh => ?_)
              obtain ⟨vl1_w68, kf1_w68, pf1_w68, n1_w68, tl1_w68, f1_w68, rfl, rfl, ht1_w68⟩ := zh
              refine k_pc (pc' := 134) (st' := []) rfl rfl ?_
              refine k_view (V1 := gv_up (gv_up (gv_up (gv_up (gv_up (gv_up (gv_up V t_w1 (.inr (4, [.ref q_w1, .int (nI 0), .int (nI 0), .int (nI nt)]))) q_w1 (.inl (cI, 486, .inl f1_w68))) tb (.inl (cR, 120, .inr (.inr (.inr (.inr (va_up tf (i * 4 + g) (some t_w1)))))))) av (.inl (cI, 30, .inl vl1_w68))) ky (.inl (cI, 80, .inl kf1_w68))) pl (.inl (cI, 80, .inl pf1_w68))) t_w1 (.inr (4, [.ref q_w1, .int (nI n1_w68), .int tl1_w68, .int (nI nt)]))) (congrArg (fun W => gv_up W t_w1 (.inr (4, [.ref q_w1, .int (nI n1_w68), .int tl1_w68, .int (nI nt)]))) ((gv_uc (Ne.symm ne38)).trans (congrArg (fun W => gv_up W pl (.inl (cI, 80, .inl pf1_w68))) ((gv_uc (Ne.symm ne37)).trans (congrArg (fun W => gv_up W ky (.inl (cI, 80, .inl kf1_w68))) ((gv_uc (Ne.symm ne36)).trans (congrArg (fun W => gv_up W av (.inl (cI, 30, .inl vl1_w68))) ((gv_uc (Ne.symm ne39)).trans (congrArg (fun W => gv_up W tb (.inl (cR, 120, .inr (.inr (.inr (.inr (va_up tf (i * 4 + g) (some t_w1)))))))) gv_uu))))))))) ?_
              refine k_view (V1 := gv_up (gv_up (gv_up (gv_up (gv_up (gv_up V t_w1 (.inr (4, [.ref q_w1, .int (nI n1_w68), .int tl1_w68, .int (nI nt)]))) q_w1 (.inl (cI, 486, .inl f1_w68))) tb (.inl (cR, 120, .inr (.inr (.inr (.inr (va_up tf (i * 4 + g) (some t_w1)))))))) av (.inl (cI, 30, .inl vl1_w68))) ky (.inl (cI, 80, .inl kf1_w68))) pl (.inl (cI, 80, .inl pf1_w68))) ((gv_uc (Ne.symm ne18)).trans (congrArg (fun W => gv_up W pl (.inl (cI, 80, .inl pf1_w68))) ((gv_uc (Ne.symm ne17)).trans (congrArg (fun W => gv_up W ky (.inl (cI, 80, .inl kf1_w68))) ((gv_uc (Ne.symm ne16)).trans (congrArg (fun W => gv_up W av (.inl (cI, 30, .inl vl1_w68))) ((gv_uc (Ne.symm ne19)).trans (congrArg (fun W => gv_up W tb (.inl (cR, 120, .inr (.inr (.inr (.inr (va_up tf (i * 4 + g) (some t_w1)))))))) ((gv_uc htq_w1).trans (congrArg (fun W => gv_up W q_w1 (.inl (cI, 486, .inl f1_w68))) gv_uu)))))))))) ?_
              refine k_goto (tgt := 166) C dX1_refresh_134 (by decide) ?_
              refine k_view (V1 := gv_up (gv_up (gv_up (gv_up (gv_up (gv_up V t_w1 (.inr (4, [.ref q_w1, .int (nI n1_w68), .int tl1_w68, .int (nI nt)]))) q_w1 (.inl (cI, 486, .inl f1_w68))) av (.inl (cI, 30, .inl vl1_w68))) tb (.inl (cR, 120, .inr (.inr (.inr (.inr (va_up tf (i * 4 + g) (some t_w1)))))))) ky (.inl (cI, 80, .inl kf1_w68))) pl (.inl (cI, 80, .inl pf1_w68))) (congrArg (fun W => gv_up W pl (.inl (cI, 80, .inl pf1_w68))) (congrArg (fun W => gv_up W ky (.inl (cI, 80, .inl kf1_w68))) (gv_uc ne63))) ?_
              refine k_view (V1 := gv_up (gv_up (gv_up (gv_up (gv_up (gv_up V t_w1 (.inr (4, [.ref q_w1, .int (nI n1_w68), .int tl1_w68, .int (nI nt)]))) av (.inl (cI, 30, .inl vl1_w68))) q_w1 (.inl (cI, 486, .inl f1_w68))) tb (.inl (cR, 120, .inr (.inr (.inr (.inr (va_up tf (i * 4 + g) (some t_w1)))))))) ky (.inl (cI, 80, .inl kf1_w68))) pl (.inl (cI, 80, .inl pf1_w68))) (congrArg (fun W => gv_up W pl (.inl (cI, 80, .inl pf1_w68))) (congrArg (fun W => gv_up W ky (.inl (cI, 80, .inl kf1_w68))) (congrArg (fun W => gv_up W tb (.inl (cR, 120, .inr (.inr (.inr (.inr (va_up tf (i * 4 + g) (some t_w1)))))))) (gv_uc ne36)))) ?_
              refine k_view (V1 := gv_up (gv_up (gv_up (gv_up (gv_up (gv_up V av (.inl (cI, 30, .inl vl1_w68))) t_w1 (.inr (4, [.ref q_w1, .int (nI n1_w68), .int tl1_w68, .int (nI nt)]))) q_w1 (.inl (cI, 486, .inl f1_w68))) tb (.inl (cR, 120, .inr (.inr (.inr (.inr (va_up tf (i * 4 + g) (some t_w1)))))))) ky (.inl (cI, 80, .inl kf1_w68))) pl (.inl (cI, 80, .inl pf1_w68))) (congrArg (fun W => gv_up W pl (.inl (cI, 80, .inl pf1_w68))) (congrArg (fun W => gv_up W ky (.inl (cI, 80, .inl kf1_w68))) (congrArg (fun W => gv_up W tb (.inl (cR, 120, .inr (.inr (.inr (.inr (va_up tf (i * 4 + g) (some t_w1)))))))) (congrArg (fun W => gv_up W q_w1 (.inl (cI, 486, .inl f1_w68))) (gv_uc ne16))))) ?_
              refine k_view (V1 := gv_up (gv_up (gv_up (gv_up (gv_up (gv_up V av (.inl (cI, 30, .inl vl1_w68))) t_w1 (.inr (4, [.ref q_w1, .int (nI n1_w68), .int tl1_w68, .int (nI nt)]))) q_w1 (.inl (cI, 486, .inl f1_w68))) ky (.inl (cI, 80, .inl kf1_w68))) tb (.inl (cR, 120, .inr (.inr (.inr (.inr (va_up tf (i * 4 + g) (some t_w1)))))))) pl (.inl (cI, 80, .inl pf1_w68))) (congrArg (fun W => gv_up W pl (.inl (cI, 80, .inl pf1_w68))) (gv_uc ne66)) ?_
              refine k_view (V1 := gv_up (gv_up (gv_up (gv_up (gv_up (gv_up V av (.inl (cI, 30, .inl vl1_w68))) t_w1 (.inr (4, [.ref q_w1, .int (nI n1_w68), .int tl1_w68, .int (nI nt)]))) ky (.inl (cI, 80, .inl kf1_w68))) q_w1 (.inl (cI, 486, .inl f1_w68))) tb (.inl (cR, 120, .inr (.inr (.inr (.inr (va_up tf (i * 4 + g) (some t_w1)))))))) pl (.inl (cI, 80, .inl pf1_w68))) (congrArg (fun W => gv_up W pl (.inl (cI, 80, .inl pf1_w68))) (congrArg (fun W => gv_up W tb (.inl (cR, 120, .inr (.inr (.inr (.inr (va_up tf (i * 4 + g) (some t_w1)))))))) (gv_uc ne37))) ?_
              refine k_view (V1 := gv_up (gv_up (gv_up (gv_up (gv_up (gv_up V av (.inl (cI, 30, .inl vl1_w68))) ky (.inl (cI, 80, .inl kf1_w68))) t_w1 (.inr (4, [.ref q_w1, .int (nI n1_w68), .int tl1_w68, .int (nI nt)]))) q_w1 (.inl (cI, 486, .inl f1_w68))) tb (.inl (cR, 120, .inr (.inr (.inr (.inr (va_up tf (i * 4 + g) (some t_w1)))))))) pl (.inl (cI, 80, .inl pf1_w68))) (congrArg (fun W => gv_up W pl (.inl (cI, 80, .inl pf1_w68))) (congrArg (fun W => gv_up W tb (.inl (cR, 120, .inr (.inr (.inr (.inr (va_up tf (i * 4 + g) (some t_w1)))))))) (congrArg (fun W => gv_up W q_w1 (.inl (cI, 486, .inl f1_w68))) (gv_uc ne17)))) ?_
              refine k_view (V1 := gv_up (gv_up (gv_up (gv_up (gv_up (gv_up V av (.inl (cI, 30, .inl vl1_w68))) ky (.inl (cI, 80, .inl kf1_w68))) t_w1 (.inr (4, [.ref q_w1, .int (nI n1_w68), .int tl1_w68, .int (nI nt)]))) q_w1 (.inl (cI, 486, .inl f1_w68))) pl (.inl (cI, 80, .inl pf1_w68))) tb (.inl (cR, 120, .inr (.inr (.inr (.inr (va_up tf (i * 4 + g) (some t_w1)))))))) (gv_uc ne67) ?_
              refine k_view (V1 := gv_up (gv_up (gv_up (gv_up (gv_up (gv_up V av (.inl (cI, 30, .inl vl1_w68))) ky (.inl (cI, 80, .inl kf1_w68))) t_w1 (.inr (4, [.ref q_w1, .int (nI n1_w68), .int tl1_w68, .int (nI nt)]))) pl (.inl (cI, 80, .inl pf1_w68))) q_w1 (.inl (cI, 486, .inl f1_w68))) tb (.inl (cR, 120, .inr (.inr (.inr (.inr (va_up tf (i * 4 + g) (some t_w1)))))))) (congrArg (fun W => gv_up W tb (.inl (cR, 120, .inr (.inr (.inr (.inr (va_up tf (i * 4 + g) (some t_w1)))))))) (gv_uc ne38)) ?_
              refine k_view (V1 := gv_up (gv_up (gv_up (gv_up (gv_up (gv_up V av (.inl (cI, 30, .inl vl1_w68))) ky (.inl (cI, 80, .inl kf1_w68))) pl (.inl (cI, 80, .inl pf1_w68))) t_w1 (.inr (4, [.ref q_w1, .int (nI n1_w68), .int tl1_w68, .int (nI nt)]))) q_w1 (.inl (cI, 486, .inl f1_w68))) tb (.inl (cR, 120, .inr (.inr (.inr (.inr (va_up tf (i * 4 + g) (some t_w1)))))))) (congrArg (fun W => gv_up W tb (.inl (cR, 120, .inr (.inr (.inr (.inr (va_up tf (i * 4 + g) (some t_w1)))))))) (congrArg (fun W => gv_up W q_w1 (.inl (cI, 486, .inl f1_w68))) (gv_uc ne18))) ?_
              refine k_view (V1 := gv_up (gv_up (gv_up (gv_up (gv_up (gv_up V av (.inl (cI, 30, .inl vl1_w68))) ky (.inl (cI, 80, .inl kf1_w68))) pl (.inl (cI, 80, .inl pf1_w68))) q_w1 (.inl (cI, 486, .inl f1_w68))) t_w1 (.inr (4, [.ref q_w1, .int (nI n1_w68), .int tl1_w68, .int (nI nt)]))) tb (.inl (cR, 120, .inr (.inr (.inr (.inr (va_up tf (i * 4 + g) (some t_w1)))))))) (congrArg (fun W => gv_up W tb (.inl (cR, 120, .inr (.inr (.inr (.inr (va_up tf (i * 4 + g) (some t_w1)))))))) (gv_uc (Ne.symm htq_w1))) ?_
              exact k_vret C zr zlk ⟨t_w1, q_w1, vl1_w68, kf1_w68, pf1_w68, n1_w68, tl1_w68, f1_w68, rfl, rfl, ht1_w1, hq_w1, htq_w1, ht1_w68⟩ (Nat.le_refl _) (Nat.le_refl _) dX1_refresh_166
        · skip
          exact absurd c94 (by decide)
      · skip
        exact absurd c73 (by decide)
    · skip
      exact absurd c54 (by decide)
  · skip
    exact absurd c18.symm (nI_n1 (by omega))
set_option maxHeartbeats 4000000 in
set_option maxRecDepth 100000 in
theorem c_ref6N {zl : Launch} {D : va_G} {cI cN cR : ClassId} {base : Nat} {V : gv_V} {mo tr nd tb wg ky pl : Nat} {tga tsa tpa tqa nt : Nat} {tg ts tp tq : Nat → Int32} {nl nn : Nat} {nf : Nat → Option Nat} {no : Nat} {ps pp po st fr ln dn ag gr : Int32} {e vv : Nat} {xe ak af as ap av ne : Nat} {kd fs sc pt vl : Nat → Int32} {kf pf : Nat → Int32} {tf : Nat → Option Nat} {i g a0 : Nat} {E : Nat → Ex} {a c n : Nat} {tl mk : Int32} {f : Nat → Int32} {SA : Option (List Row)}  (h_mo : V mo = some (.inr (1, [.ref tr, .ref xe, .ref nd, .ref tb, .ref wg, .ref ky, .ref pl]))) (h_tr : V tr = some (.inr (5, [.ref tga, .ref tsa, .ref tpa, .ref tqa, .int (nI nt)]))) (h_tga : V tga = some (.inl (cI, 60, .inl tg))) (h_tsa : V tsa = some (.inl (cI, 60, .inl ts))) (h_tpa : V tpa = some (.inl (cI, 60, .inl tp))) (h_tqa : V tqa = some (.inl (cI, 60, .inl tq))) (h_nd : V nd = some (.inr (3, [.ref nl, .int (nI nn)]))) (h_nl : V nl = some (.inl (cN, 30, .inr (.inr (.inr (.inr nf)))))) (h_no : V no = some (.inr (2, [.int (nI 6), .int (nI a0), .int (-1 : Int32), .int ps, .int pp, .int po, .int (nI e), .int (nI vv), .int st, .int fr, .int ln, .int dn, .int ag, .int gr]))) (h_xe : V xe = some (.inr (0, [.ref ak, .ref af, .ref as, .ref ap, .ref av, .int (nI ne)]))) (h_ak : V ak = some (.inl (cI, 30, .inl kd))) (h_af : V af = some (.inl (cI, 30, .inl fs))) (h_as : V as = some (.inl (cI, 30, .inl sc))) (h_ap : V ap = some (.inl (cI, 30, .inl pt))) (h_av : V av = some (.inl (cI, 30, .inl vl))) (h_ky : V ky = some (.inl (cI, 80, .inl kf))) (h_pl : V pl = some (.inl (cI, 80, .inl pf))) (h_tb : V tb = some (.inl (cR, 120, .inr (.inr (.inr (.inr tf)))))) (h_a : V a = some (.inr (4, [.ref c, .int (nI n), .int tl, .int mk]))) (h_c : V c = some (.inl (cI, 486, .inl f))) (hX : ExR E ne kd fs sc pt) (hd : [ak, af, as, ap, av].Nodup) (hi : i < 30) (hg : g < 4) (hnf : nf i = some no) (hky : nq ky pl) (hnt : nt ≤ 60) (ht : tf (i * 4 + g) = none) (ha0 : a0 < i) (hta : tf (a0 * 4 + g) = some a) (hSa : TRep SA n tl f) (he : e < ne) (hvv : vv < 6) : ct zl D [(cI, .int), (cN, .object "AlgebraTree$Node"), (cR, .object "AlgebraTree$Rows")] base yX1_refresh cX1_refresh 6 none 5 2 490 [.ref mo, .int (nI i), .int (nI g)] V (fun zv zV => ∃ t : Nat, ∃ q : Nat, ∃ vl1 : Nat → Int32, ∃ kf1 : Nat → Int32, ∃ pf1 : Nat → Int32, ∃ n1 : Nat, ∃ tl1 : Int32, ∃ f1 : Nat → Int32, zv = none ∧ zV = gv_up (gv_up (gv_up (gv_up (gv_up (gv_up V av (.inl (cI, 30, .inl vl1))) ky (.inl (cI, 80, .inl kf1))) pl (.inl (cI, 80, .inl pf1))) q (.inl (cI, 486, .inl f1))) t (.inr (4, [.ref q, .int (nI n1), .int tl1, .int (nI nt)]))) tb (.inl (cR, 120, .inr (.inr (.inr (.inr (va_up tf (i * 4 + g) (some t))))))) ∧ (V t = none) ∧ (V q = none) ∧ (nq t q) ∧ (TRep (SA.bind (fun A => cap (A.map (fun x => extR vv (ev E x e) x)))) n1 tl1 f1)) := by
  refine ct_of "AlgebraTree$Maker" rfl (by decide) (Nat.le_of_ble_eq_true rfl) ?_
  intro zp ze zs zm zargs zbelow zmeth zc C zr zlk znm
  refine k_pc (pc' := 0) (st' := []) rfl rfl ?_
  show K zp zl ze (gv_rm 5 2 490) zs zm zargs zbelow zmeth zc D base 6 (gv_E D [(cI, .int), (cN, .object "AlgebraTree$Node"), (cR, .object "AlgebraTree$Rows")] base zbelow zargs zs 2 490 (fun zv zV => ∃ t : Nat, ∃ q : Nat, ∃ vl1 : Nat → Int32, ∃ kf1 : Nat → Int32, ∃ pf1 : Nat → Int32, ∃ n1 : Nat, ∃ tl1 : Int32, ∃ f1 : Nat → Int32, zv = none ∧ zV = gv_up (gv_up (gv_up (gv_up (gv_up (gv_up V av (.inl (cI, 30, .inl vl1))) ky (.inl (cI, 80, .inl kf1))) pl (.inl (cI, 80, .inl pf1))) q (.inl (cI, 486, .inl f1))) t (.inr (4, [.ref q, .int (nI n1), .int tl1, .int (nI nt)]))) tb (.inl (cR, 120, .inr (.inr (.inr (.inr (va_up tf (i * 4 + g) (some t))))))) ∧ (V t = none) ∧ (V q = none) ∧ (nq t q) ∧ (TRep (SA.bind (fun A => cap (A.map (fun x => extR vv (ev E x e) x)))) n1 tl1 f1))) V 0 0 [(0, .ref mo), (1, .int (nI i)), (2, .int (nI g))] 0 []
  refine k_aload_n C dX1_refresh_0 rfl 0 rfl ?_
  refine k_iload_n C dX1_refresh_1 rfl 1 rfl ?_
  refine k_iload_n C dX1_refresh_2 rfl 2 rfl ?_
  refine k_callV C mv_1_56 (c_tableOfN  h_mo h_tb (by first | assumption | omega) (by first | assumption | omega) (by first | assumption | omega)) h_mo rfl rfl (by simp [Value.category]) ⟨by decide, by decide⟩ ⟨(by decide), (by decide)⟩ dX1_refresh_3 (fun zv zV zh => ?_)
  obtain ⟨t_w1, q_w1, rfl, rfl, ht1_w1, hq_w1, htq_w1⟩ := zh
  refine k_pc (pc' := 6) (st' := .ref t_w1 :: []) rfl rfl ?_
  have ne2 : nq mo t_w1 := gv_nf ht1_w1 h_mo
  have ne3 : nq tr t_w1 := gv_nf ht1_w1 h_tr
  have ne4 : nq tga t_w1 := gv_nf ht1_w1 h_tga
  have ne5 : nq tsa t_w1 := gv_nf ht1_w1 h_tsa
  have ne6 : nq tpa t_w1 := gv_nf ht1_w1 h_tpa
  have ne7 : nq tqa t_w1 := gv_nf ht1_w1 h_tqa
  have ne8 : nq nd t_w1 := gv_nf ht1_w1 h_nd
  have ne9 : nq nl t_w1 := gv_nf ht1_w1 h_nl
  have ne10 : nq no t_w1 := gv_nf ht1_w1 h_no
  have ne11 : nq xe t_w1 := gv_nf ht1_w1 h_xe
  have ne12 : nq ak t_w1 := gv_nf ht1_w1 h_ak
  have ne13 : nq af t_w1 := gv_nf ht1_w1 h_af
  have ne14 : nq as t_w1 := gv_nf ht1_w1 h_as
  have ne15 : nq ap t_w1 := gv_nf ht1_w1 h_ap
  have ne16 : nq av t_w1 := gv_nf ht1_w1 h_av
  have ne17 : nq ky t_w1 := gv_nf ht1_w1 h_ky
  have ne18 : nq pl t_w1 := gv_nf ht1_w1 h_pl
  have ne19 : nq tb t_w1 := gv_nf ht1_w1 h_tb
  have ne20 : nq a t_w1 := gv_nf ht1_w1 h_a
  have ne21 : nq c t_w1 := gv_nf ht1_w1 h_c
  have ne22 : nq mo q_w1 := gv_nf hq_w1 h_mo
  have ne23 : nq tr q_w1 := gv_nf hq_w1 h_tr
  have ne24 : nq tga q_w1 := gv_nf hq_w1 h_tga
  have ne25 : nq tsa q_w1 := gv_nf hq_w1 h_tsa
  have ne26 : nq tpa q_w1 := gv_nf hq_w1 h_tpa
  have ne27 : nq tqa q_w1 := gv_nf hq_w1 h_tqa
  have ne28 : nq nd q_w1 := gv_nf hq_w1 h_nd
  have ne29 : nq nl q_w1 := gv_nf hq_w1 h_nl
  have ne30 : nq no q_w1 := gv_nf hq_w1 h_no
  have ne31 : nq xe q_w1 := gv_nf hq_w1 h_xe
  have ne32 : nq ak q_w1 := gv_nf hq_w1 h_ak
  have ne33 : nq af q_w1 := gv_nf hq_w1 h_af
  have ne34 : nq as q_w1 := gv_nf hq_w1 h_as
  have ne35 : nq ap q_w1 := gv_nf hq_w1 h_ap
  have ne36 : nq av q_w1 := gv_nf hq_w1 h_av
  have ne37 : nq ky q_w1 := gv_nf hq_w1 h_ky
  have ne38 : nq pl q_w1 := gv_nf hq_w1 h_pl
  have ne39 : nq tb q_w1 := gv_nf hq_w1 h_tb
  have ne40 : nq a q_w1 := gv_nf hq_w1 h_a
  have ne41 : nq c q_w1 := gv_nf hq_w1 h_c
  refine k_astore_n (lv' := [(3, .ref t_w1), (0, .ref mo), (1, .int (nI i)), (2, .int (nI g))]) C dX1_refresh_6 rfl (by decide) rfl ?_
  refine k_aload_n C dX1_refresh_7 rfl 0 rfl ?_
  refine k_get (ci := 4) (k := 3) C fl_1_84 ((gv_up_n (Ne.symm ne19)).trans ((gv_up_n htq_w1).trans gv_up_s)) rfl dX1_refresh_8 ?_
  refine k_aload_n C dX1_refresh_11 rfl 1 rfl ?_
  have ne42 : nq mo tb := gv_ne h_tb h_mo (by simp)
  refine k_get (ci := 1) (k := 0) C fl_1_12 ((gv_up_n ne42).trans ((gv_up_n ne22).trans ((gv_up_n ne2).trans h_mo))) rfl dX1_refresh_12 ?_
  have ne43 : nq tr tb := gv_ne h_tb h_tr (by simp)
  refine k_get (ci := 5) (k := 4) C fl_1_87 ((gv_up_n ne43).trans ((gv_up_n ne23).trans ((gv_up_n ne3).trans h_tr))) rfl dX1_refresh_15 ?_
  refine k_icmp_ne (tgt := 22) C dX1_refresh_18 (by decide) (fun c18 => ?_) (fun c18 => ?_)
  · skip
    refine k_aload_n C dX1_refresh_22 rfl 0 rfl ?_
    refine k_callV_pv C mv_1_90 (c_X4_clear  ((gv_up_n (Ne.symm ne19)).trans ((gv_up_n htq_w1).trans gv_up_s)) ((gv_up_n (Ne.symm ne39)).trans gv_up_s) ) ((gv_up_n (Ne.symm ne19)).trans ((gv_up_n htq_w1).trans gv_up_s)) rfl rfl (by simp [Value.category]) ⟨by decide, by decide⟩ ⟨(by decide), (by decide)⟩ dX1_refresh_23 ?_
    refine k_view (V1 := gv_up (gv_up (gv_up V t_w1 (.inr (4, [.ref q_w1, .int (nI 0), .int (nI 0), .int (-1 : Int32)]))) q_w1 (.inl (cI, 486, .inl (fun _ => 0)))) tb (.inl (cR, 120, .inr (.inr (.inr (.inr (va_up tf (i * 4 + g) (some t_w1)))))))) ((gv_uc (Ne.symm ne19)).trans (congrArg (fun W => gv_up W tb (.inl (cR, 120, .inr (.inr (.inr (.inr (va_up tf (i * 4 + g) (some t_w1)))))))) ((gv_uc htq_w1).trans (congrArg (fun W => gv_up W q_w1 (.inl (cI, 486, .inl (fun _ => 0)))) gv_uu)))) ?_
    refine k_aload_n C dX1_refresh_26 rfl 0 rfl ?_
    refine k_aload_n C dX1_refresh_27 rfl 1 rfl ?_
    refine k_get (ci := 1) (k := 0) C fl_1_12 ((gv_up_n ne42).trans ((gv_up_n ne22).trans ((gv_up_n ne2).trans h_mo))) rfl dX1_refresh_28 ?_
    refine k_get (ci := 5) (k := 4) C fl_1_87 ((gv_up_n ne43).trans ((gv_up_n ne23).trans ((gv_up_n ne3).trans h_tr))) rfl dX1_refresh_31 ?_
    refine k_put (ci := 4) (k := 3) (fs' := [.ref q_w1, .int (nI 0), .int (nI 0), .int (nI nt)]) C fl_1_84 pf_4_3 ((gv_up_n (Ne.symm ne19)).trans ((gv_up_n htq_w1).trans gv_up_s)) rfl rfl (Nat.le_of_ble_eq_true rfl) rfl dX1_refresh_34 ?_
    refine k_view (V1 := gv_up (gv_up (gv_up V t_w1 (.inr (4, [.ref q_w1, .int (nI 0), .int (nI 0), .int (nI nt)]))) q_w1 (.inl (cI, 486, .inl (fun _ => 0)))) tb (.inl (cR, 120, .inr (.inr (.inr (.inr (va_up tf (i * 4 + g) (some t_w1)))))))) ((gv_uc (Ne.symm ne19)).trans (congrArg (fun W => gv_up W tb (.inl (cR, 120, .inr (.inr (.inr (.inr (va_up tf (i * 4 + g) (some t_w1)))))))) ((gv_uc htq_w1).trans (congrArg (fun W => gv_up W q_w1 (.inl (cI, 486, .inl (fun _ => 0)))) gv_uu)))) ?_
    refine k_aload_n C dX1_refresh_37 rfl 1 rfl ?_
    refine k_get (ci := 1) (k := 2) C fl_1_28 ((gv_up_n ne42).trans ((gv_up_n ne22).trans ((gv_up_n ne2).trans h_mo))) rfl dX1_refresh_38 ?_
    refine k_iload_n C dX1_refresh_41 rfl 2 rfl ?_
    have ne44 : nq nd tb := gv_ne h_tb h_nd (by simp)
    have ne45 : nq nl tb := gv_ne h_tb h_nl (by simp)
    refine k_callV_pr C mv_1_60 (c_X3_at  ((gv_up_n ne44).trans ((gv_up_n ne28).trans ((gv_up_n ne8).trans h_nd))) ((gv_up_n ne45).trans ((gv_up_n ne29).trans ((gv_up_n ne9).trans h_nl))) (by first | assumption | omega) hnf) ((gv_up_n ne44).trans ((gv_up_n ne28).trans ((gv_up_n ne8).trans h_nd))) rfl rfl (by simp [Value.category]) ⟨by decide, by decide⟩ ⟨(by decide), (by decide)⟩ dX1_refresh_42 ?_
    refine k_astore (lv' := [(4, .ref no), (3, .ref t_w1), (0, .ref mo), (1, .int (nI i)), (2, .int (nI g))]) C dX1_refresh_45 (by decide) rfl ?_
    refine k_aload C dX1_refresh_47 0 rfl ?_
    have ne46 : nq no tb := gv_ne h_tb h_no (by simp)
    refine k_get (ci := 2) (k := 0) C fl_1_77 ((gv_up_n ne46).trans ((gv_up_n ne30).trans ((gv_up_n ne10).trans h_no))) rfl dX1_refresh_49 ?_
    refine k_bipush (v := nI 12) C dX1_refresh_52 rfl ?_
    refine k_icmp_ne (tgt := 65) C dX1_refresh_54 (by decide) (fun c54 => ?_) (fun c54 => ?_)
    · skip
      have b54 : ¬ 6 = 12 := fun z => c54 ((nI_eq (a := 6) (b := 12) (by omega) (by omega)).mpr z)
      refine k_iload_n C dX1_refresh_65 rfl 4 rfl ?_
      refine k_istore (lv' := [(5, .int (nI g)), (4, .ref no), (3, .ref t_w1), (0, .ref mo), (1, .int (nI i)), (2, .int (nI g))]) C dX1_refresh_66 (by decide) rfl ?_
      refine k_aload C dX1_refresh_68 1 rfl ?_
      refine k_get (ci := 2) (k := 0) C fl_1_77 ((gv_up_n ne46).trans ((gv_up_n ne30).trans ((gv_up_n ne10).trans h_no))) rfl dX1_refresh_70 ?_
      refine k_if_ne (tgt := 87) C dX1_refresh_73 (by decide) (fun c73 => ?_) (fun c73 => ?_)
      · skip
        have b73 : ¬ 6 = 0 := fun z => c73 ((nI_eq (a := 6) (b := 0) (by omega) (by omega)).mpr z)
        refine k_aload C dX1_refresh_87 1 rfl ?_
        refine k_get (ci := 2) (k := 0) C fl_1_77 ((gv_up_n ne46).trans ((gv_up_n ne30).trans ((gv_up_n ne10).trans h_no))) rfl dX1_refresh_89 ?_
        refine k_bipush (v := nI 13) C dX1_refresh_92 rfl ?_
        refine k_icmp_ne (tgt := 107) C dX1_refresh_94 (by decide) (fun c94 => ?_) (fun c94 => ?_)
        · skip
          have b94 : ¬ 6 = 13 := fun z => c94 ((nI_eq (a := 6) (b := 13) (by omega) (by omega)).mpr z)
          refine k_aload C dX1_refresh_107 1 rfl ?_
          refine k_get (ci := 2) (k := 2) C fl_1_74 ((gv_up_n ne46).trans ((gv_up_n ne30).trans ((gv_up_n ne10).trans h_no))) rfl dX1_refresh_109 ?_
          refine k_iconst (v := (-1 : Int32)) C dX1_refresh_112 (by decide) ?_
          refine k_icmp_ne (tgt := 137) C dX1_refresh_113 (by decide) (fun c113 => ?_) (fun c113 => ?_)
          · skip
            exact absurd rfl c113
          · skip
            refine k_aload_n C dX1_refresh_116 rfl 3 rfl ?_
            refine k_aload C dX1_refresh_117 1 rfl ?_
            refine k_aload_n C dX1_refresh_119 rfl 3 rfl ?_
            refine k_aload C dX1_refresh_120 1 rfl ?_
            refine k_get (ci := 2) (k := 1) C fl_1_68 ((gv_up_n ne46).trans ((gv_up_n ne30).trans ((gv_up_n ne10).trans h_no))) rfl dX1_refresh_122 ?_
            refine k_iload C dX1_refresh_125 0 rfl ?_
            refine k_callV_pr C mv_1_56 (c_tableOf  ((gv_up_n ne42).trans ((gv_up_n ne22).trans ((gv_up_n ne2).trans h_mo))) gv_up_s (by first | assumption | omega) (by first | assumption | omega) (by simp only [va_up]; rw [if_neg (by omega)]; exact hta)) ((gv_up_n ne42).trans ((gv_up_n ne22).trans ((gv_up_n ne2).trans h_mo))) rfl rfl (by simp [Value.category]) ⟨by decide, by decide⟩ ⟨(by decide), (by decide)⟩ dX1_refresh_127 ?_
            refine k_aload_n C dX1_refresh_130 rfl 2 rfl ?_
            rcases SA with _ | A
            · skip
              have ne47 : nq xe tb := gv_ne h_tb h_xe (by simp)
              have ne48 : nq ak tb := gv_ne h_tb h_ak (by simp)
              have ne49 : nq af tb := gv_ne h_tb h_af (by simp)
              have ne50 : nq as tb := gv_ne h_tb h_as (by simp)
              have ne51 : nq ap tb := gv_ne h_tb h_ap (by simp)
              have ne52 : nq av tb := gv_ne h_tb h_av (by simp)
              have ne53 : nq a tb := gv_ne h_tb h_a (by simp)
              have ne54 : nq c tb := gv_ne h_tb h_c (by simp)
              have ne55 : nq ky tb := gv_ne h_tb h_ky (by simp)
              have ne56 : nq pl tb := gv_ne h_tb h_pl (by simp)
              refine k_callV C mv_1_101 (c_overL  ((gv_up_n ne42).trans ((gv_up_n ne22).trans ((gv_up_n ne2).trans h_mo))) ((gv_up_n ne46).trans ((gv_up_n ne30).trans ((gv_up_n ne10).trans h_no))) ((gv_up_n ne47).trans ((gv_up_n ne31).trans ((gv_up_n ne11).trans h_xe))) ((gv_up_n ne48).trans ((gv_up_n ne32).trans ((gv_up_n ne12).trans h_ak))) ((gv_up_n ne49).trans ((gv_up_n ne33).trans ((gv_up_n ne13).trans h_af))) ((gv_up_n ne50).trans ((gv_up_n ne34).trans ((gv_up_n ne14).trans h_as))) ((gv_up_n ne51).trans ((gv_up_n ne35).trans ((gv_up_n ne15).trans h_ap))) ((gv_up_n ne52).trans ((gv_up_n ne36).trans ((gv_up_n ne16).trans h_av))) ((gv_up_n ne53).trans ((gv_up_n ne40).trans ((gv_up_n ne20).trans h_a))) ((gv_up_n ne54).trans ((gv_up_n ne41).trans ((gv_up_n ne21).trans h_c))) ((gv_up_n (Ne.symm ne19)).trans ((gv_up_n htq_w1).trans gv_up_s)) ((gv_up_n (Ne.symm ne39)).trans gv_up_s) ((gv_up_n ne55).trans ((gv_up_n ne37).trans ((gv_up_n ne17).trans h_ky))) ((gv_up_n ne56).trans ((gv_up_n ne38).trans ((gv_up_n ne18).trans h_pl))) hSa (by first | assumption | omega) (Ne.symm ne20) (Ne.symm ne41) hky) ((gv_up_n ne42).trans ((gv_up_n ne22).trans ((gv_up_n ne2).trans h_mo))) rfl rfl (by simp [Value.category]) ⟨by decide, by decide⟩ ⟨(by decide), (by decide)⟩ dX1_refresh_131 (fun zv zV zh => ?_)
              obtain ⟨vl1_w57, kf1_w57, pf1_w57, n1_w57, tl1_w57, f1_w57, rfl, rfl, ht1_w57⟩ := zh
              refine k_pc (pc' := 134) (st' := []) rfl rfl ?_
              refine k_view (V1 := gv_up (gv_up (gv_up (gv_up (gv_up (gv_up (gv_up V t_w1 (.inr (4, [.ref q_w1, .int (nI 0), .int (nI 0), .int (nI nt)]))) q_w1 (.inl (cI, 486, .inl f1_w57))) tb (.inl (cR, 120, .inr (.inr (.inr (.inr (va_up tf (i * 4 + g) (some t_w1)))))))) av (.inl (cI, 30, .inl vl1_w57))) ky (.inl (cI, 80, .inl kf1_w57))) pl (.inl (cI, 80, .inl pf1_w57))) t_w1 (.inr (4, [.ref q_w1, .int (nI n1_w57), .int tl1_w57, .int (nI nt)]))) (congrArg (fun W => gv_up W t_w1 (.inr (4, [.ref q_w1, .int (nI n1_w57), .int tl1_w57, .int (nI nt)]))) ((gv_uc (Ne.symm ne38)).trans (congrArg (fun W => gv_up W pl (.inl (cI, 80, .inl pf1_w57))) ((gv_uc (Ne.symm ne37)).trans (congrArg (fun W => gv_up W ky (.inl (cI, 80, .inl kf1_w57))) ((gv_uc (Ne.symm ne36)).trans (congrArg (fun W => gv_up W av (.inl (cI, 30, .inl vl1_w57))) ((gv_uc (Ne.symm ne39)).trans (congrArg (fun W => gv_up W tb (.inl (cR, 120, .inr (.inr (.inr (.inr (va_up tf (i * 4 + g) (some t_w1)))))))) gv_uu))))))))) ?_
              refine k_view (V1 := gv_up (gv_up (gv_up (gv_up (gv_up (gv_up V t_w1 (.inr (4, [.ref q_w1, .int (nI n1_w57), .int tl1_w57, .int (nI nt)]))) q_w1 (.inl (cI, 486, .inl f1_w57))) tb (.inl (cR, 120, .inr (.inr (.inr (.inr (va_up tf (i * 4 + g) (some t_w1)))))))) av (.inl (cI, 30, .inl vl1_w57))) ky (.inl (cI, 80, .inl kf1_w57))) pl (.inl (cI, 80, .inl pf1_w57))) ((gv_uc (Ne.symm ne18)).trans (congrArg (fun W => gv_up W pl (.inl (cI, 80, .inl pf1_w57))) ((gv_uc (Ne.symm ne17)).trans (congrArg (fun W => gv_up W ky (.inl (cI, 80, .inl kf1_w57))) ((gv_uc (Ne.symm ne16)).trans (congrArg (fun W => gv_up W av (.inl (cI, 30, .inl vl1_w57))) ((gv_uc (Ne.symm ne19)).trans (congrArg (fun W => gv_up W tb (.inl (cR, 120, .inr (.inr (.inr (.inr (va_up tf (i * 4 + g) (some t_w1)))))))) ((gv_uc htq_w1).trans (congrArg (fun W => gv_up W q_w1 (.inl (cI, 486, .inl f1_w57))) gv_uu)))))))))) ?_
              refine k_goto (tgt := 166) C dX1_refresh_134 (by decide) ?_
              refine k_view (V1 := gv_up (gv_up (gv_up (gv_up (gv_up (gv_up V t_w1 (.inr (4, [.ref q_w1, .int (nI n1_w57), .int tl1_w57, .int (nI nt)]))) q_w1 (.inl (cI, 486, .inl f1_w57))) av (.inl (cI, 30, .inl vl1_w57))) tb (.inl (cR, 120, .inr (.inr (.inr (.inr (va_up tf (i * 4 + g) (some t_w1)))))))) ky (.inl (cI, 80, .inl kf1_w57))) pl (.inl (cI, 80, .inl pf1_w57))) (congrArg (fun W => gv_up W pl (.inl (cI, 80, .inl pf1_w57))) (congrArg (fun W => gv_up W ky (.inl (cI, 80, .inl kf1_w57))) (gv_uc ne52))) ?_
              refine k_view (V1 := gv_up (gv_up (gv_up (gv_up (gv_up (gv_up V t_w1 (.inr (4, [.ref q_w1, .int (nI n1_w57), .int tl1_w57, .int (nI nt)]))) av (.inl (cI, 30, .inl vl1_w57))) q_w1 (.inl (cI, 486, .inl f1_w57))) tb (.inl (cR, 120, .inr (.inr (.inr (.inr (va_up tf (i * 4 + g) (some t_w1)))))))) ky (.inl (cI, 80, .inl kf1_w57))) pl (.inl (cI, 80, .inl pf1_w57))) (congrArg (fun W => gv_up W pl (.inl (cI, 80, .inl pf1_w57))) (congrArg (fun W => gv_up W ky (.inl (cI, 80, .inl kf1_w57))) (congrArg (fun W => gv_up W tb (.inl (cR, 120, .inr (.inr (.inr (.inr (va_up tf (i * 4 + g) (some t_w1)))))))) (gv_uc ne36)))) ?_
              refine k_view (V1 := gv_up (gv_up (gv_up (gv_up (gv_up (gv_up V av (.inl (cI, 30, .inl vl1_w57))) t_w1 (.inr (4, [.ref q_w1, .int (nI n1_w57), .int tl1_w57, .int (nI nt)]))) q_w1 (.inl (cI, 486, .inl f1_w57))) tb (.inl (cR, 120, .inr (.inr (.inr (.inr (va_up tf (i * 4 + g) (some t_w1)))))))) ky (.inl (cI, 80, .inl kf1_w57))) pl (.inl (cI, 80, .inl pf1_w57))) (congrArg (fun W => gv_up W pl (.inl (cI, 80, .inl pf1_w57))) (congrArg (fun W => gv_up W ky (.inl (cI, 80, .inl kf1_w57))) (congrArg (fun W => gv_up W tb (.inl (cR, 120, .inr (.inr (.inr (.inr (va_up tf (i * 4 + g) (some t_w1)))))))) (congrArg (fun W => gv_up W q_w1 (.inl (cI, 486, .inl f1_w57))) (gv_uc ne16))))) ?_
              refine k_view (V1 := gv_up (gv_up (gv_up (gv_up (gv_up (gv_up V av (.inl (cI, 30, .inl vl1_w57))) t_w1 (.inr (4, [.ref q_w1, .int (nI n1_w57), .int tl1_w57, .int (nI nt)]))) q_w1 (.inl (cI, 486, .inl f1_w57))) ky (.inl (cI, 80, .inl kf1_w57))) tb (.inl (cR, 120, .inr (.inr (.inr (.inr (va_up tf (i * 4 + g) (some t_w1)))))))) pl (.inl (cI, 80, .inl pf1_w57))) (congrArg (fun W => gv_up W pl (.inl (cI, 80, .inl pf1_w57))) (gv_uc ne55)) ?_
              refine k_view (V1 := gv_up (gv_up (gv_up (gv_up (gv_up (gv_up V av (.inl (cI, 30, .inl vl1_w57))) t_w1 (.inr (4, [.ref q_w1, .int (nI n1_w57), .int tl1_w57, .int (nI nt)]))) ky (.inl (cI, 80, .inl kf1_w57))) q_w1 (.inl (cI, 486, .inl f1_w57))) tb (.inl (cR, 120, .inr (.inr (.inr (.inr (va_up tf (i * 4 + g) (some t_w1)))))))) pl (.inl (cI, 80, .inl pf1_w57))) (congrArg (fun W => gv_up W pl (.inl (cI, 80, .inl pf1_w57))) (congrArg (fun W => gv_up W tb (.inl (cR, 120, .inr (.inr (.inr (.inr (va_up tf (i * 4 + g) (some t_w1)))))))) (gv_uc ne37))) ?_
              refine k_view (V1 := gv_up (gv_up (gv_up (gv_up (gv_up (gv_up V av (.inl (cI, 30, .inl vl1_w57))) ky (.inl (cI, 80, .inl kf1_w57))) t_w1 (.inr (4, [.ref q_w1, .int (nI n1_w57), .int tl1_w57, .int (nI nt)]))) q_w1 (.inl (cI, 486, .inl f1_w57))) tb (.inl (cR, 120, .inr (.inr (.inr (.inr (va_up tf (i * 4 + g) (some t_w1)))))))) pl (.inl (cI, 80, .inl pf1_w57))) (congrArg (fun W => gv_up W pl (.inl (cI, 80, .inl pf1_w57))) (congrArg (fun W => gv_up W tb (.inl (cR, 120, .inr (.inr (.inr (.inr (va_up tf (i * 4 + g) (some t_w1)))))))) (congrArg (fun W => gv_up W q_w1 (.inl (cI, 486, .inl f1_w57))) (gv_uc ne17)))) ?_
              refine k_view (V1 := gv_up (gv_up (gv_up (gv_up (gv_up (gv_up V av (.inl (cI, 30, .inl vl1_w57))) ky (.inl (cI, 80, .inl kf1_w57))) t_w1 (.inr (4, [.ref q_w1, .int (nI n1_w57), .int tl1_w57, .int (nI nt)]))) q_w1 (.inl (cI, 486, .inl f1_w57))) pl (.inl (cI, 80, .inl pf1_w57))) tb (.inl (cR, 120, .inr (.inr (.inr (.inr (va_up tf (i * 4 + g) (some t_w1)))))))) (gv_uc ne56) ?_
              refine k_view (V1 := gv_up (gv_up (gv_up (gv_up (gv_up (gv_up V av (.inl (cI, 30, .inl vl1_w57))) ky (.inl (cI, 80, .inl kf1_w57))) t_w1 (.inr (4, [.ref q_w1, .int (nI n1_w57), .int tl1_w57, .int (nI nt)]))) pl (.inl (cI, 80, .inl pf1_w57))) q_w1 (.inl (cI, 486, .inl f1_w57))) tb (.inl (cR, 120, .inr (.inr (.inr (.inr (va_up tf (i * 4 + g) (some t_w1)))))))) (congrArg (fun W => gv_up W tb (.inl (cR, 120, .inr (.inr (.inr (.inr (va_up tf (i * 4 + g) (some t_w1)))))))) (gv_uc ne38)) ?_
              refine k_view (V1 := gv_up (gv_up (gv_up (gv_up (gv_up (gv_up V av (.inl (cI, 30, .inl vl1_w57))) ky (.inl (cI, 80, .inl kf1_w57))) pl (.inl (cI, 80, .inl pf1_w57))) t_w1 (.inr (4, [.ref q_w1, .int (nI n1_w57), .int tl1_w57, .int (nI nt)]))) q_w1 (.inl (cI, 486, .inl f1_w57))) tb (.inl (cR, 120, .inr (.inr (.inr (.inr (va_up tf (i * 4 + g) (some t_w1)))))))) (congrArg (fun W => gv_up W tb (.inl (cR, 120, .inr (.inr (.inr (.inr (va_up tf (i * 4 + g) (some t_w1)))))))) (congrArg (fun W => gv_up W q_w1 (.inl (cI, 486, .inl f1_w57))) (gv_uc ne18))) ?_
              refine k_view (V1 := gv_up (gv_up (gv_up (gv_up (gv_up (gv_up V av (.inl (cI, 30, .inl vl1_w57))) ky (.inl (cI, 80, .inl kf1_w57))) pl (.inl (cI, 80, .inl pf1_w57))) q_w1 (.inl (cI, 486, .inl f1_w57))) t_w1 (.inr (4, [.ref q_w1, .int (nI n1_w57), .int tl1_w57, .int (nI nt)]))) tb (.inl (cR, 120, .inr (.inr (.inr (.inr (va_up tf (i * 4 + g) (some t_w1)))))))) (congrArg (fun W => gv_up W tb (.inl (cR, 120, .inr (.inr (.inr (.inr (va_up tf (i * 4 + g) (some t_w1)))))))) (gv_uc (Ne.symm htq_w1))) ?_
              exact k_vret C zr zlk ⟨t_w1, q_w1, vl1_w57, kf1_w57, pf1_w57, n1_w57, tl1_w57, f1_w57, rfl, rfl, ht1_w1, hq_w1, htq_w1, ht1_w57⟩ (Nat.le_refl _) (Nat.le_refl _) dX1_refresh_166
            · skip
              have ne58 : nq xe tb := gv_ne h_tb h_xe (by simp)
              have ne59 : nq ak tb := gv_ne h_tb h_ak (by simp)
              have ne60 : nq af tb := gv_ne h_tb h_af (by simp)
              have ne61 : nq as tb := gv_ne h_tb h_as (by simp)
              have ne62 : nq ap tb := gv_ne h_tb h_ap (by simp)
              have ne63 : nq av tb := gv_ne h_tb h_av (by simp)
              have ne64 : nq a tb := gv_ne h_tb h_a (by simp)
              have ne65 : nq c tb := gv_ne h_tb h_c (by simp)
              have ne66 : nq ky tb := gv_ne h_tb h_ky (by simp)
              have ne67 : nq pl tb := gv_ne h_tb h_pl (by simp)
              refine k_callV C mv_1_101 (c_over6  ((gv_up_n ne42).trans ((gv_up_n ne22).trans ((gv_up_n ne2).trans h_mo))) ((gv_up_n ne46).trans ((gv_up_n ne30).trans ((gv_up_n ne10).trans h_no))) ((gv_up_n ne58).trans ((gv_up_n ne31).trans ((gv_up_n ne11).trans h_xe))) ((gv_up_n ne59).trans ((gv_up_n ne32).trans ((gv_up_n ne12).trans h_ak))) ((gv_up_n ne60).trans ((gv_up_n ne33).trans ((gv_up_n ne13).trans h_af))) ((gv_up_n ne61).trans ((gv_up_n ne34).trans ((gv_up_n ne14).trans h_as))) ((gv_up_n ne62).trans ((gv_up_n ne35).trans ((gv_up_n ne15).trans h_ap))) ((gv_up_n ne63).trans ((gv_up_n ne36).trans ((gv_up_n ne16).trans h_av))) ((gv_up_n ne64).trans ((gv_up_n ne40).trans ((gv_up_n ne20).trans h_a))) ((gv_up_n ne65).trans ((gv_up_n ne41).trans ((gv_up_n ne21).trans h_c))) ((gv_up_n (Ne.symm ne19)).trans ((gv_up_n htq_w1).trans gv_up_s)) ((gv_up_n (Ne.symm ne39)).trans gv_up_s) ((gv_up_n ne66).trans ((gv_up_n ne37).trans ((gv_up_n ne17).trans h_ky))) ((gv_up_n ne67).trans ((gv_up_n ne38).trans ((gv_up_n ne18).trans h_pl))) (by first | assumption | omega) (by first | assumption | omega) hSa.2 (Ne.symm ne20) (Ne.symm ne41) hSa.1 hky (by first | assumption | omega) (by first | assumption | omega)) ((gv_up_n ne42).trans ((gv_up_n ne22).trans ((gv_up_n ne2).trans h_mo))) rfl rfl (by simp [Value.category]) ⟨by decide, by decide⟩ ⟨(by decide), (by decide)⟩ dX1_refresh_131 (fun zv zV zh => ?_)
              obtain ⟨vl1_w68, kf1_w68, pf1_w68, n1_w68, tl1_w68, f1_w68, rfl, rfl, ht1_w68⟩ := zh
              refine k_pc (pc' := 134) (st' := []) rfl rfl ?_
              refine k_view (V1 := gv_up (gv_up (gv_up (gv_up (gv_up (gv_up (gv_up V t_w1 (.inr (4, [.ref q_w1, .int (nI 0), .int (nI 0), .int (nI nt)]))) q_w1 (.inl (cI, 486, .inl f1_w68))) tb (.inl (cR, 120, .inr (.inr (.inr (.inr (va_up tf (i * 4 + g) (some t_w1)))))))) av (.inl (cI, 30, .inl vl1_w68))) ky (.inl (cI, 80, .inl kf1_w68))) pl (.inl (cI, 80, .inl pf1_w68))) t_w1 (.inr (4, [.ref q_w1, .int (nI n1_w68), .int tl1_w68, .int (nI nt)]))) (congrArg (fun W => gv_up W t_w1 (.inr (4, [.ref q_w1, .int (nI n1_w68), .int tl1_w68, .int (nI nt)]))) ((gv_uc (Ne.symm ne38)).trans (congrArg (fun W => gv_up W pl (.inl (cI, 80, .inl pf1_w68))) ((gv_uc (Ne.symm ne37)).trans (congrArg (fun W => gv_up W ky (.inl (cI, 80, .inl kf1_w68))) ((gv_uc (Ne.symm ne36)).trans (congrArg (fun W => gv_up W av (.inl (cI, 30, .inl vl1_w68))) ((gv_uc (Ne.symm ne39)).trans (congrArg (fun W => gv_up W tb (.inl (cR, 120, .inr (.inr (.inr (.inr (va_up tf (i * 4 + g) (some t_w1)))))))) gv_uu))))))))) ?_
              refine k_view (V1 := gv_up (gv_up (gv_up (gv_up (gv_up (gv_up V t_w1 (.inr (4, [.ref q_w1, .int (nI n1_w68), .int tl1_w68, .int (nI nt)]))) q_w1 (.inl (cI, 486, .inl f1_w68))) tb (.inl (cR, 120, .inr (.inr (.inr (.inr (va_up tf (i * 4 + g) (some t_w1)))))))) av (.inl (cI, 30, .inl vl1_w68))) ky (.inl (cI, 80, .inl kf1_w68))) pl (.inl (cI, 80, .inl pf1_w68))) ((gv_uc (Ne.symm ne18)).trans (congrArg (fun W => gv_up W pl (.inl (cI, 80, .inl pf1_w68))) ((gv_uc (Ne.symm ne17)).trans (congrArg (fun W => gv_up W ky (.inl (cI, 80, .inl kf1_w68))) ((gv_uc (Ne.symm ne16)).trans (congrArg (fun W => gv_up W av (.inl (cI, 30, .inl vl1_w68))) ((gv_uc (Ne.symm ne19)).trans (congrArg (fun W => gv_up W tb (.inl (cR, 120, .inr (.inr (.inr (.inr (va_up tf (i * 4 + g) (some t_w1)))))))) ((gv_uc htq_w1).trans (congrArg (fun W => gv_up W q_w1 (.inl (cI, 486, .inl f1_w68))) gv_uu)))))))))) ?_
              refine k_goto (tgt := 166) C dX1_refresh_134 (by decide) ?_
              refine k_view (V1 := gv_up (gv_up (gv_up (gv_up (gv_up (gv_up V t_w1 (.inr (4, [.ref q_w1, .int (nI n1_w68), .int tl1_w68, .int (nI nt)]))) q_w1 (.inl (cI, 486, .inl f1_w68))) av (.inl (cI, 30, .inl vl1_w68))) tb (.inl (cR, 120, .inr (.inr (.inr (.inr (va_up tf (i * 4 + g) (some t_w1)))))))) ky (.inl (cI, 80, .inl kf1_w68))) pl (.inl (cI, 80, .inl pf1_w68))) (congrArg (fun W => gv_up W pl (.inl (cI, 80, .inl pf1_w68))) (congrArg (fun W => gv_up W ky (.inl (cI, 80, .inl kf1_w68))) (gv_uc ne63))) ?_
              refine k_view (V1 := gv_up (gv_up (gv_up (gv_up (gv_up (gv_up V t_w1 (.inr (4, [.ref q_w1, .int (nI n1_w68), .int tl1_w68, .int (nI nt)]))) av (.inl (cI, 30, .inl vl1_w68))) q_w1 (.inl (cI, 486, .inl f1_w68))) tb (.inl (cR, 120, .inr (.inr (.inr (.inr (va_up tf (i * 4 + g) (some t_w1)))))))) ky (.inl (cI, 80, .inl kf1_w68))) pl (.inl (cI, 80, .inl pf1_w68))) (congrArg (fun W => gv_up W pl (.inl (cI, 80, .inl pf1_w68))) (congrArg (fun W => gv_up W ky (.inl (cI, 80, .inl kf1_w68))) (congrArg (fun W => gv_up W tb (.inl (cR, 120, .inr (.inr (.inr (.inr (va_up tf (i * 4 + g) (some t_w1)))))))) (gv_uc ne36)))) ?_
              refine k_view (V1 := gv_up (gv_up (gv_up (gv_up (gv_up (gv_up V av (.inl (cI, 30, .inl vl1_w68))) t_w1 (.inr (4, [.ref q_w1, .int (nI n1_w68), .int tl1_w68, .int (nI nt)]))) q_w1 (.inl (cI, 486, .inl f1_w68))) tb (.inl (cR, 120, .inr (.inr (.inr (.inr (va_up tf (i * 4 + g) (some t_w1)))))))) ky (.inl (cI, 80, .inl kf1_w68))) pl (.inl (cI, 80, .inl pf1_w68))) (congrArg (fun W => gv_up W pl (.inl (cI, 80, .inl pf1_w68))) (congrArg (fun W => gv_up W ky (.inl (cI, 80, .inl kf1_w68))) (congrArg (fun W => gv_up W tb (.inl (cR, 120, .inr (.inr (.inr (.inr (va_up tf (i * 4 + g) (some t_w1)))))))) (congrArg (fun W => gv_up W q_w1 (.inl (cI, 486, .inl f1_w68))) (gv_uc ne16))))) ?_
              refine k_view (V1 := gv_up (gv_up (gv_up (gv_up (gv_up (gv_up V av (.inl (cI, 30, .inl vl1_w68))) t_w1 (.inr (4, [.ref q_w1, .int (nI n1_w68), .int tl1_w68, .int (nI nt)]))) q_w1 (.inl (cI, 486, .inl f1_w68))) ky (.inl (cI, 80, .inl kf1_w68))) tb (.inl (cR, 120, .inr (.inr (.inr (.inr (va_up tf (i * 4 + g) (some t_w1)))))))) pl (.inl (cI, 80, .inl pf1_w68))) (congrArg (fun W => gv_up W pl (.inl (cI, 80, .inl pf1_w68))) (gv_uc ne66)) ?_
              refine k_view (V1 := gv_up (gv_up (gv_up (gv_up (gv_up (gv_up V av (.inl (cI, 30, .inl vl1_w68))) t_w1 (.inr (4, [.ref q_w1, .int (nI n1_w68), .int tl1_w68, .int (nI nt)]))) ky (.inl (cI, 80, .inl kf1_w68))) q_w1 (.inl (cI, 486, .inl f1_w68))) tb (.inl (cR, 120, .inr (.inr (.inr (.inr (va_up tf (i * 4 + g) (some t_w1)))))))) pl (.inl (cI, 80, .inl pf1_w68))) (congrArg (fun W => gv_up W pl (.inl (cI, 80, .inl pf1_w68))) (congrArg (fun W => gv_up W tb (.inl (cR, 120, .inr (.inr (.inr (.inr (va_up tf (i * 4 + g) (some t_w1)))))))) (gv_uc ne37))) ?_
              refine k_view (V1 := gv_up (gv_up (gv_up (gv_up (gv_up (gv_up V av (.inl (cI, 30, .inl vl1_w68))) ky (.inl (cI, 80, .inl kf1_w68))) t_w1 (.inr (4, [.ref q_w1, .int (nI n1_w68), .int tl1_w68, .int (nI nt)]))) q_w1 (.inl (cI, 486, .inl f1_w68))) tb (.inl (cR, 120, .inr (.inr (.inr (.inr (va_up tf (i * 4 + g) (some t_w1)))))))) pl (.inl (cI, 80, .inl pf1_w68))) (congrArg (fun W => gv_up W pl (.inl (cI, 80, .inl pf1_w68))) (congrArg (fun W => gv_up W tb (.inl (cR, 120, .inr (.inr (.inr (.inr (va_up tf (i * 4 + g) (some t_w1)))))))) (congrArg (fun W => gv_up W q_w1 (.inl (cI, 486, .inl f1_w68))) (gv_uc ne17)))) ?_
              refine k_view (V1 := gv_up (gv_up (gv_up (gv_up (gv_up (gv_up V av (.inl (cI, 30, .inl vl1_w68))) ky (.inl (cI, 80, .inl kf1_w68))) t_w1 (.inr (4, [.ref q_w1, .int (nI n1_w68), .int tl1_w68, .int (nI nt)]))) q_w1 (.inl (cI, 486, .inl f1_w68))) pl (.inl (cI, 80, .inl pf1_w68))) tb (.inl (cR, 120, .inr (.inr (.inr (.inr (va_up tf (i * 4 + g) (some t_w1)))))))) (gv_uc ne67) ?_
              refine k_view (V1 := gv_up (gv_up (gv_up (gv_up (gv_up (gv_up V av (.inl (cI, 30, .inl vl1_w68))) ky (.inl (cI, 80, .inl kf1_w68))) t_w1 (.inr (4, [.ref q_w1, .int (nI n1_w68), .int tl1_w68, .int (nI nt)]))) pl (.inl (cI, 80, .inl pf1_w68))) q_w1 (.inl (cI, 486, .inl f1_w68))) tb (.inl (cR, 120, .inr (.inr (.inr (.inr (va_up tf (i * 4 + g) (some t_w1)))))))) (congrArg (fun W => gv_up W tb (.inl (cR, 120, .inr (.inr (.inr (.inr (va_up tf (i * 4 + g) (some t_w1)))))))) (gv_uc ne38)) ?_
              refine k_view (V1 := gv_up (gv_up (gv_up (gv_up (gv_up (gv_up V av (.inl (cI, 30, .inl vl1_w68))) ky (.inl (cI, 80, .inl kf1_w68))) pl (.inl (cI, 80, .inl pf1_w68))) t_w1 (.inr (4, [.ref q_w1, .int (nI n1_w68), .int tl1_w68, .int (nI nt)]))) q_w1 (.inl (cI, 486, .inl f1_w68))) tb (.inl (cR, 120, .inr (.inr (.inr (.inr (va_up tf (i * 4 + g) (some t_w1)))))))) (congrArg (fun W => gv_up W tb (.inl (cR, 120, .inr (.inr (.inr (.inr (va_up tf (i * 4 + g) (some t_w1)))))))) (congrArg (fun W => gv_up W q_w1 (.inl (cI, 486, .inl f1_w68))) (gv_uc ne18))) ?_
              refine k_view (V1 := gv_up (gv_up (gv_up (gv_up (gv_up (gv_up V av (.inl (cI, 30, .inl vl1_w68))) ky (.inl (cI, 80, .inl kf1_w68))) pl (.inl (cI, 80, .inl pf1_w68))) q_w1 (.inl (cI, 486, .inl f1_w68))) t_w1 (.inr (4, [.ref q_w1, .int (nI n1_w68), .int tl1_w68, .int (nI nt)]))) tb (.inl (cR, 120, .inr (.inr (.inr (.inr (va_up tf (i * 4 + g) (some t_w1)))))))) (congrArg (fun W => gv_up W tb (.inl (cR, 120, .inr (.inr (.inr (.inr (va_up tf (i * 4 + g) (some t_w1)))))))) (gv_uc (Ne.symm htq_w1))) ?_
              exact k_vret C zr zlk ⟨t_w1, q_w1, vl1_w68, kf1_w68, pf1_w68, n1_w68, tl1_w68, f1_w68, rfl, rfl, ht1_w1, hq_w1, htq_w1, ht1_w68⟩ (Nat.le_refl _) (Nat.le_refl _) dX1_refresh_166
        · skip
          exact absurd c94 (by decide)
      · skip
        exact absurd c73 (by decide)
    · skip
      exact absurd c54 (by decide)
  · skip
    exact absurd c18.symm (nI_n1 (by omega))
set_option maxHeartbeats 4000000 in
set_option maxRecDepth 100000 in
theorem c_ref7N {zl : Launch} {D : va_G} {cI cN cR : ClassId} {base : Nat} {V : gv_V} {mo tr nd tb wg ky pl : Nat} {tga tsa tpa tqa nt : Nat} {tg ts tp tq : Nat → Int32} {nl nn : Nat} {nf : Nat → Option Nat} {no : Nat} {ps pp po ex va st fr ln dn ag gr : Int32} {xe ak af as ap av ne : Nat} {kd fs sc pt vl : Nat → Int32} {kf pf : Nat → Int32} {tf : Nat → Option Nat} {i g a0 : Nat} {E : Nat → Ex} {a c n : Nat} {tl mk : Int32} {f : Nat → Int32} {SA : Option (List Row)}  (h_mo : V mo = some (.inr (1, [.ref tr, .ref xe, .ref nd, .ref tb, .ref wg, .ref ky, .ref pl]))) (h_tr : V tr = some (.inr (5, [.ref tga, .ref tsa, .ref tpa, .ref tqa, .int (nI nt)]))) (h_tga : V tga = some (.inl (cI, 60, .inl tg))) (h_tsa : V tsa = some (.inl (cI, 60, .inl ts))) (h_tpa : V tpa = some (.inl (cI, 60, .inl tp))) (h_tqa : V tqa = some (.inl (cI, 60, .inl tq))) (h_nd : V nd = some (.inr (3, [.ref nl, .int (nI nn)]))) (h_nl : V nl = some (.inl (cN, 30, .inr (.inr (.inr (.inr nf)))))) (h_no : V no = some (.inr (2, [.int (nI 7), .int (nI a0), .int (-1 : Int32), .int ps, .int pp, .int po, .int ex, .int va, .int st, .int fr, .int ln, .int dn, .int ag, .int gr]))) (h_xe : V xe = some (.inr (0, [.ref ak, .ref af, .ref as, .ref ap, .ref av, .int (nI ne)]))) (h_ak : V ak = some (.inl (cI, 30, .inl kd))) (h_af : V af = some (.inl (cI, 30, .inl fs))) (h_as : V as = some (.inl (cI, 30, .inl sc))) (h_ap : V ap = some (.inl (cI, 30, .inl pt))) (h_av : V av = some (.inl (cI, 30, .inl vl))) (h_ky : V ky = some (.inl (cI, 80, .inl kf))) (h_pl : V pl = some (.inl (cI, 80, .inl pf))) (h_tb : V tb = some (.inl (cR, 120, .inr (.inr (.inr (.inr tf)))))) (h_a : V a = some (.inr (4, [.ref c, .int (nI n), .int tl, .int mk]))) (h_c : V c = some (.inl (cI, 486, .inl f))) (hX : ExR E ne kd fs sc pt) (hd : [ak, af, as, ap, av].Nodup) (hi : i < 30) (hg : g < 4) (hnf : nf i = some no) (hky : nq ky pl) (hnt : nt ≤ 60) (ht : tf (i * 4 + g) = none) (ha0 : a0 < i) (hta : tf (a0 * 4 + g) = some a) (hSa : TRep SA n tl f) : ct zl D [(cI, .int), (cN, .object "AlgebraTree$Node"), (cR, .object "AlgebraTree$Rows")] base yX1_refresh cX1_refresh 6 none 5 2 490 [.ref mo, .int (nI i), .int (nI g)] V (fun zv zV => ∃ t : Nat, ∃ q : Nat, ∃ vl1 : Nat → Int32, ∃ kf1 : Nat → Int32, ∃ pf1 : Nat → Int32, ∃ n1 : Nat, ∃ tl1 : Int32, ∃ f1 : Nat → Int32, zv = none ∧ zV = gv_up (gv_up (gv_up (gv_up (gv_up (gv_up V av (.inl (cI, 30, .inl vl1))) ky (.inl (cI, 80, .inl kf1))) pl (.inl (cI, 80, .inl pf1))) q (.inl (cI, 486, .inl f1))) t (.inr (4, [.ref q, .int (nI n1), .int tl1, .int (nI nt)]))) tb (.inl (cR, 120, .inr (.inr (.inr (.inr (va_up tf (i * 4 + g) (some t))))))) ∧ (V t = none) ∧ (V q = none) ∧ (nq t q) ∧ (TRep (SA.bind (fun A => cap (A.map (prj st)))) n1 tl1 f1)) := by
  refine ct_of "AlgebraTree$Maker" rfl (by decide) (Nat.le_of_ble_eq_true rfl) ?_
  intro zp ze zs zm zargs zbelow zmeth zc C zr zlk znm
  refine k_pc (pc' := 0) (st' := []) rfl rfl ?_
  show K zp zl ze (gv_rm 5 2 490) zs zm zargs zbelow zmeth zc D base 6 (gv_E D [(cI, .int), (cN, .object "AlgebraTree$Node"), (cR, .object "AlgebraTree$Rows")] base zbelow zargs zs 2 490 (fun zv zV => ∃ t : Nat, ∃ q : Nat, ∃ vl1 : Nat → Int32, ∃ kf1 : Nat → Int32, ∃ pf1 : Nat → Int32, ∃ n1 : Nat, ∃ tl1 : Int32, ∃ f1 : Nat → Int32, zv = none ∧ zV = gv_up (gv_up (gv_up (gv_up (gv_up (gv_up V av (.inl (cI, 30, .inl vl1))) ky (.inl (cI, 80, .inl kf1))) pl (.inl (cI, 80, .inl pf1))) q (.inl (cI, 486, .inl f1))) t (.inr (4, [.ref q, .int (nI n1), .int tl1, .int (nI nt)]))) tb (.inl (cR, 120, .inr (.inr (.inr (.inr (va_up tf (i * 4 + g) (some t))))))) ∧ (V t = none) ∧ (V q = none) ∧ (nq t q) ∧ (TRep (SA.bind (fun A => cap (A.map (prj st)))) n1 tl1 f1))) V 0 0 [(0, .ref mo), (1, .int (nI i)), (2, .int (nI g))] 0 []
  refine k_aload_n C dX1_refresh_0 rfl 0 rfl ?_
  refine k_iload_n C dX1_refresh_1 rfl 1 rfl ?_
  refine k_iload_n C dX1_refresh_2 rfl 2 rfl ?_
  refine k_callV C mv_1_56 (c_tableOfN  h_mo h_tb (by first | assumption | omega) (by first | assumption | omega) (by first | assumption | omega)) h_mo rfl rfl (by simp [Value.category]) ⟨by decide, by decide⟩ ⟨(by decide), (by decide)⟩ dX1_refresh_3 (fun zv zV zh => ?_)
  obtain ⟨t_w1, q_w1, rfl, rfl, ht1_w1, hq_w1, htq_w1⟩ := zh
  refine k_pc (pc' := 6) (st' := .ref t_w1 :: []) rfl rfl ?_
  have ne2 : nq mo t_w1 := gv_nf ht1_w1 h_mo
  have ne3 : nq tr t_w1 := gv_nf ht1_w1 h_tr
  have ne4 : nq tga t_w1 := gv_nf ht1_w1 h_tga
  have ne5 : nq tsa t_w1 := gv_nf ht1_w1 h_tsa
  have ne6 : nq tpa t_w1 := gv_nf ht1_w1 h_tpa
  have ne7 : nq tqa t_w1 := gv_nf ht1_w1 h_tqa
  have ne8 : nq nd t_w1 := gv_nf ht1_w1 h_nd
  have ne9 : nq nl t_w1 := gv_nf ht1_w1 h_nl
  have ne10 : nq no t_w1 := gv_nf ht1_w1 h_no
  have ne11 : nq xe t_w1 := gv_nf ht1_w1 h_xe
  have ne12 : nq ak t_w1 := gv_nf ht1_w1 h_ak
  have ne13 : nq af t_w1 := gv_nf ht1_w1 h_af
  have ne14 : nq as t_w1 := gv_nf ht1_w1 h_as
  have ne15 : nq ap t_w1 := gv_nf ht1_w1 h_ap
  have ne16 : nq av t_w1 := gv_nf ht1_w1 h_av
  have ne17 : nq ky t_w1 := gv_nf ht1_w1 h_ky
  have ne18 : nq pl t_w1 := gv_nf ht1_w1 h_pl
  have ne19 : nq tb t_w1 := gv_nf ht1_w1 h_tb
  have ne20 : nq a t_w1 := gv_nf ht1_w1 h_a
  have ne21 : nq c t_w1 := gv_nf ht1_w1 h_c
  have ne22 : nq mo q_w1 := gv_nf hq_w1 h_mo
  have ne23 : nq tr q_w1 := gv_nf hq_w1 h_tr
  have ne24 : nq tga q_w1 := gv_nf hq_w1 h_tga
  have ne25 : nq tsa q_w1 := gv_nf hq_w1 h_tsa
  have ne26 : nq tpa q_w1 := gv_nf hq_w1 h_tpa
  have ne27 : nq tqa q_w1 := gv_nf hq_w1 h_tqa
  have ne28 : nq nd q_w1 := gv_nf hq_w1 h_nd
  have ne29 : nq nl q_w1 := gv_nf hq_w1 h_nl
  have ne30 : nq no q_w1 := gv_nf hq_w1 h_no
  have ne31 : nq xe q_w1 := gv_nf hq_w1 h_xe
  have ne32 : nq ak q_w1 := gv_nf hq_w1 h_ak
  have ne33 : nq af q_w1 := gv_nf hq_w1 h_af
  have ne34 : nq as q_w1 := gv_nf hq_w1 h_as
  have ne35 : nq ap q_w1 := gv_nf hq_w1 h_ap
  have ne36 : nq av q_w1 := gv_nf hq_w1 h_av
  have ne37 : nq ky q_w1 := gv_nf hq_w1 h_ky
  have ne38 : nq pl q_w1 := gv_nf hq_w1 h_pl
  have ne39 : nq tb q_w1 := gv_nf hq_w1 h_tb
  have ne40 : nq a q_w1 := gv_nf hq_w1 h_a
  have ne41 : nq c q_w1 := gv_nf hq_w1 h_c
  refine k_astore_n (lv' := [(3, .ref t_w1), (0, .ref mo), (1, .int (nI i)), (2, .int (nI g))]) C dX1_refresh_6 rfl (by decide) rfl ?_
  refine k_aload_n C dX1_refresh_7 rfl 0 rfl ?_
  refine k_get (ci := 4) (k := 3) C fl_1_84 ((gv_up_n (Ne.symm ne19)).trans ((gv_up_n htq_w1).trans gv_up_s)) rfl dX1_refresh_8 ?_
  refine k_aload_n C dX1_refresh_11 rfl 1 rfl ?_
  have ne42 : nq mo tb := gv_ne h_tb h_mo (by simp)
  refine k_get (ci := 1) (k := 0) C fl_1_12 ((gv_up_n ne42).trans ((gv_up_n ne22).trans ((gv_up_n ne2).trans h_mo))) rfl dX1_refresh_12 ?_
  have ne43 : nq tr tb := gv_ne h_tb h_tr (by simp)
  refine k_get (ci := 5) (k := 4) C fl_1_87 ((gv_up_n ne43).trans ((gv_up_n ne23).trans ((gv_up_n ne3).trans h_tr))) rfl dX1_refresh_15 ?_
  refine k_icmp_ne (tgt := 22) C dX1_refresh_18 (by decide) (fun c18 => ?_) (fun c18 => ?_)
  · skip
    refine k_aload_n C dX1_refresh_22 rfl 0 rfl ?_
    refine k_callV_pv C mv_1_90 (c_X4_clear  ((gv_up_n (Ne.symm ne19)).trans ((gv_up_n htq_w1).trans gv_up_s)) ((gv_up_n (Ne.symm ne39)).trans gv_up_s) ) ((gv_up_n (Ne.symm ne19)).trans ((gv_up_n htq_w1).trans gv_up_s)) rfl rfl (by simp [Value.category]) ⟨by decide, by decide⟩ ⟨(by decide), (by decide)⟩ dX1_refresh_23 ?_
    refine k_view (V1 := gv_up (gv_up (gv_up V t_w1 (.inr (4, [.ref q_w1, .int (nI 0), .int (nI 0), .int (-1 : Int32)]))) q_w1 (.inl (cI, 486, .inl (fun _ => 0)))) tb (.inl (cR, 120, .inr (.inr (.inr (.inr (va_up tf (i * 4 + g) (some t_w1)))))))) ((gv_uc (Ne.symm ne19)).trans (congrArg (fun W => gv_up W tb (.inl (cR, 120, .inr (.inr (.inr (.inr (va_up tf (i * 4 + g) (some t_w1)))))))) ((gv_uc htq_w1).trans (congrArg (fun W => gv_up W q_w1 (.inl (cI, 486, .inl (fun _ => 0)))) gv_uu)))) ?_
    refine k_aload_n C dX1_refresh_26 rfl 0 rfl ?_
    refine k_aload_n C dX1_refresh_27 rfl 1 rfl ?_
    refine k_get (ci := 1) (k := 0) C fl_1_12 ((gv_up_n ne42).trans ((gv_up_n ne22).trans ((gv_up_n ne2).trans h_mo))) rfl dX1_refresh_28 ?_
    refine k_get (ci := 5) (k := 4) C fl_1_87 ((gv_up_n ne43).trans ((gv_up_n ne23).trans ((gv_up_n ne3).trans h_tr))) rfl dX1_refresh_31 ?_
    refine k_put (ci := 4) (k := 3) (fs' := [.ref q_w1, .int (nI 0), .int (nI 0), .int (nI nt)]) C fl_1_84 pf_4_3 ((gv_up_n (Ne.symm ne19)).trans ((gv_up_n htq_w1).trans gv_up_s)) rfl rfl (Nat.le_of_ble_eq_true rfl) rfl dX1_refresh_34 ?_
    refine k_view (V1 := gv_up (gv_up (gv_up V t_w1 (.inr (4, [.ref q_w1, .int (nI 0), .int (nI 0), .int (nI nt)]))) q_w1 (.inl (cI, 486, .inl (fun _ => 0)))) tb (.inl (cR, 120, .inr (.inr (.inr (.inr (va_up tf (i * 4 + g) (some t_w1)))))))) ((gv_uc (Ne.symm ne19)).trans (congrArg (fun W => gv_up W tb (.inl (cR, 120, .inr (.inr (.inr (.inr (va_up tf (i * 4 + g) (some t_w1)))))))) ((gv_uc htq_w1).trans (congrArg (fun W => gv_up W q_w1 (.inl (cI, 486, .inl (fun _ => 0)))) gv_uu)))) ?_
    refine k_aload_n C dX1_refresh_37 rfl 1 rfl ?_
    refine k_get (ci := 1) (k := 2) C fl_1_28 ((gv_up_n ne42).trans ((gv_up_n ne22).trans ((gv_up_n ne2).trans h_mo))) rfl dX1_refresh_38 ?_
    refine k_iload_n C dX1_refresh_41 rfl 2 rfl ?_
    have ne44 : nq nd tb := gv_ne h_tb h_nd (by simp)
    have ne45 : nq nl tb := gv_ne h_tb h_nl (by simp)
    refine k_callV_pr C mv_1_60 (c_X3_at  ((gv_up_n ne44).trans ((gv_up_n ne28).trans ((gv_up_n ne8).trans h_nd))) ((gv_up_n ne45).trans ((gv_up_n ne29).trans ((gv_up_n ne9).trans h_nl))) (by first | assumption | omega) hnf) ((gv_up_n ne44).trans ((gv_up_n ne28).trans ((gv_up_n ne8).trans h_nd))) rfl rfl (by simp [Value.category]) ⟨by decide, by decide⟩ ⟨(by decide), (by decide)⟩ dX1_refresh_42 ?_
    refine k_astore (lv' := [(4, .ref no), (3, .ref t_w1), (0, .ref mo), (1, .int (nI i)), (2, .int (nI g))]) C dX1_refresh_45 (by decide) rfl ?_
    refine k_aload C dX1_refresh_47 0 rfl ?_
    have ne46 : nq no tb := gv_ne h_tb h_no (by simp)
    refine k_get (ci := 2) (k := 0) C fl_1_77 ((gv_up_n ne46).trans ((gv_up_n ne30).trans ((gv_up_n ne10).trans h_no))) rfl dX1_refresh_49 ?_
    refine k_bipush (v := nI 12) C dX1_refresh_52 rfl ?_
    refine k_icmp_ne (tgt := 65) C dX1_refresh_54 (by decide) (fun c54 => ?_) (fun c54 => ?_)
    · skip
      have b54 : ¬ 7 = 12 := fun z => c54 ((nI_eq (a := 7) (b := 12) (by omega) (by omega)).mpr z)
      refine k_iload_n C dX1_refresh_65 rfl 4 rfl ?_
      refine k_istore (lv' := [(5, .int (nI g)), (4, .ref no), (3, .ref t_w1), (0, .ref mo), (1, .int (nI i)), (2, .int (nI g))]) C dX1_refresh_66 (by decide) rfl ?_
      refine k_aload C dX1_refresh_68 1 rfl ?_
      refine k_get (ci := 2) (k := 0) C fl_1_77 ((gv_up_n ne46).trans ((gv_up_n ne30).trans ((gv_up_n ne10).trans h_no))) rfl dX1_refresh_70 ?_
      refine k_if_ne (tgt := 87) C dX1_refresh_73 (by decide) (fun c73 => ?_) (fun c73 => ?_)
      · skip
        have b73 : ¬ 7 = 0 := fun z => c73 ((nI_eq (a := 7) (b := 0) (by omega) (by omega)).mpr z)
        refine k_aload C dX1_refresh_87 1 rfl ?_
        refine k_get (ci := 2) (k := 0) C fl_1_77 ((gv_up_n ne46).trans ((gv_up_n ne30).trans ((gv_up_n ne10).trans h_no))) rfl dX1_refresh_89 ?_
        refine k_bipush (v := nI 13) C dX1_refresh_92 rfl ?_
        refine k_icmp_ne (tgt := 107) C dX1_refresh_94 (by decide) (fun c94 => ?_) (fun c94 => ?_)
        · skip
          have b94 : ¬ 7 = 13 := fun z => c94 ((nI_eq (a := 7) (b := 13) (by omega) (by omega)).mpr z)
          refine k_aload C dX1_refresh_107 1 rfl ?_
          refine k_get (ci := 2) (k := 2) C fl_1_74 ((gv_up_n ne46).trans ((gv_up_n ne30).trans ((gv_up_n ne10).trans h_no))) rfl dX1_refresh_109 ?_
          refine k_iconst (v := (-1 : Int32)) C dX1_refresh_112 (by decide) ?_
          refine k_icmp_ne (tgt := 137) C dX1_refresh_113 (by decide) (fun c113 => ?_) (fun c113 => ?_)
          · skip
            exact absurd rfl c113
          · skip
            refine k_aload_n C dX1_refresh_116 rfl 3 rfl ?_
            refine k_aload C dX1_refresh_117 1 rfl ?_
            refine k_aload_n C dX1_refresh_119 rfl 3 rfl ?_
            refine k_aload C dX1_refresh_120 1 rfl ?_
            refine k_get (ci := 2) (k := 1) C fl_1_68 ((gv_up_n ne46).trans ((gv_up_n ne30).trans ((gv_up_n ne10).trans h_no))) rfl dX1_refresh_122 ?_
            refine k_iload C dX1_refresh_125 0 rfl ?_
            refine k_callV_pr C mv_1_56 (c_tableOf  ((gv_up_n ne42).trans ((gv_up_n ne22).trans ((gv_up_n ne2).trans h_mo))) gv_up_s (by first | assumption | omega) (by first | assumption | omega) (by simp only [va_up]; rw [if_neg (by omega)]; exact hta)) ((gv_up_n ne42).trans ((gv_up_n ne22).trans ((gv_up_n ne2).trans h_mo))) rfl rfl (by simp [Value.category]) ⟨by decide, by decide⟩ ⟨(by decide), (by decide)⟩ dX1_refresh_127 ?_
            refine k_aload_n C dX1_refresh_130 rfl 2 rfl ?_
            rcases SA with _ | A
            · skip
              have ne47 : nq xe tb := gv_ne h_tb h_xe (by simp)
              have ne48 : nq ak tb := gv_ne h_tb h_ak (by simp)
              have ne49 : nq af tb := gv_ne h_tb h_af (by simp)
              have ne50 : nq as tb := gv_ne h_tb h_as (by simp)
              have ne51 : nq ap tb := gv_ne h_tb h_ap (by simp)
              have ne52 : nq av tb := gv_ne h_tb h_av (by simp)
              have ne53 : nq a tb := gv_ne h_tb h_a (by simp)
              have ne54 : nq c tb := gv_ne h_tb h_c (by simp)
              have ne55 : nq ky tb := gv_ne h_tb h_ky (by simp)
              have ne56 : nq pl tb := gv_ne h_tb h_pl (by simp)
              refine k_callV C mv_1_101 (c_overL  ((gv_up_n ne42).trans ((gv_up_n ne22).trans ((gv_up_n ne2).trans h_mo))) ((gv_up_n ne46).trans ((gv_up_n ne30).trans ((gv_up_n ne10).trans h_no))) ((gv_up_n ne47).trans ((gv_up_n ne31).trans ((gv_up_n ne11).trans h_xe))) ((gv_up_n ne48).trans ((gv_up_n ne32).trans ((gv_up_n ne12).trans h_ak))) ((gv_up_n ne49).trans ((gv_up_n ne33).trans ((gv_up_n ne13).trans h_af))) ((gv_up_n ne50).trans ((gv_up_n ne34).trans ((gv_up_n ne14).trans h_as))) ((gv_up_n ne51).trans ((gv_up_n ne35).trans ((gv_up_n ne15).trans h_ap))) ((gv_up_n ne52).trans ((gv_up_n ne36).trans ((gv_up_n ne16).trans h_av))) ((gv_up_n ne53).trans ((gv_up_n ne40).trans ((gv_up_n ne20).trans h_a))) ((gv_up_n ne54).trans ((gv_up_n ne41).trans ((gv_up_n ne21).trans h_c))) ((gv_up_n (Ne.symm ne19)).trans ((gv_up_n htq_w1).trans gv_up_s)) ((gv_up_n (Ne.symm ne39)).trans gv_up_s) ((gv_up_n ne55).trans ((gv_up_n ne37).trans ((gv_up_n ne17).trans h_ky))) ((gv_up_n ne56).trans ((gv_up_n ne38).trans ((gv_up_n ne18).trans h_pl))) hSa (by first | assumption | omega) (Ne.symm ne20) (Ne.symm ne41) hky) ((gv_up_n ne42).trans ((gv_up_n ne22).trans ((gv_up_n ne2).trans h_mo))) rfl rfl (by simp [Value.category]) ⟨by decide, by decide⟩ ⟨(by decide), (by decide)⟩ dX1_refresh_131 (fun zv zV zh => ?_)
              obtain ⟨vl1_w57, kf1_w57, pf1_w57, n1_w57, tl1_w57, f1_w57, rfl, rfl, ht1_w57⟩ := zh
              refine k_pc (pc' := 134) (st' := []) rfl rfl ?_
              refine k_view (V1 := gv_up (gv_up (gv_up (gv_up (gv_up (gv_up (gv_up V t_w1 (.inr (4, [.ref q_w1, .int (nI 0), .int (nI 0), .int (nI nt)]))) q_w1 (.inl (cI, 486, .inl f1_w57))) tb (.inl (cR, 120, .inr (.inr (.inr (.inr (va_up tf (i * 4 + g) (some t_w1)))))))) av (.inl (cI, 30, .inl vl1_w57))) ky (.inl (cI, 80, .inl kf1_w57))) pl (.inl (cI, 80, .inl pf1_w57))) t_w1 (.inr (4, [.ref q_w1, .int (nI n1_w57), .int tl1_w57, .int (nI nt)]))) (congrArg (fun W => gv_up W t_w1 (.inr (4, [.ref q_w1, .int (nI n1_w57), .int tl1_w57, .int (nI nt)]))) ((gv_uc (Ne.symm ne38)).trans (congrArg (fun W => gv_up W pl (.inl (cI, 80, .inl pf1_w57))) ((gv_uc (Ne.symm ne37)).trans (congrArg (fun W => gv_up W ky (.inl (cI, 80, .inl kf1_w57))) ((gv_uc (Ne.symm ne36)).trans (congrArg (fun W => gv_up W av (.inl (cI, 30, .inl vl1_w57))) ((gv_uc (Ne.symm ne39)).trans (congrArg (fun W => gv_up W tb (.inl (cR, 120, .inr (.inr (.inr (.inr (va_up tf (i * 4 + g) (some t_w1)))))))) gv_uu))))))))) ?_
              refine k_view (V1 := gv_up (gv_up (gv_up (gv_up (gv_up (gv_up V t_w1 (.inr (4, [.ref q_w1, .int (nI n1_w57), .int tl1_w57, .int (nI nt)]))) q_w1 (.inl (cI, 486, .inl f1_w57))) tb (.inl (cR, 120, .inr (.inr (.inr (.inr (va_up tf (i * 4 + g) (some t_w1)))))))) av (.inl (cI, 30, .inl vl1_w57))) ky (.inl (cI, 80, .inl kf1_w57))) pl (.inl (cI, 80, .inl pf1_w57))) ((gv_uc (Ne.symm ne18)).trans (congrArg (fun W => gv_up W pl (.inl (cI, 80, .inl pf1_w57))) ((gv_uc (Ne.symm ne17)).trans (congrArg (fun W => gv_up W ky (.inl (cI, 80, .inl kf1_w57))) ((gv_uc (Ne.symm ne16)).trans (congrArg (fun W => gv_up W av (.inl (cI, 30, .inl vl1_w57))) ((gv_uc (Ne.symm ne19)).trans (congrArg (fun W => gv_up W tb (.inl (cR, 120, .inr (.inr (.inr (.inr (va_up tf (i * 4 + g) (some t_w1)))))))) ((gv_uc htq_w1).trans (congrArg (fun W => gv_up W q_w1 (.inl (cI, 486, .inl f1_w57))) gv_uu)))))))))) ?_
              refine k_goto (tgt := 166) C dX1_refresh_134 (by decide) ?_
              refine k_view (V1 := gv_up (gv_up (gv_up (gv_up (gv_up (gv_up V t_w1 (.inr (4, [.ref q_w1, .int (nI n1_w57), .int tl1_w57, .int (nI nt)]))) q_w1 (.inl (cI, 486, .inl f1_w57))) av (.inl (cI, 30, .inl vl1_w57))) tb (.inl (cR, 120, .inr (.inr (.inr (.inr (va_up tf (i * 4 + g) (some t_w1)))))))) ky (.inl (cI, 80, .inl kf1_w57))) pl (.inl (cI, 80, .inl pf1_w57))) (congrArg (fun W => gv_up W pl (.inl (cI, 80, .inl pf1_w57))) (congrArg (fun W => gv_up W ky (.inl (cI, 80, .inl kf1_w57))) (gv_uc ne52))) ?_
              refine k_view (V1 := gv_up (gv_up (gv_up (gv_up (gv_up (gv_up V t_w1 (.inr (4, [.ref q_w1, .int (nI n1_w57), .int tl1_w57, .int (nI nt)]))) av (.inl (cI, 30, .inl vl1_w57))) q_w1 (.inl (cI, 486, .inl f1_w57))) tb (.inl (cR, 120, .inr (.inr (.inr (.inr (va_up tf (i * 4 + g) (some t_w1)))))))) ky (.inl (cI, 80, .inl kf1_w57))) pl (.inl (cI, 80, .inl pf1_w57))) (congrArg (fun W => gv_up W pl (.inl (cI, 80, .inl pf1_w57))) (congrArg (fun W => gv_up W ky (.inl (cI, 80, .inl kf1_w57))) (congrArg (fun W => gv_up W tb (.inl (cR, 120, .inr (.inr (.inr (.inr (va_up tf (i * 4 + g) (some t_w1)))))))) (gv_uc ne36)))) ?_
              refine k_view (V1 := gv_up (gv_up (gv_up (gv_up (gv_up (gv_up V av (.inl (cI, 30, .inl vl1_w57))) t_w1 (.inr (4, [.ref q_w1, .int (nI n1_w57), .int tl1_w57, .int (nI nt)]))) q_w1 (.inl (cI, 486, .inl f1_w57))) tb (.inl (cR, 120, .inr (.inr (.inr (.inr (va_up tf (i * 4 + g) (some t_w1)))))))) ky (.inl (cI, 80, .inl kf1_w57))) pl (.inl (cI, 80, .inl pf1_w57))) (congrArg (fun W => gv_up W pl (.inl (cI, 80, .inl pf1_w57))) (congrArg (fun W => gv_up W ky (.inl (cI, 80, .inl kf1_w57))) (congrArg (fun W => gv_up W tb (.inl (cR, 120, .inr (.inr (.inr (.inr (va_up tf (i * 4 + g) (some t_w1)))))))) (congrArg (fun W => gv_up W q_w1 (.inl (cI, 486, .inl f1_w57))) (gv_uc ne16))))) ?_
              refine k_view (V1 := gv_up (gv_up (gv_up (gv_up (gv_up (gv_up V av (.inl (cI, 30, .inl vl1_w57))) t_w1 (.inr (4, [.ref q_w1, .int (nI n1_w57), .int tl1_w57, .int (nI nt)]))) q_w1 (.inl (cI, 486, .inl f1_w57))) ky (.inl (cI, 80, .inl kf1_w57))) tb (.inl (cR, 120, .inr (.inr (.inr (.inr (va_up tf (i * 4 + g) (some t_w1)))))))) pl (.inl (cI, 80, .inl pf1_w57))) (congrArg (fun W => gv_up W pl (.inl (cI, 80, .inl pf1_w57))) (gv_uc ne55)) ?_
              refine k_view (V1 := gv_up (gv_up (gv_up (gv_up (gv_up (gv_up V av (.inl (cI, 30, .inl vl1_w57))) t_w1 (.inr (4, [.ref q_w1, .int (nI n1_w57), .int tl1_w57, .int (nI nt)]))) ky (.inl (cI, 80, .inl kf1_w57))) q_w1 (.inl (cI, 486, .inl f1_w57))) tb (.inl (cR, 120, .inr (.inr (.inr (.inr (va_up tf (i * 4 + g) (some t_w1)))))))) pl (.inl (cI, 80, .inl pf1_w57))) (congrArg (fun W => gv_up W pl (.inl (cI, 80, .inl pf1_w57))) (congrArg (fun W => gv_up W tb (.inl (cR, 120, .inr (.inr (.inr (.inr (va_up tf (i * 4 + g) (some t_w1)))))))) (gv_uc ne37))) ?_
              refine k_view (V1 := gv_up (gv_up (gv_up (gv_up (gv_up (gv_up V av (.inl (cI, 30, .inl vl1_w57))) ky (.inl (cI, 80, .inl kf1_w57))) t_w1 (.inr (4, [.ref q_w1, .int (nI n1_w57), .int tl1_w57, .int (nI nt)]))) q_w1 (.inl (cI, 486, .inl f1_w57))) tb (.inl (cR, 120, .inr (.inr (.inr (.inr (va_up tf (i * 4 + g) (some t_w1)))))))) pl (.inl (cI, 80, .inl pf1_w57))) (congrArg (fun W => gv_up W pl (.inl (cI, 80, .inl pf1_w57))) (congrArg (fun W => gv_up W tb (.inl (cR, 120, .inr (.inr (.inr (.inr (va_up tf (i * 4 + g) (some t_w1)))))))) (congrArg (fun W => gv_up W q_w1 (.inl (cI, 486, .inl f1_w57))) (gv_uc ne17)))) ?_
              refine k_view (V1 := gv_up (gv_up (gv_up (gv_up (gv_up (gv_up V av (.inl (cI, 30, .inl vl1_w57))) ky (.inl (cI, 80, .inl kf1_w57))) t_w1 (.inr (4, [.ref q_w1, .int (nI n1_w57), .int tl1_w57, .int (nI nt)]))) q_w1 (.inl (cI, 486, .inl f1_w57))) pl (.inl (cI, 80, .inl pf1_w57))) tb (.inl (cR, 120, .inr (.inr (.inr (.inr (va_up tf (i * 4 + g) (some t_w1)))))))) (gv_uc ne56) ?_
              refine k_view (V1 := gv_up (gv_up (gv_up (gv_up (gv_up (gv_up V av (.inl (cI, 30, .inl vl1_w57))) ky (.inl (cI, 80, .inl kf1_w57))) t_w1 (.inr (4, [.ref q_w1, .int (nI n1_w57), .int tl1_w57, .int (nI nt)]))) pl (.inl (cI, 80, .inl pf1_w57))) q_w1 (.inl (cI, 486, .inl f1_w57))) tb (.inl (cR, 120, .inr (.inr (.inr (.inr (va_up tf (i * 4 + g) (some t_w1)))))))) (congrArg (fun W => gv_up W tb (.inl (cR, 120, .inr (.inr (.inr (.inr (va_up tf (i * 4 + g) (some t_w1)))))))) (gv_uc ne38)) ?_
              refine k_view (V1 := gv_up (gv_up (gv_up (gv_up (gv_up (gv_up V av (.inl (cI, 30, .inl vl1_w57))) ky (.inl (cI, 80, .inl kf1_w57))) pl (.inl (cI, 80, .inl pf1_w57))) t_w1 (.inr (4, [.ref q_w1, .int (nI n1_w57), .int tl1_w57, .int (nI nt)]))) q_w1 (.inl (cI, 486, .inl f1_w57))) tb (.inl (cR, 120, .inr (.inr (.inr (.inr (va_up tf (i * 4 + g) (some t_w1)))))))) (congrArg (fun W => gv_up W tb (.inl (cR, 120, .inr (.inr (.inr (.inr (va_up tf (i * 4 + g) (some t_w1)))))))) (congrArg (fun W => gv_up W q_w1 (.inl (cI, 486, .inl f1_w57))) (gv_uc ne18))) ?_
              refine k_view (V1 := gv_up (gv_up (gv_up (gv_up (gv_up (gv_up V av (.inl (cI, 30, .inl vl1_w57))) ky (.inl (cI, 80, .inl kf1_w57))) pl (.inl (cI, 80, .inl pf1_w57))) q_w1 (.inl (cI, 486, .inl f1_w57))) t_w1 (.inr (4, [.ref q_w1, .int (nI n1_w57), .int tl1_w57, .int (nI nt)]))) tb (.inl (cR, 120, .inr (.inr (.inr (.inr (va_up tf (i * 4 + g) (some t_w1)))))))) (congrArg (fun W => gv_up W tb (.inl (cR, 120, .inr (.inr (.inr (.inr (va_up tf (i * 4 + g) (some t_w1)))))))) (gv_uc (Ne.symm htq_w1))) ?_
              exact k_vret C zr zlk ⟨t_w1, q_w1, vl1_w57, kf1_w57, pf1_w57, n1_w57, tl1_w57, f1_w57, rfl, rfl, ht1_w1, hq_w1, htq_w1, ht1_w57⟩ (Nat.le_refl _) (Nat.le_refl _) dX1_refresh_166
            · skip
              have ne58 : nq xe tb := gv_ne h_tb h_xe (by simp)
              have ne59 : nq ak tb := gv_ne h_tb h_ak (by simp)
              have ne60 : nq af tb := gv_ne h_tb h_af (by simp)
              have ne61 : nq as tb := gv_ne h_tb h_as (by simp)
              have ne62 : nq ap tb := gv_ne h_tb h_ap (by simp)
              have ne63 : nq av tb := gv_ne h_tb h_av (by simp)
              have ne64 : nq a tb := gv_ne h_tb h_a (by simp)
              have ne65 : nq c tb := gv_ne h_tb h_c (by simp)
              have ne66 : nq ky tb := gv_ne h_tb h_ky (by simp)
              have ne67 : nq pl tb := gv_ne h_tb h_pl (by simp)
              refine k_callV C mv_1_101 (c_over7  ((gv_up_n ne42).trans ((gv_up_n ne22).trans ((gv_up_n ne2).trans h_mo))) ((gv_up_n ne46).trans ((gv_up_n ne30).trans ((gv_up_n ne10).trans h_no))) ((gv_up_n ne58).trans ((gv_up_n ne31).trans ((gv_up_n ne11).trans h_xe))) ((gv_up_n ne59).trans ((gv_up_n ne32).trans ((gv_up_n ne12).trans h_ak))) ((gv_up_n ne60).trans ((gv_up_n ne33).trans ((gv_up_n ne13).trans h_af))) ((gv_up_n ne61).trans ((gv_up_n ne34).trans ((gv_up_n ne14).trans h_as))) ((gv_up_n ne62).trans ((gv_up_n ne35).trans ((gv_up_n ne15).trans h_ap))) ((gv_up_n ne63).trans ((gv_up_n ne36).trans ((gv_up_n ne16).trans h_av))) ((gv_up_n ne64).trans ((gv_up_n ne40).trans ((gv_up_n ne20).trans h_a))) ((gv_up_n ne65).trans ((gv_up_n ne41).trans ((gv_up_n ne21).trans h_c))) ((gv_up_n (Ne.symm ne19)).trans ((gv_up_n htq_w1).trans gv_up_s)) ((gv_up_n (Ne.symm ne39)).trans gv_up_s) ((gv_up_n ne66).trans ((gv_up_n ne37).trans ((gv_up_n ne17).trans h_ky))) ((gv_up_n ne67).trans ((gv_up_n ne38).trans ((gv_up_n ne18).trans h_pl))) (by first | assumption | omega) (by first | assumption | omega) hSa.2 (Ne.symm ne20) (Ne.symm ne41) hSa.1 hky) ((gv_up_n ne42).trans ((gv_up_n ne22).trans ((gv_up_n ne2).trans h_mo))) rfl rfl (by simp [Value.category]) ⟨by decide, by decide⟩ ⟨(by decide), (by decide)⟩ dX1_refresh_131 (fun zv zV zh => ?_)
              obtain ⟨vl1_w68, kf1_w68, pf1_w68, n1_w68, tl1_w68, f1_w68, rfl, rfl, ht1_w68⟩ := zh
              refine k_pc (pc' := 134) (st' := []) rfl rfl ?_
              refine k_view (V1 := gv_up (gv_up (gv_up (gv_up (gv_up (gv_up (gv_up V t_w1 (.inr (4, [.ref q_w1, .int (nI 0), .int (nI 0), .int (nI nt)]))) q_w1 (.inl (cI, 486, .inl f1_w68))) tb (.inl (cR, 120, .inr (.inr (.inr (.inr (va_up tf (i * 4 + g) (some t_w1)))))))) av (.inl (cI, 30, .inl vl1_w68))) ky (.inl (cI, 80, .inl kf1_w68))) pl (.inl (cI, 80, .inl pf1_w68))) t_w1 (.inr (4, [.ref q_w1, .int (nI n1_w68), .int tl1_w68, .int (nI nt)]))) (congrArg (fun W => gv_up W t_w1 (.inr (4, [.ref q_w1, .int (nI n1_w68), .int tl1_w68, .int (nI nt)]))) ((gv_uc (Ne.symm ne38)).trans (congrArg (fun W => gv_up W pl (.inl (cI, 80, .inl pf1_w68))) ((gv_uc (Ne.symm ne37)).trans (congrArg (fun W => gv_up W ky (.inl (cI, 80, .inl kf1_w68))) ((gv_uc (Ne.symm ne36)).trans (congrArg (fun W => gv_up W av (.inl (cI, 30, .inl vl1_w68))) ((gv_uc (Ne.symm ne39)).trans (congrArg (fun W => gv_up W tb (.inl (cR, 120, .inr (.inr (.inr (.inr (va_up tf (i * 4 + g) (some t_w1)))))))) gv_uu))))))))) ?_
              refine k_view (V1 := gv_up (gv_up (gv_up (gv_up (gv_up (gv_up V t_w1 (.inr (4, [.ref q_w1, .int (nI n1_w68), .int tl1_w68, .int (nI nt)]))) q_w1 (.inl (cI, 486, .inl f1_w68))) tb (.inl (cR, 120, .inr (.inr (.inr (.inr (va_up tf (i * 4 + g) (some t_w1)))))))) av (.inl (cI, 30, .inl vl1_w68))) ky (.inl (cI, 80, .inl kf1_w68))) pl (.inl (cI, 80, .inl pf1_w68))) ((gv_uc (Ne.symm ne18)).trans (congrArg (fun W => gv_up W pl (.inl (cI, 80, .inl pf1_w68))) ((gv_uc (Ne.symm ne17)).trans (congrArg (fun W => gv_up W ky (.inl (cI, 80, .inl kf1_w68))) ((gv_uc (Ne.symm ne16)).trans (congrArg (fun W => gv_up W av (.inl (cI, 30, .inl vl1_w68))) ((gv_uc (Ne.symm ne19)).trans (congrArg (fun W => gv_up W tb (.inl (cR, 120, .inr (.inr (.inr (.inr (va_up tf (i * 4 + g) (some t_w1)))))))) ((gv_uc htq_w1).trans (congrArg (fun W => gv_up W q_w1 (.inl (cI, 486, .inl f1_w68))) gv_uu)))))))))) ?_
              refine k_goto (tgt := 166) C dX1_refresh_134 (by decide) ?_
              refine k_view (V1 := gv_up (gv_up (gv_up (gv_up (gv_up (gv_up V t_w1 (.inr (4, [.ref q_w1, .int (nI n1_w68), .int tl1_w68, .int (nI nt)]))) q_w1 (.inl (cI, 486, .inl f1_w68))) av (.inl (cI, 30, .inl vl1_w68))) tb (.inl (cR, 120, .inr (.inr (.inr (.inr (va_up tf (i * 4 + g) (some t_w1)))))))) ky (.inl (cI, 80, .inl kf1_w68))) pl (.inl (cI, 80, .inl pf1_w68))) (congrArg (fun W => gv_up W pl (.inl (cI, 80, .inl pf1_w68))) (congrArg (fun W => gv_up W ky (.inl (cI, 80, .inl kf1_w68))) (gv_uc ne63))) ?_
              refine k_view (V1 := gv_up (gv_up (gv_up (gv_up (gv_up (gv_up V t_w1 (.inr (4, [.ref q_w1, .int (nI n1_w68), .int tl1_w68, .int (nI nt)]))) av (.inl (cI, 30, .inl vl1_w68))) q_w1 (.inl (cI, 486, .inl f1_w68))) tb (.inl (cR, 120, .inr (.inr (.inr (.inr (va_up tf (i * 4 + g) (some t_w1)))))))) ky (.inl (cI, 80, .inl kf1_w68))) pl (.inl (cI, 80, .inl pf1_w68))) (congrArg (fun W => gv_up W pl (.inl (cI, 80, .inl pf1_w68))) (congrArg (fun W => gv_up W ky (.inl (cI, 80, .inl kf1_w68))) (congrArg (fun W => gv_up W tb (.inl (cR, 120, .inr (.inr (.inr (.inr (va_up tf (i * 4 + g) (some t_w1)))))))) (gv_uc ne36)))) ?_
              refine k_view (V1 := gv_up (gv_up (gv_up (gv_up (gv_up (gv_up V av (.inl (cI, 30, .inl vl1_w68))) t_w1 (.inr (4, [.ref q_w1, .int (nI n1_w68), .int tl1_w68, .int (nI nt)]))) q_w1 (.inl (cI, 486, .inl f1_w68))) tb (.inl (cR, 120, .inr (.inr (.inr (.inr (va_up tf (i * 4 + g) (some t_w1)))))))) ky (.inl (cI, 80, .inl kf1_w68))) pl (.inl (cI, 80, .inl pf1_w68))) (congrArg (fun W => gv_up W pl (.inl (cI, 80, .inl pf1_w68))) (congrArg (fun W => gv_up W ky (.inl (cI, 80, .inl kf1_w68))) (congrArg (fun W => gv_up W tb (.inl (cR, 120, .inr (.inr (.inr (.inr (va_up tf (i * 4 + g) (some t_w1)))))))) (congrArg (fun W => gv_up W q_w1 (.inl (cI, 486, .inl f1_w68))) (gv_uc ne16))))) ?_
              refine k_view (V1 := gv_up (gv_up (gv_up (gv_up (gv_up (gv_up V av (.inl (cI, 30, .inl vl1_w68))) t_w1 (.inr (4, [.ref q_w1, .int (nI n1_w68), .int tl1_w68, .int (nI nt)]))) q_w1 (.inl (cI, 486, .inl f1_w68))) ky (.inl (cI, 80, .inl kf1_w68))) tb (.inl (cR, 120, .inr (.inr (.inr (.inr (va_up tf (i * 4 + g) (some t_w1)))))))) pl (.inl (cI, 80, .inl pf1_w68))) (congrArg (fun W => gv_up W pl (.inl (cI, 80, .inl pf1_w68))) (gv_uc ne66)) ?_
              refine k_view (V1 := gv_up (gv_up (gv_up (gv_up (gv_up (gv_up V av (.inl (cI, 30, .inl vl1_w68))) t_w1 (.inr (4, [.ref q_w1, .int (nI n1_w68), .int tl1_w68, .int (nI nt)]))) ky (.inl (cI, 80, .inl kf1_w68))) q_w1 (.inl (cI, 486, .inl f1_w68))) tb (.inl (cR, 120, .inr (.inr (.inr (.inr (va_up tf (i * 4 + g) (some t_w1)))))))) pl (.inl (cI, 80, .inl pf1_w68))) (congrArg (fun W => gv_up W pl (.inl (cI, 80, .inl pf1_w68))) (congrArg (fun W => gv_up W tb (.inl (cR, 120, .inr (.inr (.inr (.inr (va_up tf (i * 4 + g) (some t_w1)))))))) (gv_uc ne37))) ?_
              refine k_view (V1 := gv_up (gv_up (gv_up (gv_up (gv_up (gv_up V av (.inl (cI, 30, .inl vl1_w68))) ky (.inl (cI, 80, .inl kf1_w68))) t_w1 (.inr (4, [.ref q_w1, .int (nI n1_w68), .int tl1_w68, .int (nI nt)]))) q_w1 (.inl (cI, 486, .inl f1_w68))) tb (.inl (cR, 120, .inr (.inr (.inr (.inr (va_up tf (i * 4 + g) (some t_w1)))))))) pl (.inl (cI, 80, .inl pf1_w68))) (congrArg (fun W => gv_up W pl (.inl (cI, 80, .inl pf1_w68))) (congrArg (fun W => gv_up W tb (.inl (cR, 120, .inr (.inr (.inr (.inr (va_up tf (i * 4 + g) (some t_w1)))))))) (congrArg (fun W => gv_up W q_w1 (.inl (cI, 486, .inl f1_w68))) (gv_uc ne17)))) ?_
              refine k_view (V1 := gv_up (gv_up (gv_up (gv_up (gv_up (gv_up V av (.inl (cI, 30, .inl vl1_w68))) ky (.inl (cI, 80, .inl kf1_w68))) t_w1 (.inr (4, [.ref q_w1, .int (nI n1_w68), .int tl1_w68, .int (nI nt)]))) q_w1 (.inl (cI, 486, .inl f1_w68))) pl (.inl (cI, 80, .inl pf1_w68))) tb (.inl (cR, 120, .inr (.inr (.inr (.inr (va_up tf (i * 4 + g) (some t_w1)))))))) (gv_uc ne67) ?_
              refine k_view (V1 := gv_up (gv_up (gv_up (gv_up (gv_up (gv_up V av (.inl (cI, 30, .inl vl1_w68))) ky (.inl (cI, 80, .inl kf1_w68))) t_w1 (.inr (4, [.ref q_w1, .int (nI n1_w68), .int tl1_w68, .int (nI nt)]))) pl (.inl (cI, 80, .inl pf1_w68))) q_w1 (.inl (cI, 486, .inl f1_w68))) tb (.inl (cR, 120, .inr (.inr (.inr (.inr (va_up tf (i * 4 + g) (some t_w1)))))))) (congrArg (fun W => gv_up W tb (.inl (cR, 120, .inr (.inr (.inr (.inr (va_up tf (i * 4 + g) (some t_w1)))))))) (gv_uc ne38)) ?_
              refine k_view (V1 := gv_up (gv_up (gv_up (gv_up (gv_up (gv_up V av (.inl (cI, 30, .inl vl1_w68))) ky (.inl (cI, 80, .inl kf1_w68))) pl (.inl (cI, 80, .inl pf1_w68))) t_w1 (.inr (4, [.ref q_w1, .int (nI n1_w68), .int tl1_w68, .int (nI nt)]))) q_w1 (.inl (cI, 486, .inl f1_w68))) tb (.inl (cR, 120, .inr (.inr (.inr (.inr (va_up tf (i * 4 + g) (some t_w1)))))))) (congrArg (fun W => gv_up W tb (.inl (cR, 120, .inr (.inr (.inr (.inr (va_up tf (i * 4 + g) (some t_w1)))))))) (congrArg (fun W => gv_up W q_w1 (.inl (cI, 486, .inl f1_w68))) (gv_uc ne18))) ?_
              refine k_view (V1 := gv_up (gv_up (gv_up (gv_up (gv_up (gv_up V av (.inl (cI, 30, .inl vl1_w68))) ky (.inl (cI, 80, .inl kf1_w68))) pl (.inl (cI, 80, .inl pf1_w68))) q_w1 (.inl (cI, 486, .inl f1_w68))) t_w1 (.inr (4, [.ref q_w1, .int (nI n1_w68), .int tl1_w68, .int (nI nt)]))) tb (.inl (cR, 120, .inr (.inr (.inr (.inr (va_up tf (i * 4 + g) (some t_w1)))))))) (congrArg (fun W => gv_up W tb (.inl (cR, 120, .inr (.inr (.inr (.inr (va_up tf (i * 4 + g) (some t_w1)))))))) (gv_uc (Ne.symm htq_w1))) ?_
              exact k_vret C zr zlk ⟨t_w1, q_w1, vl1_w68, kf1_w68, pf1_w68, n1_w68, tl1_w68, f1_w68, rfl, rfl, ht1_w1, hq_w1, htq_w1, ht1_w68⟩ (Nat.le_refl _) (Nat.le_refl _) dX1_refresh_166
        · skip
          exact absurd c94 (by decide)
      · skip
        exact absurd c73 (by decide)
    · skip
      exact absurd c54 (by decide)
  · skip
    exact absurd c18.symm (nI_n1 (by omega))
set_option maxHeartbeats 4000000 in
set_option maxRecDepth 100000 in
theorem c_ref8N {zl : Launch} {D : va_G} {cI cN cR : ClassId} {base : Nat} {V : gv_V} {mo tr nd tb wg ky pl : Nat} {tga tsa tpa tqa nt : Nat} {tg ts tp tq : Nat → Int32} {nl nn : Nat} {nf : Nat → Option Nat} {no : Nat} {ps pp po ex va st fr ln dn ag gr : Int32} {xe ak af as ap av ne : Nat} {kd fs sc pt vl : Nat → Int32} {kf pf : Nat → Int32} {tf : Nat → Option Nat} {i g a0 : Nat} {E : Nat → Ex} {a c n : Nat} {tl mk : Int32} {f : Nat → Int32} {SA : Option (List Row)}  (h_mo : V mo = some (.inr (1, [.ref tr, .ref xe, .ref nd, .ref tb, .ref wg, .ref ky, .ref pl]))) (h_tr : V tr = some (.inr (5, [.ref tga, .ref tsa, .ref tpa, .ref tqa, .int (nI nt)]))) (h_tga : V tga = some (.inl (cI, 60, .inl tg))) (h_tsa : V tsa = some (.inl (cI, 60, .inl ts))) (h_tpa : V tpa = some (.inl (cI, 60, .inl tp))) (h_tqa : V tqa = some (.inl (cI, 60, .inl tq))) (h_nd : V nd = some (.inr (3, [.ref nl, .int (nI nn)]))) (h_nl : V nl = some (.inl (cN, 30, .inr (.inr (.inr (.inr nf)))))) (h_no : V no = some (.inr (2, [.int (nI 8), .int (nI a0), .int (-1 : Int32), .int ps, .int pp, .int po, .int ex, .int va, .int st, .int fr, .int ln, .int dn, .int ag, .int gr]))) (h_xe : V xe = some (.inr (0, [.ref ak, .ref af, .ref as, .ref ap, .ref av, .int (nI ne)]))) (h_ak : V ak = some (.inl (cI, 30, .inl kd))) (h_af : V af = some (.inl (cI, 30, .inl fs))) (h_as : V as = some (.inl (cI, 30, .inl sc))) (h_ap : V ap = some (.inl (cI, 30, .inl pt))) (h_av : V av = some (.inl (cI, 30, .inl vl))) (h_ky : V ky = some (.inl (cI, 80, .inl kf))) (h_pl : V pl = some (.inl (cI, 80, .inl pf))) (h_tb : V tb = some (.inl (cR, 120, .inr (.inr (.inr (.inr tf)))))) (h_a : V a = some (.inr (4, [.ref c, .int (nI n), .int tl, .int mk]))) (h_c : V c = some (.inl (cI, 486, .inl f))) (hX : ExR E ne kd fs sc pt) (hd : [ak, af, as, ap, av].Nodup) (hi : i < 30) (hg : g < 4) (hnf : nf i = some no) (hky : nq ky pl) (hnt : nt ≤ 60) (ht : tf (i * 4 + g) = none) (ha0 : a0 < i) (hta : tf (a0 * 4 + g) = some a) (hSa : TRep SA n tl f) : ct zl D [(cI, .int), (cN, .object "AlgebraTree$Node"), (cR, .object "AlgebraTree$Rows")] base yX1_refresh cX1_refresh 6 none 5 2 490 [.ref mo, .int (nI i), .int (nI g)] V (fun zv zV => ∃ t : Nat, ∃ q : Nat, ∃ vl1 : Nat → Int32, ∃ kf1 : Nat → Int32, ∃ pf1 : Nat → Int32, ∃ n1 : Nat, ∃ tl1 : Int32, ∃ f1 : Nat → Int32, zv = none ∧ zV = gv_up (gv_up (gv_up (gv_up (gv_up (gv_up V av (.inl (cI, 30, .inl vl1))) ky (.inl (cI, 80, .inl kf1))) pl (.inl (cI, 80, .inl pf1))) q (.inl (cI, 486, .inl f1))) t (.inr (4, [.ref q, .int (nI n1), .int tl1, .int (nI nt)]))) tb (.inl (cR, 120, .inr (.inr (.inr (.inr (va_up tf (i * 4 + g) (some t))))))) ∧ (V t = none) ∧ (V q = none) ∧ (nq t q) ∧ (TRep (SA.bind (fun A => cap (distL (nI 63) A))) n1 tl1 f1)) := by
  refine ct_of "AlgebraTree$Maker" rfl (by decide) (Nat.le_of_ble_eq_true rfl) ?_
  intro zp ze zs zm zargs zbelow zmeth zc C zr zlk znm
  refine k_pc (pc' := 0) (st' := []) rfl rfl ?_
  show K zp zl ze (gv_rm 5 2 490) zs zm zargs zbelow zmeth zc D base 6 (gv_E D [(cI, .int), (cN, .object "AlgebraTree$Node"), (cR, .object "AlgebraTree$Rows")] base zbelow zargs zs 2 490 (fun zv zV => ∃ t : Nat, ∃ q : Nat, ∃ vl1 : Nat → Int32, ∃ kf1 : Nat → Int32, ∃ pf1 : Nat → Int32, ∃ n1 : Nat, ∃ tl1 : Int32, ∃ f1 : Nat → Int32, zv = none ∧ zV = gv_up (gv_up (gv_up (gv_up (gv_up (gv_up V av (.inl (cI, 30, .inl vl1))) ky (.inl (cI, 80, .inl kf1))) pl (.inl (cI, 80, .inl pf1))) q (.inl (cI, 486, .inl f1))) t (.inr (4, [.ref q, .int (nI n1), .int tl1, .int (nI nt)]))) tb (.inl (cR, 120, .inr (.inr (.inr (.inr (va_up tf (i * 4 + g) (some t))))))) ∧ (V t = none) ∧ (V q = none) ∧ (nq t q) ∧ (TRep (SA.bind (fun A => cap (distL (nI 63) A))) n1 tl1 f1))) V 0 0 [(0, .ref mo), (1, .int (nI i)), (2, .int (nI g))] 0 []
  refine k_aload_n C dX1_refresh_0 rfl 0 rfl ?_
  refine k_iload_n C dX1_refresh_1 rfl 1 rfl ?_
  refine k_iload_n C dX1_refresh_2 rfl 2 rfl ?_
  refine k_callV C mv_1_56 (c_tableOfN  h_mo h_tb (by first | assumption | omega) (by first | assumption | omega) (by first | assumption | omega)) h_mo rfl rfl (by simp [Value.category]) ⟨by decide, by decide⟩ ⟨(by decide), (by decide)⟩ dX1_refresh_3 (fun zv zV zh => ?_)
  obtain ⟨t_w1, q_w1, rfl, rfl, ht1_w1, hq_w1, htq_w1⟩ := zh
  refine k_pc (pc' := 6) (st' := .ref t_w1 :: []) rfl rfl ?_
  have ne2 : nq mo t_w1 := gv_nf ht1_w1 h_mo
  have ne3 : nq tr t_w1 := gv_nf ht1_w1 h_tr
  have ne4 : nq tga t_w1 := gv_nf ht1_w1 h_tga
  have ne5 : nq tsa t_w1 := gv_nf ht1_w1 h_tsa
  have ne6 : nq tpa t_w1 := gv_nf ht1_w1 h_tpa
  have ne7 : nq tqa t_w1 := gv_nf ht1_w1 h_tqa
  have ne8 : nq nd t_w1 := gv_nf ht1_w1 h_nd
  have ne9 : nq nl t_w1 := gv_nf ht1_w1 h_nl
  have ne10 : nq no t_w1 := gv_nf ht1_w1 h_no
  have ne11 : nq xe t_w1 := gv_nf ht1_w1 h_xe
  have ne12 : nq ak t_w1 := gv_nf ht1_w1 h_ak
  have ne13 : nq af t_w1 := gv_nf ht1_w1 h_af
  have ne14 : nq as t_w1 := gv_nf ht1_w1 h_as
  have ne15 : nq ap t_w1 := gv_nf ht1_w1 h_ap
  have ne16 : nq av t_w1 := gv_nf ht1_w1 h_av
  have ne17 : nq ky t_w1 := gv_nf ht1_w1 h_ky
  have ne18 : nq pl t_w1 := gv_nf ht1_w1 h_pl
  have ne19 : nq tb t_w1 := gv_nf ht1_w1 h_tb
  have ne20 : nq a t_w1 := gv_nf ht1_w1 h_a
  have ne21 : nq c t_w1 := gv_nf ht1_w1 h_c
  have ne22 : nq mo q_w1 := gv_nf hq_w1 h_mo
  have ne23 : nq tr q_w1 := gv_nf hq_w1 h_tr
  have ne24 : nq tga q_w1 := gv_nf hq_w1 h_tga
  have ne25 : nq tsa q_w1 := gv_nf hq_w1 h_tsa
  have ne26 : nq tpa q_w1 := gv_nf hq_w1 h_tpa
  have ne27 : nq tqa q_w1 := gv_nf hq_w1 h_tqa
  have ne28 : nq nd q_w1 := gv_nf hq_w1 h_nd
  have ne29 : nq nl q_w1 := gv_nf hq_w1 h_nl
  have ne30 : nq no q_w1 := gv_nf hq_w1 h_no
  have ne31 : nq xe q_w1 := gv_nf hq_w1 h_xe
  have ne32 : nq ak q_w1 := gv_nf hq_w1 h_ak
  have ne33 : nq af q_w1 := gv_nf hq_w1 h_af
  have ne34 : nq as q_w1 := gv_nf hq_w1 h_as
  have ne35 : nq ap q_w1 := gv_nf hq_w1 h_ap
  have ne36 : nq av q_w1 := gv_nf hq_w1 h_av
  have ne37 : nq ky q_w1 := gv_nf hq_w1 h_ky
  have ne38 : nq pl q_w1 := gv_nf hq_w1 h_pl
  have ne39 : nq tb q_w1 := gv_nf hq_w1 h_tb
  have ne40 : nq a q_w1 := gv_nf hq_w1 h_a
  have ne41 : nq c q_w1 := gv_nf hq_w1 h_c
  refine k_astore_n (lv' := [(3, .ref t_w1), (0, .ref mo), (1, .int (nI i)), (2, .int (nI g))]) C dX1_refresh_6 rfl (by decide) rfl ?_
  refine k_aload_n C dX1_refresh_7 rfl 0 rfl ?_
  refine k_get (ci := 4) (k := 3) C fl_1_84 ((gv_up_n (Ne.symm ne19)).trans ((gv_up_n htq_w1).trans gv_up_s)) rfl dX1_refresh_8 ?_
  refine k_aload_n C dX1_refresh_11 rfl 1 rfl ?_
  have ne42 : nq mo tb := gv_ne h_tb h_mo (by simp)
  refine k_get (ci := 1) (k := 0) C fl_1_12 ((gv_up_n ne42).trans ((gv_up_n ne22).trans ((gv_up_n ne2).trans h_mo))) rfl dX1_refresh_12 ?_
  have ne43 : nq tr tb := gv_ne h_tb h_tr (by simp)
  refine k_get (ci := 5) (k := 4) C fl_1_87 ((gv_up_n ne43).trans ((gv_up_n ne23).trans ((gv_up_n ne3).trans h_tr))) rfl dX1_refresh_15 ?_
  refine k_icmp_ne (tgt := 22) C dX1_refresh_18 (by decide) (fun c18 => ?_) (fun c18 => ?_)
  · skip
    refine k_aload_n C dX1_refresh_22 rfl 0 rfl ?_
    refine k_callV_pv C mv_1_90 (c_X4_clear  ((gv_up_n (Ne.symm ne19)).trans ((gv_up_n htq_w1).trans gv_up_s)) ((gv_up_n (Ne.symm ne39)).trans gv_up_s) ) ((gv_up_n (Ne.symm ne19)).trans ((gv_up_n htq_w1).trans gv_up_s)) rfl rfl (by simp [Value.category]) ⟨by decide, by decide⟩ ⟨(by decide), (by decide)⟩ dX1_refresh_23 ?_
    refine k_view (V1 := gv_up (gv_up (gv_up V t_w1 (.inr (4, [.ref q_w1, .int (nI 0), .int (nI 0), .int (-1 : Int32)]))) q_w1 (.inl (cI, 486, .inl (fun _ => 0)))) tb (.inl (cR, 120, .inr (.inr (.inr (.inr (va_up tf (i * 4 + g) (some t_w1)))))))) ((gv_uc (Ne.symm ne19)).trans (congrArg (fun W => gv_up W tb (.inl (cR, 120, .inr (.inr (.inr (.inr (va_up tf (i * 4 + g) (some t_w1)))))))) ((gv_uc htq_w1).trans (congrArg (fun W => gv_up W q_w1 (.inl (cI, 486, .inl (fun _ => 0)))) gv_uu)))) ?_
    refine k_aload_n C dX1_refresh_26 rfl 0 rfl ?_
    refine k_aload_n C dX1_refresh_27 rfl 1 rfl ?_
    refine k_get (ci := 1) (k := 0) C fl_1_12 ((gv_up_n ne42).trans ((gv_up_n ne22).trans ((gv_up_n ne2).trans h_mo))) rfl dX1_refresh_28 ?_
    refine k_get (ci := 5) (k := 4) C fl_1_87 ((gv_up_n ne43).trans ((gv_up_n ne23).trans ((gv_up_n ne3).trans h_tr))) rfl dX1_refresh_31 ?_
    refine k_put (ci := 4) (k := 3) (fs' := [.ref q_w1, .int (nI 0), .int (nI 0), .int (nI nt)]) C fl_1_84 pf_4_3 ((gv_up_n (Ne.symm ne19)).trans ((gv_up_n htq_w1).trans gv_up_s)) rfl rfl (Nat.le_of_ble_eq_true rfl) rfl dX1_refresh_34 ?_
    refine k_view (V1 := gv_up (gv_up (gv_up V t_w1 (.inr (4, [.ref q_w1, .int (nI 0), .int (nI 0), .int (nI nt)]))) q_w1 (.inl (cI, 486, .inl (fun _ => 0)))) tb (.inl (cR, 120, .inr (.inr (.inr (.inr (va_up tf (i * 4 + g) (some t_w1)))))))) ((gv_uc (Ne.symm ne19)).trans (congrArg (fun W => gv_up W tb (.inl (cR, 120, .inr (.inr (.inr (.inr (va_up tf (i * 4 + g) (some t_w1)))))))) ((gv_uc htq_w1).trans (congrArg (fun W => gv_up W q_w1 (.inl (cI, 486, .inl (fun _ => 0)))) gv_uu)))) ?_
    refine k_aload_n C dX1_refresh_37 rfl 1 rfl ?_
    refine k_get (ci := 1) (k := 2) C fl_1_28 ((gv_up_n ne42).trans ((gv_up_n ne22).trans ((gv_up_n ne2).trans h_mo))) rfl dX1_refresh_38 ?_
    refine k_iload_n C dX1_refresh_41 rfl 2 rfl ?_
    have ne44 : nq nd tb := gv_ne h_tb h_nd (by simp)
    have ne45 : nq nl tb := gv_ne h_tb h_nl (by simp)
    refine k_callV_pr C mv_1_60 (c_X3_at  ((gv_up_n ne44).trans ((gv_up_n ne28).trans ((gv_up_n ne8).trans h_nd))) ((gv_up_n ne45).trans ((gv_up_n ne29).trans ((gv_up_n ne9).trans h_nl))) (by first | assumption | omega) hnf) ((gv_up_n ne44).trans ((gv_up_n ne28).trans ((gv_up_n ne8).trans h_nd))) rfl rfl (by simp [Value.category]) ⟨by decide, by decide⟩ ⟨(by decide), (by decide)⟩ dX1_refresh_42 ?_
    refine k_astore (lv' := [(4, .ref no), (3, .ref t_w1), (0, .ref mo), (1, .int (nI i)), (2, .int (nI g))]) C dX1_refresh_45 (by decide) rfl ?_
    refine k_aload C dX1_refresh_47 0 rfl ?_
    have ne46 : nq no tb := gv_ne h_tb h_no (by simp)
    refine k_get (ci := 2) (k := 0) C fl_1_77 ((gv_up_n ne46).trans ((gv_up_n ne30).trans ((gv_up_n ne10).trans h_no))) rfl dX1_refresh_49 ?_
    refine k_bipush (v := nI 12) C dX1_refresh_52 rfl ?_
    refine k_icmp_ne (tgt := 65) C dX1_refresh_54 (by decide) (fun c54 => ?_) (fun c54 => ?_)
    · skip
      have b54 : ¬ 8 = 12 := fun z => c54 ((nI_eq (a := 8) (b := 12) (by omega) (by omega)).mpr z)
      refine k_iload_n C dX1_refresh_65 rfl 4 rfl ?_
      refine k_istore (lv' := [(5, .int (nI g)), (4, .ref no), (3, .ref t_w1), (0, .ref mo), (1, .int (nI i)), (2, .int (nI g))]) C dX1_refresh_66 (by decide) rfl ?_
      refine k_aload C dX1_refresh_68 1 rfl ?_
      refine k_get (ci := 2) (k := 0) C fl_1_77 ((gv_up_n ne46).trans ((gv_up_n ne30).trans ((gv_up_n ne10).trans h_no))) rfl dX1_refresh_70 ?_
      refine k_if_ne (tgt := 87) C dX1_refresh_73 (by decide) (fun c73 => ?_) (fun c73 => ?_)
      · skip
        have b73 : ¬ 8 = 0 := fun z => c73 ((nI_eq (a := 8) (b := 0) (by omega) (by omega)).mpr z)
        refine k_aload C dX1_refresh_87 1 rfl ?_
        refine k_get (ci := 2) (k := 0) C fl_1_77 ((gv_up_n ne46).trans ((gv_up_n ne30).trans ((gv_up_n ne10).trans h_no))) rfl dX1_refresh_89 ?_
        refine k_bipush (v := nI 13) C dX1_refresh_92 rfl ?_
        refine k_icmp_ne (tgt := 107) C dX1_refresh_94 (by decide) (fun c94 => ?_) (fun c94 => ?_)
        · skip
          have b94 : ¬ 8 = 13 := fun z => c94 ((nI_eq (a := 8) (b := 13) (by omega) (by omega)).mpr z)
          refine k_aload C dX1_refresh_107 1 rfl ?_
          refine k_get (ci := 2) (k := 2) C fl_1_74 ((gv_up_n ne46).trans ((gv_up_n ne30).trans ((gv_up_n ne10).trans h_no))) rfl dX1_refresh_109 ?_
          refine k_iconst (v := (-1 : Int32)) C dX1_refresh_112 (by decide) ?_
          refine k_icmp_ne (tgt := 137) C dX1_refresh_113 (by decide) (fun c113 => ?_) (fun c113 => ?_)
          · skip
            exact absurd rfl c113
          · skip
            refine k_aload_n C dX1_refresh_116 rfl 3 rfl ?_
            refine k_aload C dX1_refresh_117 1 rfl ?_
            refine k_aload_n C dX1_refresh_119 rfl 3 rfl ?_
            refine k_aload C dX1_refresh_120 1 rfl ?_
            refine k_get (ci := 2) (k := 1) C fl_1_68 ((gv_up_n ne46).trans ((gv_up_n ne30).trans ((gv_up_n ne10).trans h_no))) rfl dX1_refresh_122 ?_
            refine k_iload C dX1_refresh_125 0 rfl ?_
            refine k_callV_pr C mv_1_56 (c_tableOf  ((gv_up_n ne42).trans ((gv_up_n ne22).trans ((gv_up_n ne2).trans h_mo))) gv_up_s (by first | assumption | omega) (by first | assumption | omega) (by simp only [va_up]; rw [if_neg (by omega)]; exact hta)) ((gv_up_n ne42).trans ((gv_up_n ne22).trans ((gv_up_n ne2).trans h_mo))) rfl rfl (by simp [Value.category]) ⟨by decide, by decide⟩ ⟨(by decide), (by decide)⟩ dX1_refresh_127 ?_
            refine k_aload_n C dX1_refresh_130 rfl 2 rfl ?_
            rcases SA with _ | A
            · skip
              have ne47 : nq xe tb := gv_ne h_tb h_xe (by simp)
              have ne48 : nq ak tb := gv_ne h_tb h_ak (by simp)
              have ne49 : nq af tb := gv_ne h_tb h_af (by simp)
              have ne50 : nq as tb := gv_ne h_tb h_as (by simp)
              have ne51 : nq ap tb := gv_ne h_tb h_ap (by simp)
              have ne52 : nq av tb := gv_ne h_tb h_av (by simp)
              have ne53 : nq a tb := gv_ne h_tb h_a (by simp)
              have ne54 : nq c tb := gv_ne h_tb h_c (by simp)
              have ne55 : nq ky tb := gv_ne h_tb h_ky (by simp)
              have ne56 : nq pl tb := gv_ne h_tb h_pl (by simp)
              refine k_callV C mv_1_101 (c_overL  ((gv_up_n ne42).trans ((gv_up_n ne22).trans ((gv_up_n ne2).trans h_mo))) ((gv_up_n ne46).trans ((gv_up_n ne30).trans ((gv_up_n ne10).trans h_no))) ((gv_up_n ne47).trans ((gv_up_n ne31).trans ((gv_up_n ne11).trans h_xe))) ((gv_up_n ne48).trans ((gv_up_n ne32).trans ((gv_up_n ne12).trans h_ak))) ((gv_up_n ne49).trans ((gv_up_n ne33).trans ((gv_up_n ne13).trans h_af))) ((gv_up_n ne50).trans ((gv_up_n ne34).trans ((gv_up_n ne14).trans h_as))) ((gv_up_n ne51).trans ((gv_up_n ne35).trans ((gv_up_n ne15).trans h_ap))) ((gv_up_n ne52).trans ((gv_up_n ne36).trans ((gv_up_n ne16).trans h_av))) ((gv_up_n ne53).trans ((gv_up_n ne40).trans ((gv_up_n ne20).trans h_a))) ((gv_up_n ne54).trans ((gv_up_n ne41).trans ((gv_up_n ne21).trans h_c))) ((gv_up_n (Ne.symm ne19)).trans ((gv_up_n htq_w1).trans gv_up_s)) ((gv_up_n (Ne.symm ne39)).trans gv_up_s) ((gv_up_n ne55).trans ((gv_up_n ne37).trans ((gv_up_n ne17).trans h_ky))) ((gv_up_n ne56).trans ((gv_up_n ne38).trans ((gv_up_n ne18).trans h_pl))) hSa (by first | assumption | omega) (Ne.symm ne20) (Ne.symm ne41) hky) ((gv_up_n ne42).trans ((gv_up_n ne22).trans ((gv_up_n ne2).trans h_mo))) rfl rfl (by simp [Value.category]) ⟨by decide, by decide⟩ ⟨(by decide), (by decide)⟩ dX1_refresh_131 (fun zv zV zh => ?_)
              obtain ⟨vl1_w57, kf1_w57, pf1_w57, n1_w57, tl1_w57, f1_w57, rfl, rfl, ht1_w57⟩ := zh
              refine k_pc (pc' := 134) (st' := []) rfl rfl ?_
              refine k_view (V1 := gv_up (gv_up (gv_up (gv_up (gv_up (gv_up (gv_up V t_w1 (.inr (4, [.ref q_w1, .int (nI 0), .int (nI 0), .int (nI nt)]))) q_w1 (.inl (cI, 486, .inl f1_w57))) tb (.inl (cR, 120, .inr (.inr (.inr (.inr (va_up tf (i * 4 + g) (some t_w1)))))))) av (.inl (cI, 30, .inl vl1_w57))) ky (.inl (cI, 80, .inl kf1_w57))) pl (.inl (cI, 80, .inl pf1_w57))) t_w1 (.inr (4, [.ref q_w1, .int (nI n1_w57), .int tl1_w57, .int (nI nt)]))) (congrArg (fun W => gv_up W t_w1 (.inr (4, [.ref q_w1, .int (nI n1_w57), .int tl1_w57, .int (nI nt)]))) ((gv_uc (Ne.symm ne38)).trans (congrArg (fun W => gv_up W pl (.inl (cI, 80, .inl pf1_w57))) ((gv_uc (Ne.symm ne37)).trans (congrArg (fun W => gv_up W ky (.inl (cI, 80, .inl kf1_w57))) ((gv_uc (Ne.symm ne36)).trans (congrArg (fun W => gv_up W av (.inl (cI, 30, .inl vl1_w57))) ((gv_uc (Ne.symm ne39)).trans (congrArg (fun W => gv_up W tb (.inl (cR, 120, .inr (.inr (.inr (.inr (va_up tf (i * 4 + g) (some t_w1)))))))) gv_uu))))))))) ?_
              refine k_view (V1 := gv_up (gv_up (gv_up (gv_up (gv_up (gv_up V t_w1 (.inr (4, [.ref q_w1, .int (nI n1_w57), .int tl1_w57, .int (nI nt)]))) q_w1 (.inl (cI, 486, .inl f1_w57))) tb (.inl (cR, 120, .inr (.inr (.inr (.inr (va_up tf (i * 4 + g) (some t_w1)))))))) av (.inl (cI, 30, .inl vl1_w57))) ky (.inl (cI, 80, .inl kf1_w57))) pl (.inl (cI, 80, .inl pf1_w57))) ((gv_uc (Ne.symm ne18)).trans (congrArg (fun W => gv_up W pl (.inl (cI, 80, .inl pf1_w57))) ((gv_uc (Ne.symm ne17)).trans (congrArg (fun W => gv_up W ky (.inl (cI, 80, .inl kf1_w57))) ((gv_uc (Ne.symm ne16)).trans (congrArg (fun W => gv_up W av (.inl (cI, 30, .inl vl1_w57))) ((gv_uc (Ne.symm ne19)).trans (congrArg (fun W => gv_up W tb (.inl (cR, 120, .inr (.inr (.inr (.inr (va_up tf (i * 4 + g) (some t_w1)))))))) ((gv_uc htq_w1).trans (congrArg (fun W => gv_up W q_w1 (.inl (cI, 486, .inl f1_w57))) gv_uu)))))))))) ?_
              refine k_goto (tgt := 166) C dX1_refresh_134 (by decide) ?_
              refine k_view (V1 := gv_up (gv_up (gv_up (gv_up (gv_up (gv_up V t_w1 (.inr (4, [.ref q_w1, .int (nI n1_w57), .int tl1_w57, .int (nI nt)]))) q_w1 (.inl (cI, 486, .inl f1_w57))) av (.inl (cI, 30, .inl vl1_w57))) tb (.inl (cR, 120, .inr (.inr (.inr (.inr (va_up tf (i * 4 + g) (some t_w1)))))))) ky (.inl (cI, 80, .inl kf1_w57))) pl (.inl (cI, 80, .inl pf1_w57))) (congrArg (fun W => gv_up W pl (.inl (cI, 80, .inl pf1_w57))) (congrArg (fun W => gv_up W ky (.inl (cI, 80, .inl kf1_w57))) (gv_uc ne52))) ?_
              refine k_view (V1 := gv_up (gv_up (gv_up (gv_up (gv_up (gv_up V t_w1 (.inr (4, [.ref q_w1, .int (nI n1_w57), .int tl1_w57, .int (nI nt)]))) av (.inl (cI, 30, .inl vl1_w57))) q_w1 (.inl (cI, 486, .inl f1_w57))) tb (.inl (cR, 120, .inr (.inr (.inr (.inr (va_up tf (i * 4 + g) (some t_w1)))))))) ky (.inl (cI, 80, .inl kf1_w57))) pl (.inl (cI, 80, .inl pf1_w57))) (congrArg (fun W => gv_up W pl (.inl (cI, 80, .inl pf1_w57))) (congrArg (fun W => gv_up W ky (.inl (cI, 80, .inl kf1_w57))) (congrArg (fun W => gv_up W tb (.inl (cR, 120, .inr (.inr (.inr (.inr (va_up tf (i * 4 + g) (some t_w1)))))))) (gv_uc ne36)))) ?_
              refine k_view (V1 := gv_up (gv_up (gv_up (gv_up (gv_up (gv_up V av (.inl (cI, 30, .inl vl1_w57))) t_w1 (.inr (4, [.ref q_w1, .int (nI n1_w57), .int tl1_w57, .int (nI nt)]))) q_w1 (.inl (cI, 486, .inl f1_w57))) tb (.inl (cR, 120, .inr (.inr (.inr (.inr (va_up tf (i * 4 + g) (some t_w1)))))))) ky (.inl (cI, 80, .inl kf1_w57))) pl (.inl (cI, 80, .inl pf1_w57))) (congrArg (fun W => gv_up W pl (.inl (cI, 80, .inl pf1_w57))) (congrArg (fun W => gv_up W ky (.inl (cI, 80, .inl kf1_w57))) (congrArg (fun W => gv_up W tb (.inl (cR, 120, .inr (.inr (.inr (.inr (va_up tf (i * 4 + g) (some t_w1)))))))) (congrArg (fun W => gv_up W q_w1 (.inl (cI, 486, .inl f1_w57))) (gv_uc ne16))))) ?_
              refine k_view (V1 := gv_up (gv_up (gv_up (gv_up (gv_up (gv_up V av (.inl (cI, 30, .inl vl1_w57))) t_w1 (.inr (4, [.ref q_w1, .int (nI n1_w57), .int tl1_w57, .int (nI nt)]))) q_w1 (.inl (cI, 486, .inl f1_w57))) ky (.inl (cI, 80, .inl kf1_w57))) tb (.inl (cR, 120, .inr (.inr (.inr (.inr (va_up tf (i * 4 + g) (some t_w1)))))))) pl (.inl (cI, 80, .inl pf1_w57))) (congrArg (fun W => gv_up W pl (.inl (cI, 80, .inl pf1_w57))) (gv_uc ne55)) ?_
              refine k_view (V1 := gv_up (gv_up (gv_up (gv_up (gv_up (gv_up V av (.inl (cI, 30, .inl vl1_w57))) t_w1 (.inr (4, [.ref q_w1, .int (nI n1_w57), .int tl1_w57, .int (nI nt)]))) ky (.inl (cI, 80, .inl kf1_w57))) q_w1 (.inl (cI, 486, .inl f1_w57))) tb (.inl (cR, 120, .inr (.inr (.inr (.inr (va_up tf (i * 4 + g) (some t_w1)))))))) pl (.inl (cI, 80, .inl pf1_w57))) (congrArg (fun W => gv_up W pl (.inl (cI, 80, .inl pf1_w57))) (congrArg (fun W => gv_up W tb (.inl (cR, 120, .inr (.inr (.inr (.inr (va_up tf (i * 4 + g) (some t_w1)))))))) (gv_uc ne37))) ?_
              refine k_view (V1 := gv_up (gv_up (gv_up (gv_up (gv_up (gv_up V av (.inl (cI, 30, .inl vl1_w57))) ky (.inl (cI, 80, .inl kf1_w57))) t_w1 (.inr (4, [.ref q_w1, .int (nI n1_w57), .int tl1_w57, .int (nI nt)]))) q_w1 (.inl (cI, 486, .inl f1_w57))) tb (.inl (cR, 120, .inr (.inr (.inr (.inr (va_up tf (i * 4 + g) (some t_w1)))))))) pl (.inl (cI, 80, .inl pf1_w57))) (congrArg (fun W => gv_up W pl (.inl (cI, 80, .inl pf1_w57))) (congrArg (fun W => gv_up W tb (.inl (cR, 120, .inr (.inr (.inr (.inr (va_up tf (i * 4 + g) (some t_w1)))))))) (congrArg (fun W => gv_up W q_w1 (.inl (cI, 486, .inl f1_w57))) (gv_uc ne17)))) ?_
              refine k_view (V1 := gv_up (gv_up (gv_up (gv_up (gv_up (gv_up V av (.inl (cI, 30, .inl vl1_w57))) ky (.inl (cI, 80, .inl kf1_w57))) t_w1 (.inr (4, [.ref q_w1, .int (nI n1_w57), .int tl1_w57, .int (nI nt)]))) q_w1 (.inl (cI, 486, .inl f1_w57))) pl (.inl (cI, 80, .inl pf1_w57))) tb (.inl (cR, 120, .inr (.inr (.inr (.inr (va_up tf (i * 4 + g) (some t_w1)))))))) (gv_uc ne56) ?_
              refine k_view (V1 := gv_up (gv_up (gv_up (gv_up (gv_up (gv_up V av (.inl (cI, 30, .inl vl1_w57))) ky (.inl (cI, 80, .inl kf1_w57))) t_w1 (.inr (4, [.ref q_w1, .int (nI n1_w57), .int tl1_w57, .int (nI nt)]))) pl (.inl (cI, 80, .inl pf1_w57))) q_w1 (.inl (cI, 486, .inl f1_w57))) tb (.inl (cR, 120, .inr (.inr (.inr (.inr (va_up tf (i * 4 + g) (some t_w1)))))))) (congrArg (fun W => gv_up W tb (.inl (cR, 120, .inr (.inr (.inr (.inr (va_up tf (i * 4 + g) (some t_w1)))))))) (gv_uc ne38)) ?_
              refine k_view (V1 := gv_up (gv_up (gv_up (gv_up (gv_up (gv_up V av (.inl (cI, 30, .inl vl1_w57))) ky (.inl (cI, 80, .inl kf1_w57))) pl (.inl (cI, 80, .inl pf1_w57))) t_w1 (.inr (4, [.ref q_w1, .int (nI n1_w57), .int tl1_w57, .int (nI nt)]))) q_w1 (.inl (cI, 486, .inl f1_w57))) tb (.inl (cR, 120, .inr (.inr (.inr (.inr (va_up tf (i * 4 + g) (some t_w1)))))))) (congrArg (fun W => gv_up W tb (.inl (cR, 120, .inr (.inr (.inr (.inr (va_up tf (i * 4 + g) (some t_w1)))))))) (congrArg (fun W => gv_up W q_w1 (.inl (cI, 486, .inl f1_w57))) (gv_uc ne18))) ?_
              refine k_view (V1 := gv_up (gv_up (gv_up (gv_up (gv_up (gv_up V av (.inl (cI, 30, .inl vl1_w57))) ky (.inl (cI, 80, .inl kf1_w57))) pl (.inl (cI, 80, .inl pf1_w57))) q_w1 (.inl (cI, 486, .inl f1_w57))) t_w1 (.inr (4, [.ref q_w1, .int (nI n1_w57), .int tl1_w57, .int (nI nt)]))) tb (.inl (cR, 120, .inr (.inr (.inr (.inr (va_up tf (i * 4 + g) (some t_w1)))))))) (congrArg (fun W => gv_up W tb (.inl (cR, 120, .inr (.inr (.inr (.inr (va_up tf (i * 4 + g) (some t_w1)))))))) (gv_uc (Ne.symm htq_w1))) ?_
              exact k_vret C zr zlk ⟨t_w1, q_w1, vl1_w57, kf1_w57, pf1_w57, n1_w57, tl1_w57, f1_w57, rfl, rfl, ht1_w1, hq_w1, htq_w1, ht1_w57⟩ (Nat.le_refl _) (Nat.le_refl _) dX1_refresh_166
            · skip
              have ne58 : nq xe tb := gv_ne h_tb h_xe (by simp)
              have ne59 : nq ak tb := gv_ne h_tb h_ak (by simp)
              have ne60 : nq af tb := gv_ne h_tb h_af (by simp)
              have ne61 : nq as tb := gv_ne h_tb h_as (by simp)
              have ne62 : nq ap tb := gv_ne h_tb h_ap (by simp)
              have ne63 : nq av tb := gv_ne h_tb h_av (by simp)
              have ne64 : nq a tb := gv_ne h_tb h_a (by simp)
              have ne65 : nq c tb := gv_ne h_tb h_c (by simp)
              have ne66 : nq ky tb := gv_ne h_tb h_ky (by simp)
              have ne67 : nq pl tb := gv_ne h_tb h_pl (by simp)
              refine k_callV C mv_1_101 (c_over8  ((gv_up_n ne42).trans ((gv_up_n ne22).trans ((gv_up_n ne2).trans h_mo))) ((gv_up_n ne46).trans ((gv_up_n ne30).trans ((gv_up_n ne10).trans h_no))) ((gv_up_n ne58).trans ((gv_up_n ne31).trans ((gv_up_n ne11).trans h_xe))) ((gv_up_n ne59).trans ((gv_up_n ne32).trans ((gv_up_n ne12).trans h_ak))) ((gv_up_n ne60).trans ((gv_up_n ne33).trans ((gv_up_n ne13).trans h_af))) ((gv_up_n ne61).trans ((gv_up_n ne34).trans ((gv_up_n ne14).trans h_as))) ((gv_up_n ne62).trans ((gv_up_n ne35).trans ((gv_up_n ne15).trans h_ap))) ((gv_up_n ne63).trans ((gv_up_n ne36).trans ((gv_up_n ne16).trans h_av))) ((gv_up_n ne64).trans ((gv_up_n ne40).trans ((gv_up_n ne20).trans h_a))) ((gv_up_n ne65).trans ((gv_up_n ne41).trans ((gv_up_n ne21).trans h_c))) ((gv_up_n (Ne.symm ne19)).trans ((gv_up_n htq_w1).trans gv_up_s)) ((gv_up_n (Ne.symm ne39)).trans gv_up_s) ((gv_up_n ne66).trans ((gv_up_n ne37).trans ((gv_up_n ne17).trans h_ky))) ((gv_up_n ne67).trans ((gv_up_n ne38).trans ((gv_up_n ne18).trans h_pl))) (by first | assumption | omega) (by first | assumption | omega) hSa.2 (Ne.symm ne20) (Ne.symm ne41) hSa.1 hky) ((gv_up_n ne42).trans ((gv_up_n ne22).trans ((gv_up_n ne2).trans h_mo))) rfl rfl (by simp [Value.category]) ⟨by decide, by decide⟩ ⟨(by decide), (by decide)⟩ dX1_refresh_131 (fun zv zV zh => ?_)
              obtain ⟨vl1_w68, kf1_w68, pf1_w68, n1_w68, tl1_w68, f1_w68, rfl, rfl, ht1_w68⟩ := zh
              refine k_pc (pc' := 134) (st' := []) rfl rfl ?_
              refine k_view (V1 := gv_up (gv_up (gv_up (gv_up (gv_up (gv_up (gv_up V t_w1 (.inr (4, [.ref q_w1, .int (nI 0), .int (nI 0), .int (nI nt)]))) q_w1 (.inl (cI, 486, .inl f1_w68))) tb (.inl (cR, 120, .inr (.inr (.inr (.inr (va_up tf (i * 4 + g) (some t_w1)))))))) av (.inl (cI, 30, .inl vl1_w68))) ky (.inl (cI, 80, .inl kf1_w68))) pl (.inl (cI, 80, .inl pf1_w68))) t_w1 (.inr (4, [.ref q_w1, .int (nI n1_w68), .int tl1_w68, .int (nI nt)]))) (congrArg (fun W => gv_up W t_w1 (.inr (4, [.ref q_w1, .int (nI n1_w68), .int tl1_w68, .int (nI nt)]))) ((gv_uc (Ne.symm ne38)).trans (congrArg (fun W => gv_up W pl (.inl (cI, 80, .inl pf1_w68))) ((gv_uc (Ne.symm ne37)).trans (congrArg (fun W => gv_up W ky (.inl (cI, 80, .inl kf1_w68))) ((gv_uc (Ne.symm ne36)).trans (congrArg (fun W => gv_up W av (.inl (cI, 30, .inl vl1_w68))) ((gv_uc (Ne.symm ne39)).trans (congrArg (fun W => gv_up W tb (.inl (cR, 120, .inr (.inr (.inr (.inr (va_up tf (i * 4 + g) (some t_w1)))))))) gv_uu))))))))) ?_
              refine k_view (V1 := gv_up (gv_up (gv_up (gv_up (gv_up (gv_up V t_w1 (.inr (4, [.ref q_w1, .int (nI n1_w68), .int tl1_w68, .int (nI nt)]))) q_w1 (.inl (cI, 486, .inl f1_w68))) tb (.inl (cR, 120, .inr (.inr (.inr (.inr (va_up tf (i * 4 + g) (some t_w1)))))))) av (.inl (cI, 30, .inl vl1_w68))) ky (.inl (cI, 80, .inl kf1_w68))) pl (.inl (cI, 80, .inl pf1_w68))) ((gv_uc (Ne.symm ne18)).trans (congrArg (fun W => gv_up W pl (.inl (cI, 80, .inl pf1_w68))) ((gv_uc (Ne.symm ne17)).trans (congrArg (fun W => gv_up W ky (.inl (cI, 80, .inl kf1_w68))) ((gv_uc (Ne.symm ne16)).trans (congrArg (fun W => gv_up W av (.inl (cI, 30, .inl vl1_w68))) ((gv_uc (Ne.symm ne19)).trans (congrArg (fun W => gv_up W tb (.inl (cR, 120, .inr (.inr (.inr (.inr (va_up tf (i * 4 + g) (some t_w1)))))))) ((gv_uc htq_w1).trans (congrArg (fun W => gv_up W q_w1 (.inl (cI, 486, .inl f1_w68))) gv_uu)))))))))) ?_
              refine k_goto (tgt := 166) C dX1_refresh_134 (by decide) ?_
              refine k_view (V1 := gv_up (gv_up (gv_up (gv_up (gv_up (gv_up V t_w1 (.inr (4, [.ref q_w1, .int (nI n1_w68), .int tl1_w68, .int (nI nt)]))) q_w1 (.inl (cI, 486, .inl f1_w68))) av (.inl (cI, 30, .inl vl1_w68))) tb (.inl (cR, 120, .inr (.inr (.inr (.inr (va_up tf (i * 4 + g) (some t_w1)))))))) ky (.inl (cI, 80, .inl kf1_w68))) pl (.inl (cI, 80, .inl pf1_w68))) (congrArg (fun W => gv_up W pl (.inl (cI, 80, .inl pf1_w68))) (congrArg (fun W => gv_up W ky (.inl (cI, 80, .inl kf1_w68))) (gv_uc ne63))) ?_
              refine k_view (V1 := gv_up (gv_up (gv_up (gv_up (gv_up (gv_up V t_w1 (.inr (4, [.ref q_w1, .int (nI n1_w68), .int tl1_w68, .int (nI nt)]))) av (.inl (cI, 30, .inl vl1_w68))) q_w1 (.inl (cI, 486, .inl f1_w68))) tb (.inl (cR, 120, .inr (.inr (.inr (.inr (va_up tf (i * 4 + g) (some t_w1)))))))) ky (.inl (cI, 80, .inl kf1_w68))) pl (.inl (cI, 80, .inl pf1_w68))) (congrArg (fun W => gv_up W pl (.inl (cI, 80, .inl pf1_w68))) (congrArg (fun W => gv_up W ky (.inl (cI, 80, .inl kf1_w68))) (congrArg (fun W => gv_up W tb (.inl (cR, 120, .inr (.inr (.inr (.inr (va_up tf (i * 4 + g) (some t_w1)))))))) (gv_uc ne36)))) ?_
              refine k_view (V1 := gv_up (gv_up (gv_up (gv_up (gv_up (gv_up V av (.inl (cI, 30, .inl vl1_w68))) t_w1 (.inr (4, [.ref q_w1, .int (nI n1_w68), .int tl1_w68, .int (nI nt)]))) q_w1 (.inl (cI, 486, .inl f1_w68))) tb (.inl (cR, 120, .inr (.inr (.inr (.inr (va_up tf (i * 4 + g) (some t_w1)))))))) ky (.inl (cI, 80, .inl kf1_w68))) pl (.inl (cI, 80, .inl pf1_w68))) (congrArg (fun W => gv_up W pl (.inl (cI, 80, .inl pf1_w68))) (congrArg (fun W => gv_up W ky (.inl (cI, 80, .inl kf1_w68))) (congrArg (fun W => gv_up W tb (.inl (cR, 120, .inr (.inr (.inr (.inr (va_up tf (i * 4 + g) (some t_w1)))))))) (congrArg (fun W => gv_up W q_w1 (.inl (cI, 486, .inl f1_w68))) (gv_uc ne16))))) ?_
              refine k_view (V1 := gv_up (gv_up (gv_up (gv_up (gv_up (gv_up V av (.inl (cI, 30, .inl vl1_w68))) t_w1 (.inr (4, [.ref q_w1, .int (nI n1_w68), .int tl1_w68, .int (nI nt)]))) q_w1 (.inl (cI, 486, .inl f1_w68))) ky (.inl (cI, 80, .inl kf1_w68))) tb (.inl (cR, 120, .inr (.inr (.inr (.inr (va_up tf (i * 4 + g) (some t_w1)))))))) pl (.inl (cI, 80, .inl pf1_w68))) (congrArg (fun W => gv_up W pl (.inl (cI, 80, .inl pf1_w68))) (gv_uc ne66)) ?_
              refine k_view (V1 := gv_up (gv_up (gv_up (gv_up (gv_up (gv_up V av (.inl (cI, 30, .inl vl1_w68))) t_w1 (.inr (4, [.ref q_w1, .int (nI n1_w68), .int tl1_w68, .int (nI nt)]))) ky (.inl (cI, 80, .inl kf1_w68))) q_w1 (.inl (cI, 486, .inl f1_w68))) tb (.inl (cR, 120, .inr (.inr (.inr (.inr (va_up tf (i * 4 + g) (some t_w1)))))))) pl (.inl (cI, 80, .inl pf1_w68))) (congrArg (fun W => gv_up W pl (.inl (cI, 80, .inl pf1_w68))) (congrArg (fun W => gv_up W tb (.inl (cR, 120, .inr (.inr (.inr (.inr (va_up tf (i * 4 + g) (some t_w1)))))))) (gv_uc ne37))) ?_
              refine k_view (V1 := gv_up (gv_up (gv_up (gv_up (gv_up (gv_up V av (.inl (cI, 30, .inl vl1_w68))) ky (.inl (cI, 80, .inl kf1_w68))) t_w1 (.inr (4, [.ref q_w1, .int (nI n1_w68), .int tl1_w68, .int (nI nt)]))) q_w1 (.inl (cI, 486, .inl f1_w68))) tb (.inl (cR, 120, .inr (.inr (.inr (.inr (va_up tf (i * 4 + g) (some t_w1)))))))) pl (.inl (cI, 80, .inl pf1_w68))) (congrArg (fun W => gv_up W pl (.inl (cI, 80, .inl pf1_w68))) (congrArg (fun W => gv_up W tb (.inl (cR, 120, .inr (.inr (.inr (.inr (va_up tf (i * 4 + g) (some t_w1)))))))) (congrArg (fun W => gv_up W q_w1 (.inl (cI, 486, .inl f1_w68))) (gv_uc ne17)))) ?_
              refine k_view (V1 := gv_up (gv_up (gv_up (gv_up (gv_up (gv_up V av (.inl (cI, 30, .inl vl1_w68))) ky (.inl (cI, 80, .inl kf1_w68))) t_w1 (.inr (4, [.ref q_w1, .int (nI n1_w68), .int tl1_w68, .int (nI nt)]))) q_w1 (.inl (cI, 486, .inl f1_w68))) pl (.inl (cI, 80, .inl pf1_w68))) tb (.inl (cR, 120, .inr (.inr (.inr (.inr (va_up tf (i * 4 + g) (some t_w1)))))))) (gv_uc ne67) ?_
              refine k_view (V1 := gv_up (gv_up (gv_up (gv_up (gv_up (gv_up V av (.inl (cI, 30, .inl vl1_w68))) ky (.inl (cI, 80, .inl kf1_w68))) t_w1 (.inr (4, [.ref q_w1, .int (nI n1_w68), .int tl1_w68, .int (nI nt)]))) pl (.inl (cI, 80, .inl pf1_w68))) q_w1 (.inl (cI, 486, .inl f1_w68))) tb (.inl (cR, 120, .inr (.inr (.inr (.inr (va_up tf (i * 4 + g) (some t_w1)))))))) (congrArg (fun W => gv_up W tb (.inl (cR, 120, .inr (.inr (.inr (.inr (va_up tf (i * 4 + g) (some t_w1)))))))) (gv_uc ne38)) ?_
              refine k_view (V1 := gv_up (gv_up (gv_up (gv_up (gv_up (gv_up V av (.inl (cI, 30, .inl vl1_w68))) ky (.inl (cI, 80, .inl kf1_w68))) pl (.inl (cI, 80, .inl pf1_w68))) t_w1 (.inr (4, [.ref q_w1, .int (nI n1_w68), .int tl1_w68, .int (nI nt)]))) q_w1 (.inl (cI, 486, .inl f1_w68))) tb (.inl (cR, 120, .inr (.inr (.inr (.inr (va_up tf (i * 4 + g) (some t_w1)))))))) (congrArg (fun W => gv_up W tb (.inl (cR, 120, .inr (.inr (.inr (.inr (va_up tf (i * 4 + g) (some t_w1)))))))) (congrArg (fun W => gv_up W q_w1 (.inl (cI, 486, .inl f1_w68))) (gv_uc ne18))) ?_
              refine k_view (V1 := gv_up (gv_up (gv_up (gv_up (gv_up (gv_up V av (.inl (cI, 30, .inl vl1_w68))) ky (.inl (cI, 80, .inl kf1_w68))) pl (.inl (cI, 80, .inl pf1_w68))) q_w1 (.inl (cI, 486, .inl f1_w68))) t_w1 (.inr (4, [.ref q_w1, .int (nI n1_w68), .int tl1_w68, .int (nI nt)]))) tb (.inl (cR, 120, .inr (.inr (.inr (.inr (va_up tf (i * 4 + g) (some t_w1)))))))) (congrArg (fun W => gv_up W tb (.inl (cR, 120, .inr (.inr (.inr (.inr (va_up tf (i * 4 + g) (some t_w1)))))))) (gv_uc (Ne.symm htq_w1))) ?_
              exact k_vret C zr zlk ⟨t_w1, q_w1, vl1_w68, kf1_w68, pf1_w68, n1_w68, tl1_w68, f1_w68, rfl, rfl, ht1_w1, hq_w1, htq_w1, ht1_w68⟩ (Nat.le_refl _) (Nat.le_refl _) dX1_refresh_166
        · skip
          exact absurd c94 (by decide)
      · skip
        exact absurd c73 (by decide)
    · skip
      exact absurd c54 (by decide)
  · skip
    exact absurd c18.symm (nI_n1 (by omega))
set_option maxHeartbeats 4000000 in
set_option maxRecDepth 100000 in
theorem c_ref9N {zl : Launch} {D : va_G} {cI cN cR : ClassId} {base : Nat} {V : gv_V} {mo tr nd tb wg ky pl : Nat} {tga tsa tpa tqa nt : Nat} {tg ts tp tq : Nat → Int32} {nl nn : Nat} {nf : Nat → Option Nat} {no : Nat} {ps pp po ex va st dn ag gr : Int32} {u0 u1 : Nat} {xe ak af as ap av ne : Nat} {kd fs sc pt vl : Nat → Int32} {kf pf : Nat → Int32} {tf : Nat → Option Nat} {i g a0 : Nat} {E : Nat → Ex} {a c n : Nat} {tl mk : Int32} {f : Nat → Int32} {SA : Option (List Row)}  (h_mo : V mo = some (.inr (1, [.ref tr, .ref xe, .ref nd, .ref tb, .ref wg, .ref ky, .ref pl]))) (h_tr : V tr = some (.inr (5, [.ref tga, .ref tsa, .ref tpa, .ref tqa, .int (nI nt)]))) (h_tga : V tga = some (.inl (cI, 60, .inl tg))) (h_tsa : V tsa = some (.inl (cI, 60, .inl ts))) (h_tpa : V tpa = some (.inl (cI, 60, .inl tp))) (h_tqa : V tqa = some (.inl (cI, 60, .inl tq))) (h_nd : V nd = some (.inr (3, [.ref nl, .int (nI nn)]))) (h_nl : V nl = some (.inl (cN, 30, .inr (.inr (.inr (.inr nf)))))) (h_no : V no = some (.inr (2, [.int (nI 9), .int (nI a0), .int (-1 : Int32), .int ps, .int pp, .int po, .int ex, .int va, .int st, .int (nI u0), .int (nI u1), .int dn, .int ag, .int gr]))) (h_xe : V xe = some (.inr (0, [.ref ak, .ref af, .ref as, .ref ap, .ref av, .int (nI ne)]))) (h_ak : V ak = some (.inl (cI, 30, .inl kd))) (h_af : V af = some (.inl (cI, 30, .inl fs))) (h_as : V as = some (.inl (cI, 30, .inl sc))) (h_ap : V ap = some (.inl (cI, 30, .inl pt))) (h_av : V av = some (.inl (cI, 30, .inl vl))) (h_ky : V ky = some (.inl (cI, 80, .inl kf))) (h_pl : V pl = some (.inl (cI, 80, .inl pf))) (h_tb : V tb = some (.inl (cR, 120, .inr (.inr (.inr (.inr tf)))))) (h_a : V a = some (.inr (4, [.ref c, .int (nI n), .int tl, .int mk]))) (h_c : V c = some (.inl (cI, 486, .inl f))) (hX : ExR E ne kd fs sc pt) (hd : [ak, af, as, ap, av].Nodup) (hi : i < 30) (hg : g < 4) (hnf : nf i = some no) (hky : nq ky pl) (hnt : nt ≤ 60) (ht : tf (i * 4 + g) = none) (ha0 : a0 < i) (hta : tf (a0 * 4 + g) = some a) (hSa : TRep SA n tl f) (hu0 : u0 ≤ 1000) (hu1 : u1 ≤ 1000) : ct zl D [(cI, .int), (cN, .object "AlgebraTree$Node"), (cR, .object "AlgebraTree$Rows")] base yX1_refresh cX1_refresh 6 none 5 2 490 [.ref mo, .int (nI i), .int (nI g)] V (fun zv zV => ∃ t : Nat, ∃ q : Nat, ∃ vl1 : Nat → Int32, ∃ kf1 : Nat → Int32, ∃ pf1 : Nat → Int32, ∃ n1 : Nat, ∃ tl1 : Int32, ∃ f1 : Nat → Int32, zv = none ∧ zV = gv_up (gv_up (gv_up (gv_up (gv_up (gv_up V av (.inl (cI, 30, .inl vl1))) ky (.inl (cI, 80, .inl kf1))) pl (.inl (cI, 80, .inl pf1))) q (.inl (cI, 486, .inl f1))) t (.inr (4, [.ref q, .int (nI n1), .int tl1, .int (nI nt)]))) tb (.inl (cR, 120, .inr (.inr (.inr (.inr (va_up tf (i * 4 + g) (some t))))))) ∧ (V t = none) ∧ (V q = none) ∧ (nq t q) ∧ (TRep (SA.bind (fun A => cap ((A.drop u0).take u1))) n1 tl1 f1)) := by
  refine ct_of "AlgebraTree$Maker" rfl (by decide) (Nat.le_of_ble_eq_true rfl) ?_
  intro zp ze zs zm zargs zbelow zmeth zc C zr zlk znm
  refine k_pc (pc' := 0) (st' := []) rfl rfl ?_
  show K zp zl ze (gv_rm 5 2 490) zs zm zargs zbelow zmeth zc D base 6 (gv_E D [(cI, .int), (cN, .object "AlgebraTree$Node"), (cR, .object "AlgebraTree$Rows")] base zbelow zargs zs 2 490 (fun zv zV => ∃ t : Nat, ∃ q : Nat, ∃ vl1 : Nat → Int32, ∃ kf1 : Nat → Int32, ∃ pf1 : Nat → Int32, ∃ n1 : Nat, ∃ tl1 : Int32, ∃ f1 : Nat → Int32, zv = none ∧ zV = gv_up (gv_up (gv_up (gv_up (gv_up (gv_up V av (.inl (cI, 30, .inl vl1))) ky (.inl (cI, 80, .inl kf1))) pl (.inl (cI, 80, .inl pf1))) q (.inl (cI, 486, .inl f1))) t (.inr (4, [.ref q, .int (nI n1), .int tl1, .int (nI nt)]))) tb (.inl (cR, 120, .inr (.inr (.inr (.inr (va_up tf (i * 4 + g) (some t))))))) ∧ (V t = none) ∧ (V q = none) ∧ (nq t q) ∧ (TRep (SA.bind (fun A => cap ((A.drop u0).take u1))) n1 tl1 f1))) V 0 0 [(0, .ref mo), (1, .int (nI i)), (2, .int (nI g))] 0 []
  refine k_aload_n C dX1_refresh_0 rfl 0 rfl ?_
  refine k_iload_n C dX1_refresh_1 rfl 1 rfl ?_
  refine k_iload_n C dX1_refresh_2 rfl 2 rfl ?_
  refine k_callV C mv_1_56 (c_tableOfN  h_mo h_tb (by first | assumption | omega) (by first | assumption | omega) (by first | assumption | omega)) h_mo rfl rfl (by simp [Value.category]) ⟨by decide, by decide⟩ ⟨(by decide), (by decide)⟩ dX1_refresh_3 (fun zv zV zh => ?_)
  obtain ⟨t_w1, q_w1, rfl, rfl, ht1_w1, hq_w1, htq_w1⟩ := zh
  refine k_pc (pc' := 6) (st' := .ref t_w1 :: []) rfl rfl ?_
  have ne2 : nq mo t_w1 := gv_nf ht1_w1 h_mo
  have ne3 : nq tr t_w1 := gv_nf ht1_w1 h_tr
  have ne4 : nq tga t_w1 := gv_nf ht1_w1 h_tga
  have ne5 : nq tsa t_w1 := gv_nf ht1_w1 h_tsa
  have ne6 : nq tpa t_w1 := gv_nf ht1_w1 h_tpa
  have ne7 : nq tqa t_w1 := gv_nf ht1_w1 h_tqa
  have ne8 : nq nd t_w1 := gv_nf ht1_w1 h_nd
  have ne9 : nq nl t_w1 := gv_nf ht1_w1 h_nl
  have ne10 : nq no t_w1 := gv_nf ht1_w1 h_no
  have ne11 : nq xe t_w1 := gv_nf ht1_w1 h_xe
  have ne12 : nq ak t_w1 := gv_nf ht1_w1 h_ak
  have ne13 : nq af t_w1 := gv_nf ht1_w1 h_af
  have ne14 : nq as t_w1 := gv_nf ht1_w1 h_as
  have ne15 : nq ap t_w1 := gv_nf ht1_w1 h_ap
  have ne16 : nq av t_w1 := gv_nf ht1_w1 h_av
  have ne17 : nq ky t_w1 := gv_nf ht1_w1 h_ky
  have ne18 : nq pl t_w1 := gv_nf ht1_w1 h_pl
  have ne19 : nq tb t_w1 := gv_nf ht1_w1 h_tb
  have ne20 : nq a t_w1 := gv_nf ht1_w1 h_a
  have ne21 : nq c t_w1 := gv_nf ht1_w1 h_c
  have ne22 : nq mo q_w1 := gv_nf hq_w1 h_mo
  have ne23 : nq tr q_w1 := gv_nf hq_w1 h_tr
  have ne24 : nq tga q_w1 := gv_nf hq_w1 h_tga
  have ne25 : nq tsa q_w1 := gv_nf hq_w1 h_tsa
  have ne26 : nq tpa q_w1 := gv_nf hq_w1 h_tpa
  have ne27 : nq tqa q_w1 := gv_nf hq_w1 h_tqa
  have ne28 : nq nd q_w1 := gv_nf hq_w1 h_nd
  have ne29 : nq nl q_w1 := gv_nf hq_w1 h_nl
  have ne30 : nq no q_w1 := gv_nf hq_w1 h_no
  have ne31 : nq xe q_w1 := gv_nf hq_w1 h_xe
  have ne32 : nq ak q_w1 := gv_nf hq_w1 h_ak
  have ne33 : nq af q_w1 := gv_nf hq_w1 h_af
  have ne34 : nq as q_w1 := gv_nf hq_w1 h_as
  have ne35 : nq ap q_w1 := gv_nf hq_w1 h_ap
  have ne36 : nq av q_w1 := gv_nf hq_w1 h_av
  have ne37 : nq ky q_w1 := gv_nf hq_w1 h_ky
  have ne38 : nq pl q_w1 := gv_nf hq_w1 h_pl
  have ne39 : nq tb q_w1 := gv_nf hq_w1 h_tb
  have ne40 : nq a q_w1 := gv_nf hq_w1 h_a
  have ne41 : nq c q_w1 := gv_nf hq_w1 h_c
  refine k_astore_n (lv' := [(3, .ref t_w1), (0, .ref mo), (1, .int (nI i)), (2, .int (nI g))]) C dX1_refresh_6 rfl (by decide) rfl ?_
  refine k_aload_n C dX1_refresh_7 rfl 0 rfl ?_
  refine k_get (ci := 4) (k := 3) C fl_1_84 ((gv_up_n (Ne.symm ne19)).trans ((gv_up_n htq_w1).trans gv_up_s)) rfl dX1_refresh_8 ?_
  refine k_aload_n C dX1_refresh_11 rfl 1 rfl ?_
  have ne42 : nq mo tb := gv_ne h_tb h_mo (by simp)
  refine k_get (ci := 1) (k := 0) C fl_1_12 ((gv_up_n ne42).trans ((gv_up_n ne22).trans ((gv_up_n ne2).trans h_mo))) rfl dX1_refresh_12 ?_
  have ne43 : nq tr tb := gv_ne h_tb h_tr (by simp)
  refine k_get (ci := 5) (k := 4) C fl_1_87 ((gv_up_n ne43).trans ((gv_up_n ne23).trans ((gv_up_n ne3).trans h_tr))) rfl dX1_refresh_15 ?_
  refine k_icmp_ne (tgt := 22) C dX1_refresh_18 (by decide) (fun c18 => ?_) (fun c18 => ?_)
  · skip
    refine k_aload_n C dX1_refresh_22 rfl 0 rfl ?_
    refine k_callV_pv C mv_1_90 (c_X4_clear  ((gv_up_n (Ne.symm ne19)).trans ((gv_up_n htq_w1).trans gv_up_s)) ((gv_up_n (Ne.symm ne39)).trans gv_up_s) ) ((gv_up_n (Ne.symm ne19)).trans ((gv_up_n htq_w1).trans gv_up_s)) rfl rfl (by simp [Value.category]) ⟨by decide, by decide⟩ ⟨(by decide), (by decide)⟩ dX1_refresh_23 ?_
    refine k_view (V1 := gv_up (gv_up (gv_up V t_w1 (.inr (4, [.ref q_w1, .int (nI 0), .int (nI 0), .int (-1 : Int32)]))) q_w1 (.inl (cI, 486, .inl (fun _ => 0)))) tb (.inl (cR, 120, .inr (.inr (.inr (.inr (va_up tf (i * 4 + g) (some t_w1)))))))) ((gv_uc (Ne.symm ne19)).trans (congrArg (fun W => gv_up W tb (.inl (cR, 120, .inr (.inr (.inr (.inr (va_up tf (i * 4 + g) (some t_w1)))))))) ((gv_uc htq_w1).trans (congrArg (fun W => gv_up W q_w1 (.inl (cI, 486, .inl (fun _ => 0)))) gv_uu)))) ?_
    refine k_aload_n C dX1_refresh_26 rfl 0 rfl ?_
    refine k_aload_n C dX1_refresh_27 rfl 1 rfl ?_
    refine k_get (ci := 1) (k := 0) C fl_1_12 ((gv_up_n ne42).trans ((gv_up_n ne22).trans ((gv_up_n ne2).trans h_mo))) rfl dX1_refresh_28 ?_
    refine k_get (ci := 5) (k := 4) C fl_1_87 ((gv_up_n ne43).trans ((gv_up_n ne23).trans ((gv_up_n ne3).trans h_tr))) rfl dX1_refresh_31 ?_
    refine k_put (ci := 4) (k := 3) (fs' := [.ref q_w1, .int (nI 0), .int (nI 0), .int (nI nt)]) C fl_1_84 pf_4_3 ((gv_up_n (Ne.symm ne19)).trans ((gv_up_n htq_w1).trans gv_up_s)) rfl rfl (Nat.le_of_ble_eq_true rfl) rfl dX1_refresh_34 ?_
    refine k_view (V1 := gv_up (gv_up (gv_up V t_w1 (.inr (4, [.ref q_w1, .int (nI 0), .int (nI 0), .int (nI nt)]))) q_w1 (.inl (cI, 486, .inl (fun _ => 0)))) tb (.inl (cR, 120, .inr (.inr (.inr (.inr (va_up tf (i * 4 + g) (some t_w1)))))))) ((gv_uc (Ne.symm ne19)).trans (congrArg (fun W => gv_up W tb (.inl (cR, 120, .inr (.inr (.inr (.inr (va_up tf (i * 4 + g) (some t_w1)))))))) ((gv_uc htq_w1).trans (congrArg (fun W => gv_up W q_w1 (.inl (cI, 486, .inl (fun _ => 0)))) gv_uu)))) ?_
    refine k_aload_n C dX1_refresh_37 rfl 1 rfl ?_
    refine k_get (ci := 1) (k := 2) C fl_1_28 ((gv_up_n ne42).trans ((gv_up_n ne22).trans ((gv_up_n ne2).trans h_mo))) rfl dX1_refresh_38 ?_
    refine k_iload_n C dX1_refresh_41 rfl 2 rfl ?_
    have ne44 : nq nd tb := gv_ne h_tb h_nd (by simp)
    have ne45 : nq nl tb := gv_ne h_tb h_nl (by simp)
    refine k_callV_pr C mv_1_60 (c_X3_at  ((gv_up_n ne44).trans ((gv_up_n ne28).trans ((gv_up_n ne8).trans h_nd))) ((gv_up_n ne45).trans ((gv_up_n ne29).trans ((gv_up_n ne9).trans h_nl))) (by first | assumption | omega) hnf) ((gv_up_n ne44).trans ((gv_up_n ne28).trans ((gv_up_n ne8).trans h_nd))) rfl rfl (by simp [Value.category]) ⟨by decide, by decide⟩ ⟨(by decide), (by decide)⟩ dX1_refresh_42 ?_
    refine k_astore (lv' := [(4, .ref no), (3, .ref t_w1), (0, .ref mo), (1, .int (nI i)), (2, .int (nI g))]) C dX1_refresh_45 (by decide) rfl ?_
    refine k_aload C dX1_refresh_47 0 rfl ?_
    have ne46 : nq no tb := gv_ne h_tb h_no (by simp)
    refine k_get (ci := 2) (k := 0) C fl_1_77 ((gv_up_n ne46).trans ((gv_up_n ne30).trans ((gv_up_n ne10).trans h_no))) rfl dX1_refresh_49 ?_
    refine k_bipush (v := nI 12) C dX1_refresh_52 rfl ?_
    refine k_icmp_ne (tgt := 65) C dX1_refresh_54 (by decide) (fun c54 => ?_) (fun c54 => ?_)
    · skip
      have b54 : ¬ 9 = 12 := fun z => c54 ((nI_eq (a := 9) (b := 12) (by omega) (by omega)).mpr z)
      refine k_iload_n C dX1_refresh_65 rfl 4 rfl ?_
      refine k_istore (lv' := [(5, .int (nI g)), (4, .ref no), (3, .ref t_w1), (0, .ref mo), (1, .int (nI i)), (2, .int (nI g))]) C dX1_refresh_66 (by decide) rfl ?_
      refine k_aload C dX1_refresh_68 1 rfl ?_
      refine k_get (ci := 2) (k := 0) C fl_1_77 ((gv_up_n ne46).trans ((gv_up_n ne30).trans ((gv_up_n ne10).trans h_no))) rfl dX1_refresh_70 ?_
      refine k_if_ne (tgt := 87) C dX1_refresh_73 (by decide) (fun c73 => ?_) (fun c73 => ?_)
      · skip
        have b73 : ¬ 9 = 0 := fun z => c73 ((nI_eq (a := 9) (b := 0) (by omega) (by omega)).mpr z)
        refine k_aload C dX1_refresh_87 1 rfl ?_
        refine k_get (ci := 2) (k := 0) C fl_1_77 ((gv_up_n ne46).trans ((gv_up_n ne30).trans ((gv_up_n ne10).trans h_no))) rfl dX1_refresh_89 ?_
        refine k_bipush (v := nI 13) C dX1_refresh_92 rfl ?_
        refine k_icmp_ne (tgt := 107) C dX1_refresh_94 (by decide) (fun c94 => ?_) (fun c94 => ?_)
        · skip
          have b94 : ¬ 9 = 13 := fun z => c94 ((nI_eq (a := 9) (b := 13) (by omega) (by omega)).mpr z)
          refine k_aload C dX1_refresh_107 1 rfl ?_
          refine k_get (ci := 2) (k := 2) C fl_1_74 ((gv_up_n ne46).trans ((gv_up_n ne30).trans ((gv_up_n ne10).trans h_no))) rfl dX1_refresh_109 ?_
          refine k_iconst (v := (-1 : Int32)) C dX1_refresh_112 (by decide) ?_
          refine k_icmp_ne (tgt := 137) C dX1_refresh_113 (by decide) (fun c113 => ?_) (fun c113 => ?_)
          · skip
            exact absurd rfl c113
          · skip
            refine k_aload_n C dX1_refresh_116 rfl 3 rfl ?_
            refine k_aload C dX1_refresh_117 1 rfl ?_
            refine k_aload_n C dX1_refresh_119 rfl 3 rfl ?_
            refine k_aload C dX1_refresh_120 1 rfl ?_
            refine k_get (ci := 2) (k := 1) C fl_1_68 ((gv_up_n ne46).trans ((gv_up_n ne30).trans ((gv_up_n ne10).trans h_no))) rfl dX1_refresh_122 ?_
            refine k_iload C dX1_refresh_125 0 rfl ?_
            refine k_callV_pr C mv_1_56 (c_tableOf  ((gv_up_n ne42).trans ((gv_up_n ne22).trans ((gv_up_n ne2).trans h_mo))) gv_up_s (by first | assumption | omega) (by first | assumption | omega) (by simp only [va_up]; rw [if_neg (by omega)]; exact hta)) ((gv_up_n ne42).trans ((gv_up_n ne22).trans ((gv_up_n ne2).trans h_mo))) rfl rfl (by simp [Value.category]) ⟨by decide, by decide⟩ ⟨(by decide), (by decide)⟩ dX1_refresh_127 ?_
            refine k_aload_n C dX1_refresh_130 rfl 2 rfl ?_
            rcases SA with _ | A
            · skip
              have ne47 : nq xe tb := gv_ne h_tb h_xe (by simp)
              have ne48 : nq ak tb := gv_ne h_tb h_ak (by simp)
              have ne49 : nq af tb := gv_ne h_tb h_af (by simp)
              have ne50 : nq as tb := gv_ne h_tb h_as (by simp)
              have ne51 : nq ap tb := gv_ne h_tb h_ap (by simp)
              have ne52 : nq av tb := gv_ne h_tb h_av (by simp)
              have ne53 : nq a tb := gv_ne h_tb h_a (by simp)
              have ne54 : nq c tb := gv_ne h_tb h_c (by simp)
              have ne55 : nq ky tb := gv_ne h_tb h_ky (by simp)
              have ne56 : nq pl tb := gv_ne h_tb h_pl (by simp)
              refine k_callV C mv_1_101 (c_overL  ((gv_up_n ne42).trans ((gv_up_n ne22).trans ((gv_up_n ne2).trans h_mo))) ((gv_up_n ne46).trans ((gv_up_n ne30).trans ((gv_up_n ne10).trans h_no))) ((gv_up_n ne47).trans ((gv_up_n ne31).trans ((gv_up_n ne11).trans h_xe))) ((gv_up_n ne48).trans ((gv_up_n ne32).trans ((gv_up_n ne12).trans h_ak))) ((gv_up_n ne49).trans ((gv_up_n ne33).trans ((gv_up_n ne13).trans h_af))) ((gv_up_n ne50).trans ((gv_up_n ne34).trans ((gv_up_n ne14).trans h_as))) ((gv_up_n ne51).trans ((gv_up_n ne35).trans ((gv_up_n ne15).trans h_ap))) ((gv_up_n ne52).trans ((gv_up_n ne36).trans ((gv_up_n ne16).trans h_av))) ((gv_up_n ne53).trans ((gv_up_n ne40).trans ((gv_up_n ne20).trans h_a))) ((gv_up_n ne54).trans ((gv_up_n ne41).trans ((gv_up_n ne21).trans h_c))) ((gv_up_n (Ne.symm ne19)).trans ((gv_up_n htq_w1).trans gv_up_s)) ((gv_up_n (Ne.symm ne39)).trans gv_up_s) ((gv_up_n ne55).trans ((gv_up_n ne37).trans ((gv_up_n ne17).trans h_ky))) ((gv_up_n ne56).trans ((gv_up_n ne38).trans ((gv_up_n ne18).trans h_pl))) hSa (by first | assumption | omega) (Ne.symm ne20) (Ne.symm ne41) hky) ((gv_up_n ne42).trans ((gv_up_n ne22).trans ((gv_up_n ne2).trans h_mo))) rfl rfl (by simp [Value.category]) ⟨by decide, by decide⟩ ⟨(by decide), (by decide)⟩ dX1_refresh_131 (fun zv zV zh => ?_)
              obtain ⟨vl1_w57, kf1_w57, pf1_w57, n1_w57, tl1_w57, f1_w57, rfl, rfl, ht1_w57⟩ := zh
              refine k_pc (pc' := 134) (st' := []) rfl rfl ?_
              refine k_view (V1 := gv_up (gv_up (gv_up (gv_up (gv_up (gv_up (gv_up V t_w1 (.inr (4, [.ref q_w1, .int (nI 0), .int (nI 0), .int (nI nt)]))) q_w1 (.inl (cI, 486, .inl f1_w57))) tb (.inl (cR, 120, .inr (.inr (.inr (.inr (va_up tf (i * 4 + g) (some t_w1)))))))) av (.inl (cI, 30, .inl vl1_w57))) ky (.inl (cI, 80, .inl kf1_w57))) pl (.inl (cI, 80, .inl pf1_w57))) t_w1 (.inr (4, [.ref q_w1, .int (nI n1_w57), .int tl1_w57, .int (nI nt)]))) (congrArg (fun W => gv_up W t_w1 (.inr (4, [.ref q_w1, .int (nI n1_w57), .int tl1_w57, .int (nI nt)]))) ((gv_uc (Ne.symm ne38)).trans (congrArg (fun W => gv_up W pl (.inl (cI, 80, .inl pf1_w57))) ((gv_uc (Ne.symm ne37)).trans (congrArg (fun W => gv_up W ky (.inl (cI, 80, .inl kf1_w57))) ((gv_uc (Ne.symm ne36)).trans (congrArg (fun W => gv_up W av (.inl (cI, 30, .inl vl1_w57))) ((gv_uc (Ne.symm ne39)).trans (congrArg (fun W => gv_up W tb (.inl (cR, 120, .inr (.inr (.inr (.inr (va_up tf (i * 4 + g) (some t_w1)))))))) gv_uu))))))))) ?_
              refine k_view (V1 := gv_up (gv_up (gv_up (gv_up (gv_up (gv_up V t_w1 (.inr (4, [.ref q_w1, .int (nI n1_w57), .int tl1_w57, .int (nI nt)]))) q_w1 (.inl (cI, 486, .inl f1_w57))) tb (.inl (cR, 120, .inr (.inr (.inr (.inr (va_up tf (i * 4 + g) (some t_w1)))))))) av (.inl (cI, 30, .inl vl1_w57))) ky (.inl (cI, 80, .inl kf1_w57))) pl (.inl (cI, 80, .inl pf1_w57))) ((gv_uc (Ne.symm ne18)).trans (congrArg (fun W => gv_up W pl (.inl (cI, 80, .inl pf1_w57))) ((gv_uc (Ne.symm ne17)).trans (congrArg (fun W => gv_up W ky (.inl (cI, 80, .inl kf1_w57))) ((gv_uc (Ne.symm ne16)).trans (congrArg (fun W => gv_up W av (.inl (cI, 30, .inl vl1_w57))) ((gv_uc (Ne.symm ne19)).trans (congrArg (fun W => gv_up W tb (.inl (cR, 120, .inr (.inr (.inr (.inr (va_up tf (i * 4 + g) (some t_w1)))))))) ((gv_uc htq_w1).trans (congrArg (fun W => gv_up W q_w1 (.inl (cI, 486, .inl f1_w57))) gv_uu)))))))))) ?_
              refine k_goto (tgt := 166) C dX1_refresh_134 (by decide) ?_
              refine k_view (V1 := gv_up (gv_up (gv_up (gv_up (gv_up (gv_up V t_w1 (.inr (4, [.ref q_w1, .int (nI n1_w57), .int tl1_w57, .int (nI nt)]))) q_w1 (.inl (cI, 486, .inl f1_w57))) av (.inl (cI, 30, .inl vl1_w57))) tb (.inl (cR, 120, .inr (.inr (.inr (.inr (va_up tf (i * 4 + g) (some t_w1)))))))) ky (.inl (cI, 80, .inl kf1_w57))) pl (.inl (cI, 80, .inl pf1_w57))) (congrArg (fun W => gv_up W pl (.inl (cI, 80, .inl pf1_w57))) (congrArg (fun W => gv_up W ky (.inl (cI, 80, .inl kf1_w57))) (gv_uc ne52))) ?_
              refine k_view (V1 := gv_up (gv_up (gv_up (gv_up (gv_up (gv_up V t_w1 (.inr (4, [.ref q_w1, .int (nI n1_w57), .int tl1_w57, .int (nI nt)]))) av (.inl (cI, 30, .inl vl1_w57))) q_w1 (.inl (cI, 486, .inl f1_w57))) tb (.inl (cR, 120, .inr (.inr (.inr (.inr (va_up tf (i * 4 + g) (some t_w1)))))))) ky (.inl (cI, 80, .inl kf1_w57))) pl (.inl (cI, 80, .inl pf1_w57))) (congrArg (fun W => gv_up W pl (.inl (cI, 80, .inl pf1_w57))) (congrArg (fun W => gv_up W ky (.inl (cI, 80, .inl kf1_w57))) (congrArg (fun W => gv_up W tb (.inl (cR, 120, .inr (.inr (.inr (.inr (va_up tf (i * 4 + g) (some t_w1)))))))) (gv_uc ne36)))) ?_
              refine k_view (V1 := gv_up (gv_up (gv_up (gv_up (gv_up (gv_up V av (.inl (cI, 30, .inl vl1_w57))) t_w1 (.inr (4, [.ref q_w1, .int (nI n1_w57), .int tl1_w57, .int (nI nt)]))) q_w1 (.inl (cI, 486, .inl f1_w57))) tb (.inl (cR, 120, .inr (.inr (.inr (.inr (va_up tf (i * 4 + g) (some t_w1)))))))) ky (.inl (cI, 80, .inl kf1_w57))) pl (.inl (cI, 80, .inl pf1_w57))) (congrArg (fun W => gv_up W pl (.inl (cI, 80, .inl pf1_w57))) (congrArg (fun W => gv_up W ky (.inl (cI, 80, .inl kf1_w57))) (congrArg (fun W => gv_up W tb (.inl (cR, 120, .inr (.inr (.inr (.inr (va_up tf (i * 4 + g) (some t_w1)))))))) (congrArg (fun W => gv_up W q_w1 (.inl (cI, 486, .inl f1_w57))) (gv_uc ne16))))) ?_
              refine k_view (V1 := gv_up (gv_up (gv_up (gv_up (gv_up (gv_up V av (.inl (cI, 30, .inl vl1_w57))) t_w1 (.inr (4, [.ref q_w1, .int (nI n1_w57), .int tl1_w57, .int (nI nt)]))) q_w1 (.inl (cI, 486, .inl f1_w57))) ky (.inl (cI, 80, .inl kf1_w57))) tb (.inl (cR, 120, .inr (.inr (.inr (.inr (va_up tf (i * 4 + g) (some t_w1)))))))) pl (.inl (cI, 80, .inl pf1_w57))) (congrArg (fun W => gv_up W pl (.inl (cI, 80, .inl pf1_w57))) (gv_uc ne55)) ?_
              refine k_view (V1 := gv_up (gv_up (gv_up (gv_up (gv_up (gv_up V av (.inl (cI, 30, .inl vl1_w57))) t_w1 (.inr (4, [.ref q_w1, .int (nI n1_w57), .int tl1_w57, .int (nI nt)]))) ky (.inl (cI, 80, .inl kf1_w57))) q_w1 (.inl (cI, 486, .inl f1_w57))) tb (.inl (cR, 120, .inr (.inr (.inr (.inr (va_up tf (i * 4 + g) (some t_w1)))))))) pl (.inl (cI, 80, .inl pf1_w57))) (congrArg (fun W => gv_up W pl (.inl (cI, 80, .inl pf1_w57))) (congrArg (fun W => gv_up W tb (.inl (cR, 120, .inr (.inr (.inr (.inr (va_up tf (i * 4 + g) (some t_w1)))))))) (gv_uc ne37))) ?_
              refine k_view (V1 := gv_up (gv_up (gv_up (gv_up (gv_up (gv_up V av (.inl (cI, 30, .inl vl1_w57))) ky (.inl (cI, 80, .inl kf1_w57))) t_w1 (.inr (4, [.ref q_w1, .int (nI n1_w57), .int tl1_w57, .int (nI nt)]))) q_w1 (.inl (cI, 486, .inl f1_w57))) tb (.inl (cR, 120, .inr (.inr (.inr (.inr (va_up tf (i * 4 + g) (some t_w1)))))))) pl (.inl (cI, 80, .inl pf1_w57))) (congrArg (fun W => gv_up W pl (.inl (cI, 80, .inl pf1_w57))) (congrArg (fun W => gv_up W tb (.inl (cR, 120, .inr (.inr (.inr (.inr (va_up tf (i * 4 + g) (some t_w1)))))))) (congrArg (fun W => gv_up W q_w1 (.inl (cI, 486, .inl f1_w57))) (gv_uc ne17)))) ?_
              refine k_view (V1 := gv_up (gv_up (gv_up (gv_up (gv_up (gv_up V av (.inl (cI, 30, .inl vl1_w57))) ky (.inl (cI, 80, .inl kf1_w57))) t_w1 (.inr (4, [.ref q_w1, .int (nI n1_w57), .int tl1_w57, .int (nI nt)]))) q_w1 (.inl (cI, 486, .inl f1_w57))) pl (.inl (cI, 80, .inl pf1_w57))) tb (.inl (cR, 120, .inr (.inr (.inr (.inr (va_up tf (i * 4 + g) (some t_w1)))))))) (gv_uc ne56) ?_
              refine k_view (V1 := gv_up (gv_up (gv_up (gv_up (gv_up (gv_up V av (.inl (cI, 30, .inl vl1_w57))) ky (.inl (cI, 80, .inl kf1_w57))) t_w1 (.inr (4, [.ref q_w1, .int (nI n1_w57), .int tl1_w57, .int (nI nt)]))) pl (.inl (cI, 80, .inl pf1_w57))) q_w1 (.inl (cI, 486, .inl f1_w57))) tb (.inl (cR, 120, .inr (.inr (.inr (.inr (va_up tf (i * 4 + g) (some t_w1)))))))) (congrArg (fun W => gv_up W tb (.inl (cR, 120, .inr (.inr (.inr (.inr (va_up tf (i * 4 + g) (some t_w1)))))))) (gv_uc ne38)) ?_
              refine k_view (V1 := gv_up (gv_up (gv_up (gv_up (gv_up (gv_up V av (.inl (cI, 30, .inl vl1_w57))) ky (.inl (cI, 80, .inl kf1_w57))) pl (.inl (cI, 80, .inl pf1_w57))) t_w1 (.inr (4, [.ref q_w1, .int (nI n1_w57), .int tl1_w57, .int (nI nt)]))) q_w1 (.inl (cI, 486, .inl f1_w57))) tb (.inl (cR, 120, .inr (.inr (.inr (.inr (va_up tf (i * 4 + g) (some t_w1)))))))) (congrArg (fun W => gv_up W tb (.inl (cR, 120, .inr (.inr (.inr (.inr (va_up tf (i * 4 + g) (some t_w1)))))))) (congrArg (fun W => gv_up W q_w1 (.inl (cI, 486, .inl f1_w57))) (gv_uc ne18))) ?_
              refine k_view (V1 := gv_up (gv_up (gv_up (gv_up (gv_up (gv_up V av (.inl (cI, 30, .inl vl1_w57))) ky (.inl (cI, 80, .inl kf1_w57))) pl (.inl (cI, 80, .inl pf1_w57))) q_w1 (.inl (cI, 486, .inl f1_w57))) t_w1 (.inr (4, [.ref q_w1, .int (nI n1_w57), .int tl1_w57, .int (nI nt)]))) tb (.inl (cR, 120, .inr (.inr (.inr (.inr (va_up tf (i * 4 + g) (some t_w1)))))))) (congrArg (fun W => gv_up W tb (.inl (cR, 120, .inr (.inr (.inr (.inr (va_up tf (i * 4 + g) (some t_w1)))))))) (gv_uc (Ne.symm htq_w1))) ?_
              exact k_vret C zr zlk ⟨t_w1, q_w1, vl1_w57, kf1_w57, pf1_w57, n1_w57, tl1_w57, f1_w57, rfl, rfl, ht1_w1, hq_w1, htq_w1, ht1_w57⟩ (Nat.le_refl _) (Nat.le_refl _) dX1_refresh_166
            · skip
              have ne58 : nq xe tb := gv_ne h_tb h_xe (by simp)
              have ne59 : nq ak tb := gv_ne h_tb h_ak (by simp)
              have ne60 : nq af tb := gv_ne h_tb h_af (by simp)
              have ne61 : nq as tb := gv_ne h_tb h_as (by simp)
              have ne62 : nq ap tb := gv_ne h_tb h_ap (by simp)
              have ne63 : nq av tb := gv_ne h_tb h_av (by simp)
              have ne64 : nq a tb := gv_ne h_tb h_a (by simp)
              have ne65 : nq c tb := gv_ne h_tb h_c (by simp)
              have ne66 : nq ky tb := gv_ne h_tb h_ky (by simp)
              have ne67 : nq pl tb := gv_ne h_tb h_pl (by simp)
              refine k_callV C mv_1_101 (c_over9  ((gv_up_n ne42).trans ((gv_up_n ne22).trans ((gv_up_n ne2).trans h_mo))) ((gv_up_n ne46).trans ((gv_up_n ne30).trans ((gv_up_n ne10).trans h_no))) ((gv_up_n ne58).trans ((gv_up_n ne31).trans ((gv_up_n ne11).trans h_xe))) ((gv_up_n ne59).trans ((gv_up_n ne32).trans ((gv_up_n ne12).trans h_ak))) ((gv_up_n ne60).trans ((gv_up_n ne33).trans ((gv_up_n ne13).trans h_af))) ((gv_up_n ne61).trans ((gv_up_n ne34).trans ((gv_up_n ne14).trans h_as))) ((gv_up_n ne62).trans ((gv_up_n ne35).trans ((gv_up_n ne15).trans h_ap))) ((gv_up_n ne63).trans ((gv_up_n ne36).trans ((gv_up_n ne16).trans h_av))) ((gv_up_n ne64).trans ((gv_up_n ne40).trans ((gv_up_n ne20).trans h_a))) ((gv_up_n ne65).trans ((gv_up_n ne41).trans ((gv_up_n ne21).trans h_c))) ((gv_up_n (Ne.symm ne19)).trans ((gv_up_n htq_w1).trans gv_up_s)) ((gv_up_n (Ne.symm ne39)).trans gv_up_s) ((gv_up_n ne66).trans ((gv_up_n ne37).trans ((gv_up_n ne17).trans h_ky))) ((gv_up_n ne67).trans ((gv_up_n ne38).trans ((gv_up_n ne18).trans h_pl))) (by first | assumption | omega) (by first | assumption | omega) hSa.2 (Ne.symm ne20) (Ne.symm ne41) hSa.1 hky (by first | assumption | omega) (by first | assumption | omega)) ((gv_up_n ne42).trans ((gv_up_n ne22).trans ((gv_up_n ne2).trans h_mo))) rfl rfl (by simp [Value.category]) ⟨by decide, by decide⟩ ⟨(by decide), (by decide)⟩ dX1_refresh_131 (fun zv zV zh => ?_)
              obtain ⟨vl1_w68, kf1_w68, pf1_w68, n1_w68, tl1_w68, f1_w68, rfl, rfl, ht1_w68⟩ := zh
              refine k_pc (pc' := 134) (st' := []) rfl rfl ?_
              refine k_view (V1 := gv_up (gv_up (gv_up (gv_up (gv_up (gv_up (gv_up V t_w1 (.inr (4, [.ref q_w1, .int (nI 0), .int (nI 0), .int (nI nt)]))) q_w1 (.inl (cI, 486, .inl f1_w68))) tb (.inl (cR, 120, .inr (.inr (.inr (.inr (va_up tf (i * 4 + g) (some t_w1)))))))) av (.inl (cI, 30, .inl vl1_w68))) ky (.inl (cI, 80, .inl kf1_w68))) pl (.inl (cI, 80, .inl pf1_w68))) t_w1 (.inr (4, [.ref q_w1, .int (nI n1_w68), .int tl1_w68, .int (nI nt)]))) (congrArg (fun W => gv_up W t_w1 (.inr (4, [.ref q_w1, .int (nI n1_w68), .int tl1_w68, .int (nI nt)]))) ((gv_uc (Ne.symm ne38)).trans (congrArg (fun W => gv_up W pl (.inl (cI, 80, .inl pf1_w68))) ((gv_uc (Ne.symm ne37)).trans (congrArg (fun W => gv_up W ky (.inl (cI, 80, .inl kf1_w68))) ((gv_uc (Ne.symm ne36)).trans (congrArg (fun W => gv_up W av (.inl (cI, 30, .inl vl1_w68))) ((gv_uc (Ne.symm ne39)).trans (congrArg (fun W => gv_up W tb (.inl (cR, 120, .inr (.inr (.inr (.inr (va_up tf (i * 4 + g) (some t_w1)))))))) gv_uu))))))))) ?_
              refine k_view (V1 := gv_up (gv_up (gv_up (gv_up (gv_up (gv_up V t_w1 (.inr (4, [.ref q_w1, .int (nI n1_w68), .int tl1_w68, .int (nI nt)]))) q_w1 (.inl (cI, 486, .inl f1_w68))) tb (.inl (cR, 120, .inr (.inr (.inr (.inr (va_up tf (i * 4 + g) (some t_w1)))))))) av (.inl (cI, 30, .inl vl1_w68))) ky (.inl (cI, 80, .inl kf1_w68))) pl (.inl (cI, 80, .inl pf1_w68))) ((gv_uc (Ne.symm ne18)).trans (congrArg (fun W => gv_up W pl (.inl (cI, 80, .inl pf1_w68))) ((gv_uc (Ne.symm ne17)).trans (congrArg (fun W => gv_up W ky (.inl (cI, 80, .inl kf1_w68))) ((gv_uc (Ne.symm ne16)).trans (congrArg (fun W => gv_up W av (.inl (cI, 30, .inl vl1_w68))) ((gv_uc (Ne.symm ne19)).trans (congrArg (fun W => gv_up W tb (.inl (cR, 120, .inr (.inr (.inr (.inr (va_up tf (i * 4 + g) (some t_w1)))))))) ((gv_uc htq_w1).trans (congrArg (fun W => gv_up W q_w1 (.inl (cI, 486, .inl f1_w68))) gv_uu)))))))))) ?_
              refine k_goto (tgt := 166) C dX1_refresh_134 (by decide) ?_
              refine k_view (V1 := gv_up (gv_up (gv_up (gv_up (gv_up (gv_up V t_w1 (.inr (4, [.ref q_w1, .int (nI n1_w68), .int tl1_w68, .int (nI nt)]))) q_w1 (.inl (cI, 486, .inl f1_w68))) av (.inl (cI, 30, .inl vl1_w68))) tb (.inl (cR, 120, .inr (.inr (.inr (.inr (va_up tf (i * 4 + g) (some t_w1)))))))) ky (.inl (cI, 80, .inl kf1_w68))) pl (.inl (cI, 80, .inl pf1_w68))) (congrArg (fun W => gv_up W pl (.inl (cI, 80, .inl pf1_w68))) (congrArg (fun W => gv_up W ky (.inl (cI, 80, .inl kf1_w68))) (gv_uc ne63))) ?_
              refine k_view (V1 := gv_up (gv_up (gv_up (gv_up (gv_up (gv_up V t_w1 (.inr (4, [.ref q_w1, .int (nI n1_w68), .int tl1_w68, .int (nI nt)]))) av (.inl (cI, 30, .inl vl1_w68))) q_w1 (.inl (cI, 486, .inl f1_w68))) tb (.inl (cR, 120, .inr (.inr (.inr (.inr (va_up tf (i * 4 + g) (some t_w1)))))))) ky (.inl (cI, 80, .inl kf1_w68))) pl (.inl (cI, 80, .inl pf1_w68))) (congrArg (fun W => gv_up W pl (.inl (cI, 80, .inl pf1_w68))) (congrArg (fun W => gv_up W ky (.inl (cI, 80, .inl kf1_w68))) (congrArg (fun W => gv_up W tb (.inl (cR, 120, .inr (.inr (.inr (.inr (va_up tf (i * 4 + g) (some t_w1)))))))) (gv_uc ne36)))) ?_
              refine k_view (V1 := gv_up (gv_up (gv_up (gv_up (gv_up (gv_up V av (.inl (cI, 30, .inl vl1_w68))) t_w1 (.inr (4, [.ref q_w1, .int (nI n1_w68), .int tl1_w68, .int (nI nt)]))) q_w1 (.inl (cI, 486, .inl f1_w68))) tb (.inl (cR, 120, .inr (.inr (.inr (.inr (va_up tf (i * 4 + g) (some t_w1)))))))) ky (.inl (cI, 80, .inl kf1_w68))) pl (.inl (cI, 80, .inl pf1_w68))) (congrArg (fun W => gv_up W pl (.inl (cI, 80, .inl pf1_w68))) (congrArg (fun W => gv_up W ky (.inl (cI, 80, .inl kf1_w68))) (congrArg (fun W => gv_up W tb (.inl (cR, 120, .inr (.inr (.inr (.inr (va_up tf (i * 4 + g) (some t_w1)))))))) (congrArg (fun W => gv_up W q_w1 (.inl (cI, 486, .inl f1_w68))) (gv_uc ne16))))) ?_
              refine k_view (V1 := gv_up (gv_up (gv_up (gv_up (gv_up (gv_up V av (.inl (cI, 30, .inl vl1_w68))) t_w1 (.inr (4, [.ref q_w1, .int (nI n1_w68), .int tl1_w68, .int (nI nt)]))) q_w1 (.inl (cI, 486, .inl f1_w68))) ky (.inl (cI, 80, .inl kf1_w68))) tb (.inl (cR, 120, .inr (.inr (.inr (.inr (va_up tf (i * 4 + g) (some t_w1)))))))) pl (.inl (cI, 80, .inl pf1_w68))) (congrArg (fun W => gv_up W pl (.inl (cI, 80, .inl pf1_w68))) (gv_uc ne66)) ?_
              refine k_view (V1 := gv_up (gv_up (gv_up (gv_up (gv_up (gv_up V av (.inl (cI, 30, .inl vl1_w68))) t_w1 (.inr (4, [.ref q_w1, .int (nI n1_w68), .int tl1_w68, .int (nI nt)]))) ky (.inl (cI, 80, .inl kf1_w68))) q_w1 (.inl (cI, 486, .inl f1_w68))) tb (.inl (cR, 120, .inr (.inr (.inr (.inr (va_up tf (i * 4 + g) (some t_w1)))))))) pl (.inl (cI, 80, .inl pf1_w68))) (congrArg (fun W => gv_up W pl (.inl (cI, 80, .inl pf1_w68))) (congrArg (fun W => gv_up W tb (.inl (cR, 120, .inr (.inr (.inr (.inr (va_up tf (i * 4 + g) (some t_w1)))))))) (gv_uc ne37))) ?_
              refine k_view (V1 := gv_up (gv_up (gv_up (gv_up (gv_up (gv_up V av (.inl (cI, 30, .inl vl1_w68))) ky (.inl (cI, 80, .inl kf1_w68))) t_w1 (.inr (4, [.ref q_w1, .int (nI n1_w68), .int tl1_w68, .int (nI nt)]))) q_w1 (.inl (cI, 486, .inl f1_w68))) tb (.inl (cR, 120, .inr (.inr (.inr (.inr (va_up tf (i * 4 + g) (some t_w1)))))))) pl (.inl (cI, 80, .inl pf1_w68))) (congrArg (fun W => gv_up W pl (.inl (cI, 80, .inl pf1_w68))) (congrArg (fun W => gv_up W tb (.inl (cR, 120, .inr (.inr (.inr (.inr (va_up tf (i * 4 + g) (some t_w1)))))))) (congrArg (fun W => gv_up W q_w1 (.inl (cI, 486, .inl f1_w68))) (gv_uc ne17)))) ?_
              refine k_view (V1 := gv_up (gv_up (gv_up (gv_up (gv_up (gv_up V av (.inl (cI, 30, .inl vl1_w68))) ky (.inl (cI, 80, .inl kf1_w68))) t_w1 (.inr (4, [.ref q_w1, .int (nI n1_w68), .int tl1_w68, .int (nI nt)]))) q_w1 (.inl (cI, 486, .inl f1_w68))) pl (.inl (cI, 80, .inl pf1_w68))) tb (.inl (cR, 120, .inr (.inr (.inr (.inr (va_up tf (i * 4 + g) (some t_w1)))))))) (gv_uc ne67) ?_
              refine k_view (V1 := gv_up (gv_up (gv_up (gv_up (gv_up (gv_up V av (.inl (cI, 30, .inl vl1_w68))) ky (.inl (cI, 80, .inl kf1_w68))) t_w1 (.inr (4, [.ref q_w1, .int (nI n1_w68), .int tl1_w68, .int (nI nt)]))) pl (.inl (cI, 80, .inl pf1_w68))) q_w1 (.inl (cI, 486, .inl f1_w68))) tb (.inl (cR, 120, .inr (.inr (.inr (.inr (va_up tf (i * 4 + g) (some t_w1)))))))) (congrArg (fun W => gv_up W tb (.inl (cR, 120, .inr (.inr (.inr (.inr (va_up tf (i * 4 + g) (some t_w1)))))))) (gv_uc ne38)) ?_
              refine k_view (V1 := gv_up (gv_up (gv_up (gv_up (gv_up (gv_up V av (.inl (cI, 30, .inl vl1_w68))) ky (.inl (cI, 80, .inl kf1_w68))) pl (.inl (cI, 80, .inl pf1_w68))) t_w1 (.inr (4, [.ref q_w1, .int (nI n1_w68), .int tl1_w68, .int (nI nt)]))) q_w1 (.inl (cI, 486, .inl f1_w68))) tb (.inl (cR, 120, .inr (.inr (.inr (.inr (va_up tf (i * 4 + g) (some t_w1)))))))) (congrArg (fun W => gv_up W tb (.inl (cR, 120, .inr (.inr (.inr (.inr (va_up tf (i * 4 + g) (some t_w1)))))))) (congrArg (fun W => gv_up W q_w1 (.inl (cI, 486, .inl f1_w68))) (gv_uc ne18))) ?_
              refine k_view (V1 := gv_up (gv_up (gv_up (gv_up (gv_up (gv_up V av (.inl (cI, 30, .inl vl1_w68))) ky (.inl (cI, 80, .inl kf1_w68))) pl (.inl (cI, 80, .inl pf1_w68))) q_w1 (.inl (cI, 486, .inl f1_w68))) t_w1 (.inr (4, [.ref q_w1, .int (nI n1_w68), .int tl1_w68, .int (nI nt)]))) tb (.inl (cR, 120, .inr (.inr (.inr (.inr (va_up tf (i * 4 + g) (some t_w1)))))))) (congrArg (fun W => gv_up W tb (.inl (cR, 120, .inr (.inr (.inr (.inr (va_up tf (i * 4 + g) (some t_w1)))))))) (gv_uc (Ne.symm htq_w1))) ?_
              exact k_vret C zr zlk ⟨t_w1, q_w1, vl1_w68, kf1_w68, pf1_w68, n1_w68, tl1_w68, f1_w68, rfl, rfl, ht1_w1, hq_w1, htq_w1, ht1_w68⟩ (Nat.le_refl _) (Nat.le_refl _) dX1_refresh_166
        · skip
          exact absurd c94 (by decide)
      · skip
        exact absurd c73 (by decide)
    · skip
      exact absurd c54 (by decide)
  · skip
    exact absurd c18.symm (nI_n1 (by omega))
set_option maxHeartbeats 4000000 in
set_option maxRecDepth 100000 in
theorem c_ref10N {zl : Launch} {D : va_G} {cI cN cR : ClassId} {base : Nat} {V : gv_V} {mo tr nd tb wg ky pl : Nat} {tga tsa tpa tqa nt : Nat} {tg ts tp tq : Nat → Int32} {nl nn : Nat} {nf : Nat → Option Nat} {no : Nat} {ps pp po va st fr ln dn ag gr : Int32} {e : Nat} {xe ak af as ap av ne : Nat} {kd fs sc pt vl : Nat → Int32} {kf pf : Nat → Int32} {tf : Nat → Option Nat} {i g a0 : Nat} {E : Nat → Ex} {a c n : Nat} {tl mk : Int32} {f : Nat → Int32} {SA : Option (List Row)}  (h_mo : V mo = some (.inr (1, [.ref tr, .ref xe, .ref nd, .ref tb, .ref wg, .ref ky, .ref pl]))) (h_tr : V tr = some (.inr (5, [.ref tga, .ref tsa, .ref tpa, .ref tqa, .int (nI nt)]))) (h_tga : V tga = some (.inl (cI, 60, .inl tg))) (h_tsa : V tsa = some (.inl (cI, 60, .inl ts))) (h_tpa : V tpa = some (.inl (cI, 60, .inl tp))) (h_tqa : V tqa = some (.inl (cI, 60, .inl tq))) (h_nd : V nd = some (.inr (3, [.ref nl, .int (nI nn)]))) (h_nl : V nl = some (.inl (cN, 30, .inr (.inr (.inr (.inr nf)))))) (h_no : V no = some (.inr (2, [.int (nI 10), .int (nI a0), .int (-1 : Int32), .int ps, .int pp, .int po, .int (nI e), .int va, .int st, .int fr, .int ln, .int dn, .int ag, .int gr]))) (h_xe : V xe = some (.inr (0, [.ref ak, .ref af, .ref as, .ref ap, .ref av, .int (nI ne)]))) (h_ak : V ak = some (.inl (cI, 30, .inl kd))) (h_af : V af = some (.inl (cI, 30, .inl fs))) (h_as : V as = some (.inl (cI, 30, .inl sc))) (h_ap : V ap = some (.inl (cI, 30, .inl pt))) (h_av : V av = some (.inl (cI, 30, .inl vl))) (h_ky : V ky = some (.inl (cI, 80, .inl kf))) (h_pl : V pl = some (.inl (cI, 80, .inl pf))) (h_tb : V tb = some (.inl (cR, 120, .inr (.inr (.inr (.inr tf)))))) (h_a : V a = some (.inr (4, [.ref c, .int (nI n), .int tl, .int mk]))) (h_c : V c = some (.inl (cI, 486, .inl f))) (hX : ExR E ne kd fs sc pt) (hd : [ak, af, as, ap, av].Nodup) (hi : i < 30) (hg : g < 4) (hnf : nf i = some no) (hky : nq ky pl) (hnt : nt ≤ 60) (ht : tf (i * 4 + g) = none) (ha0 : a0 < i) (hta : tf (a0 * 4 + g) = some a) (hSa : TRep SA n tl f) (he : e < ne) : ct zl D [(cI, .int), (cN, .object "AlgebraTree$Node"), (cR, .object "AlgebraTree$Rows")] base yX1_refresh cX1_refresh 6 none 5 2 490 [.ref mo, .int (nI i), .int (nI g)] V (fun zv zV => ∃ t : Nat, ∃ q : Nat, ∃ vl1 : Nat → Int32, ∃ kf1 : Nat → Int32, ∃ pf1 : Nat → Int32, ∃ n1 : Nat, ∃ tl1 : Int32, ∃ f1 : Nat → Int32, zv = none ∧ zV = gv_up (gv_up (gv_up (gv_up (gv_up (gv_up V av (.inl (cI, 30, .inl vl1))) ky (.inl (cI, 80, .inl kf1))) pl (.inl (cI, 80, .inl pf1))) q (.inl (cI, 486, .inl f1))) t (.inr (4, [.ref q, .int (nI n1), .int tl1, .int (nI nt)]))) tb (.inl (cR, 120, .inr (.inr (.inr (.inr (va_up tf (i * 4 + g) (some t))))))) ∧ (V t = none) ∧ (V q = none) ∧ (nq t q) ∧ (TRep (SA.bind (fun A => cap (orderL dn (fun x => ev E x e) A))) n1 tl1 f1)) := by
  refine ct_of "AlgebraTree$Maker" rfl (by decide) (Nat.le_of_ble_eq_true rfl) ?_
  intro zp ze zs zm zargs zbelow zmeth zc C zr zlk znm
  refine k_pc (pc' := 0) (st' := []) rfl rfl ?_
  show K zp zl ze (gv_rm 5 2 490) zs zm zargs zbelow zmeth zc D base 6 (gv_E D [(cI, .int), (cN, .object "AlgebraTree$Node"), (cR, .object "AlgebraTree$Rows")] base zbelow zargs zs 2 490 (fun zv zV => ∃ t : Nat, ∃ q : Nat, ∃ vl1 : Nat → Int32, ∃ kf1 : Nat → Int32, ∃ pf1 : Nat → Int32, ∃ n1 : Nat, ∃ tl1 : Int32, ∃ f1 : Nat → Int32, zv = none ∧ zV = gv_up (gv_up (gv_up (gv_up (gv_up (gv_up V av (.inl (cI, 30, .inl vl1))) ky (.inl (cI, 80, .inl kf1))) pl (.inl (cI, 80, .inl pf1))) q (.inl (cI, 486, .inl f1))) t (.inr (4, [.ref q, .int (nI n1), .int tl1, .int (nI nt)]))) tb (.inl (cR, 120, .inr (.inr (.inr (.inr (va_up tf (i * 4 + g) (some t))))))) ∧ (V t = none) ∧ (V q = none) ∧ (nq t q) ∧ (TRep (SA.bind (fun A => cap (orderL dn (fun x => ev E x e) A))) n1 tl1 f1))) V 0 0 [(0, .ref mo), (1, .int (nI i)), (2, .int (nI g))] 0 []
  refine k_aload_n C dX1_refresh_0 rfl 0 rfl ?_
  refine k_iload_n C dX1_refresh_1 rfl 1 rfl ?_
  refine k_iload_n C dX1_refresh_2 rfl 2 rfl ?_
  refine k_callV C mv_1_56 (c_tableOfN  h_mo h_tb (by first | assumption | omega) (by first | assumption | omega) (by first | assumption | omega)) h_mo rfl rfl (by simp [Value.category]) ⟨by decide, by decide⟩ ⟨(by decide), (by decide)⟩ dX1_refresh_3 (fun zv zV zh => ?_)
  obtain ⟨t_w1, q_w1, rfl, rfl, ht1_w1, hq_w1, htq_w1⟩ := zh
  refine k_pc (pc' := 6) (st' := .ref t_w1 :: []) rfl rfl ?_
  have ne2 : nq mo t_w1 := gv_nf ht1_w1 h_mo
  have ne3 : nq tr t_w1 := gv_nf ht1_w1 h_tr
  have ne4 : nq tga t_w1 := gv_nf ht1_w1 h_tga
  have ne5 : nq tsa t_w1 := gv_nf ht1_w1 h_tsa
  have ne6 : nq tpa t_w1 := gv_nf ht1_w1 h_tpa
  have ne7 : nq tqa t_w1 := gv_nf ht1_w1 h_tqa
  have ne8 : nq nd t_w1 := gv_nf ht1_w1 h_nd
  have ne9 : nq nl t_w1 := gv_nf ht1_w1 h_nl
  have ne10 : nq no t_w1 := gv_nf ht1_w1 h_no
  have ne11 : nq xe t_w1 := gv_nf ht1_w1 h_xe
  have ne12 : nq ak t_w1 := gv_nf ht1_w1 h_ak
  have ne13 : nq af t_w1 := gv_nf ht1_w1 h_af
  have ne14 : nq as t_w1 := gv_nf ht1_w1 h_as
  have ne15 : nq ap t_w1 := gv_nf ht1_w1 h_ap
  have ne16 : nq av t_w1 := gv_nf ht1_w1 h_av
  have ne17 : nq ky t_w1 := gv_nf ht1_w1 h_ky
  have ne18 : nq pl t_w1 := gv_nf ht1_w1 h_pl
  have ne19 : nq tb t_w1 := gv_nf ht1_w1 h_tb
  have ne20 : nq a t_w1 := gv_nf ht1_w1 h_a
  have ne21 : nq c t_w1 := gv_nf ht1_w1 h_c
  have ne22 : nq mo q_w1 := gv_nf hq_w1 h_mo
  have ne23 : nq tr q_w1 := gv_nf hq_w1 h_tr
  have ne24 : nq tga q_w1 := gv_nf hq_w1 h_tga
  have ne25 : nq tsa q_w1 := gv_nf hq_w1 h_tsa
  have ne26 : nq tpa q_w1 := gv_nf hq_w1 h_tpa
  have ne27 : nq tqa q_w1 := gv_nf hq_w1 h_tqa
  have ne28 : nq nd q_w1 := gv_nf hq_w1 h_nd
  have ne29 : nq nl q_w1 := gv_nf hq_w1 h_nl
  have ne30 : nq no q_w1 := gv_nf hq_w1 h_no
  have ne31 : nq xe q_w1 := gv_nf hq_w1 h_xe
  have ne32 : nq ak q_w1 := gv_nf hq_w1 h_ak
  have ne33 : nq af q_w1 := gv_nf hq_w1 h_af
  have ne34 : nq as q_w1 := gv_nf hq_w1 h_as
  have ne35 : nq ap q_w1 := gv_nf hq_w1 h_ap
  have ne36 : nq av q_w1 := gv_nf hq_w1 h_av
  have ne37 : nq ky q_w1 := gv_nf hq_w1 h_ky
  have ne38 : nq pl q_w1 := gv_nf hq_w1 h_pl
  have ne39 : nq tb q_w1 := gv_nf hq_w1 h_tb
  have ne40 : nq a q_w1 := gv_nf hq_w1 h_a
  have ne41 : nq c q_w1 := gv_nf hq_w1 h_c
  refine k_astore_n (lv' := [(3, .ref t_w1), (0, .ref mo), (1, .int (nI i)), (2, .int (nI g))]) C dX1_refresh_6 rfl (by decide) rfl ?_
  refine k_aload_n C dX1_refresh_7 rfl 0 rfl ?_
  refine k_get (ci := 4) (k := 3) C fl_1_84 ((gv_up_n (Ne.symm ne19)).trans ((gv_up_n htq_w1).trans gv_up_s)) rfl dX1_refresh_8 ?_
  refine k_aload_n C dX1_refresh_11 rfl 1 rfl ?_
  have ne42 : nq mo tb := gv_ne h_tb h_mo (by simp)
  refine k_get (ci := 1) (k := 0) C fl_1_12 ((gv_up_n ne42).trans ((gv_up_n ne22).trans ((gv_up_n ne2).trans h_mo))) rfl dX1_refresh_12 ?_
  have ne43 : nq tr tb := gv_ne h_tb h_tr (by simp)
  refine k_get (ci := 5) (k := 4) C fl_1_87 ((gv_up_n ne43).trans ((gv_up_n ne23).trans ((gv_up_n ne3).trans h_tr))) rfl dX1_refresh_15 ?_
  refine k_icmp_ne (tgt := 22) C dX1_refresh_18 (by decide) (fun c18 => ?_) (fun c18 => ?_)
  · skip
    refine k_aload_n C dX1_refresh_22 rfl 0 rfl ?_
    refine k_callV_pv C mv_1_90 (c_X4_clear  ((gv_up_n (Ne.symm ne19)).trans ((gv_up_n htq_w1).trans gv_up_s)) ((gv_up_n (Ne.symm ne39)).trans gv_up_s) ) ((gv_up_n (Ne.symm ne19)).trans ((gv_up_n htq_w1).trans gv_up_s)) rfl rfl (by simp [Value.category]) ⟨by decide, by decide⟩ ⟨(by decide), (by decide)⟩ dX1_refresh_23 ?_
    refine k_view (V1 := gv_up (gv_up (gv_up V t_w1 (.inr (4, [.ref q_w1, .int (nI 0), .int (nI 0), .int (-1 : Int32)]))) q_w1 (.inl (cI, 486, .inl (fun _ => 0)))) tb (.inl (cR, 120, .inr (.inr (.inr (.inr (va_up tf (i * 4 + g) (some t_w1)))))))) ((gv_uc (Ne.symm ne19)).trans (congrArg (fun W => gv_up W tb (.inl (cR, 120, .inr (.inr (.inr (.inr (va_up tf (i * 4 + g) (some t_w1)))))))) ((gv_uc htq_w1).trans (congrArg (fun W => gv_up W q_w1 (.inl (cI, 486, .inl (fun _ => 0)))) gv_uu)))) ?_
    refine k_aload_n C dX1_refresh_26 rfl 0 rfl ?_
    refine k_aload_n C dX1_refresh_27 rfl 1 rfl ?_
    refine k_get (ci := 1) (k := 0) C fl_1_12 ((gv_up_n ne42).trans ((gv_up_n ne22).trans ((gv_up_n ne2).trans h_mo))) rfl dX1_refresh_28 ?_
    refine k_get (ci := 5) (k := 4) C fl_1_87 ((gv_up_n ne43).trans ((gv_up_n ne23).trans ((gv_up_n ne3).trans h_tr))) rfl dX1_refresh_31 ?_
    refine k_put (ci := 4) (k := 3) (fs' := [.ref q_w1, .int (nI 0), .int (nI 0), .int (nI nt)]) C fl_1_84 pf_4_3 ((gv_up_n (Ne.symm ne19)).trans ((gv_up_n htq_w1).trans gv_up_s)) rfl rfl (Nat.le_of_ble_eq_true rfl) rfl dX1_refresh_34 ?_
    refine k_view (V1 := gv_up (gv_up (gv_up V t_w1 (.inr (4, [.ref q_w1, .int (nI 0), .int (nI 0), .int (nI nt)]))) q_w1 (.inl (cI, 486, .inl (fun _ => 0)))) tb (.inl (cR, 120, .inr (.inr (.inr (.inr (va_up tf (i * 4 + g) (some t_w1)))))))) ((gv_uc (Ne.symm ne19)).trans (congrArg (fun W => gv_up W tb (.inl (cR, 120, .inr (.inr (.inr (.inr (va_up tf (i * 4 + g) (some t_w1)))))))) ((gv_uc htq_w1).trans (congrArg (fun W => gv_up W q_w1 (.inl (cI, 486, .inl (fun _ => 0)))) gv_uu)))) ?_
    refine k_aload_n C dX1_refresh_37 rfl 1 rfl ?_
    refine k_get (ci := 1) (k := 2) C fl_1_28 ((gv_up_n ne42).trans ((gv_up_n ne22).trans ((gv_up_n ne2).trans h_mo))) rfl dX1_refresh_38 ?_
    refine k_iload_n C dX1_refresh_41 rfl 2 rfl ?_
    have ne44 : nq nd tb := gv_ne h_tb h_nd (by simp)
    have ne45 : nq nl tb := gv_ne h_tb h_nl (by simp)
    refine k_callV_pr C mv_1_60 (c_X3_at  ((gv_up_n ne44).trans ((gv_up_n ne28).trans ((gv_up_n ne8).trans h_nd))) ((gv_up_n ne45).trans ((gv_up_n ne29).trans ((gv_up_n ne9).trans h_nl))) (by first | assumption | omega) hnf) ((gv_up_n ne44).trans ((gv_up_n ne28).trans ((gv_up_n ne8).trans h_nd))) rfl rfl (by simp [Value.category]) ⟨by decide, by decide⟩ ⟨(by decide), (by decide)⟩ dX1_refresh_42 ?_
    refine k_astore (lv' := [(4, .ref no), (3, .ref t_w1), (0, .ref mo), (1, .int (nI i)), (2, .int (nI g))]) C dX1_refresh_45 (by decide) rfl ?_
    refine k_aload C dX1_refresh_47 0 rfl ?_
    have ne46 : nq no tb := gv_ne h_tb h_no (by simp)
    refine k_get (ci := 2) (k := 0) C fl_1_77 ((gv_up_n ne46).trans ((gv_up_n ne30).trans ((gv_up_n ne10).trans h_no))) rfl dX1_refresh_49 ?_
    refine k_bipush (v := nI 12) C dX1_refresh_52 rfl ?_
    refine k_icmp_ne (tgt := 65) C dX1_refresh_54 (by decide) (fun c54 => ?_) (fun c54 => ?_)
    · skip
      have b54 : ¬ 10 = 12 := fun z => c54 ((nI_eq (a := 10) (b := 12) (by omega) (by omega)).mpr z)
      refine k_iload_n C dX1_refresh_65 rfl 4 rfl ?_
      refine k_istore (lv' := [(5, .int (nI g)), (4, .ref no), (3, .ref t_w1), (0, .ref mo), (1, .int (nI i)), (2, .int (nI g))]) C dX1_refresh_66 (by decide) rfl ?_
      refine k_aload C dX1_refresh_68 1 rfl ?_
      refine k_get (ci := 2) (k := 0) C fl_1_77 ((gv_up_n ne46).trans ((gv_up_n ne30).trans ((gv_up_n ne10).trans h_no))) rfl dX1_refresh_70 ?_
      refine k_if_ne (tgt := 87) C dX1_refresh_73 (by decide) (fun c73 => ?_) (fun c73 => ?_)
      · skip
        have b73 : ¬ 10 = 0 := fun z => c73 ((nI_eq (a := 10) (b := 0) (by omega) (by omega)).mpr z)
        refine k_aload C dX1_refresh_87 1 rfl ?_
        refine k_get (ci := 2) (k := 0) C fl_1_77 ((gv_up_n ne46).trans ((gv_up_n ne30).trans ((gv_up_n ne10).trans h_no))) rfl dX1_refresh_89 ?_
        refine k_bipush (v := nI 13) C dX1_refresh_92 rfl ?_
        refine k_icmp_ne (tgt := 107) C dX1_refresh_94 (by decide) (fun c94 => ?_) (fun c94 => ?_)
        · skip
          have b94 : ¬ 10 = 13 := fun z => c94 ((nI_eq (a := 10) (b := 13) (by omega) (by omega)).mpr z)
          refine k_aload C dX1_refresh_107 1 rfl ?_
          refine k_get (ci := 2) (k := 2) C fl_1_74 ((gv_up_n ne46).trans ((gv_up_n ne30).trans ((gv_up_n ne10).trans h_no))) rfl dX1_refresh_109 ?_
          refine k_iconst (v := (-1 : Int32)) C dX1_refresh_112 (by decide) ?_
          refine k_icmp_ne (tgt := 137) C dX1_refresh_113 (by decide) (fun c113 => ?_) (fun c113 => ?_)
          · skip
            exact absurd rfl c113
          · skip
            refine k_aload_n C dX1_refresh_116 rfl 3 rfl ?_
            refine k_aload C dX1_refresh_117 1 rfl ?_
            refine k_aload_n C dX1_refresh_119 rfl 3 rfl ?_
            refine k_aload C dX1_refresh_120 1 rfl ?_
            refine k_get (ci := 2) (k := 1) C fl_1_68 ((gv_up_n ne46).trans ((gv_up_n ne30).trans ((gv_up_n ne10).trans h_no))) rfl dX1_refresh_122 ?_
            refine k_iload C dX1_refresh_125 0 rfl ?_
            refine k_callV_pr C mv_1_56 (c_tableOf  ((gv_up_n ne42).trans ((gv_up_n ne22).trans ((gv_up_n ne2).trans h_mo))) gv_up_s (by first | assumption | omega) (by first | assumption | omega) (by simp only [va_up]; rw [if_neg (by omega)]; exact hta)) ((gv_up_n ne42).trans ((gv_up_n ne22).trans ((gv_up_n ne2).trans h_mo))) rfl rfl (by simp [Value.category]) ⟨by decide, by decide⟩ ⟨(by decide), (by decide)⟩ dX1_refresh_127 ?_
            refine k_aload_n C dX1_refresh_130 rfl 2 rfl ?_
            rcases SA with _ | A
            · skip
              have ne47 : nq xe tb := gv_ne h_tb h_xe (by simp)
              have ne48 : nq ak tb := gv_ne h_tb h_ak (by simp)
              have ne49 : nq af tb := gv_ne h_tb h_af (by simp)
              have ne50 : nq as tb := gv_ne h_tb h_as (by simp)
              have ne51 : nq ap tb := gv_ne h_tb h_ap (by simp)
              have ne52 : nq av tb := gv_ne h_tb h_av (by simp)
              have ne53 : nq a tb := gv_ne h_tb h_a (by simp)
              have ne54 : nq c tb := gv_ne h_tb h_c (by simp)
              have ne55 : nq ky tb := gv_ne h_tb h_ky (by simp)
              have ne56 : nq pl tb := gv_ne h_tb h_pl (by simp)
              refine k_callV C mv_1_101 (c_overL  ((gv_up_n ne42).trans ((gv_up_n ne22).trans ((gv_up_n ne2).trans h_mo))) ((gv_up_n ne46).trans ((gv_up_n ne30).trans ((gv_up_n ne10).trans h_no))) ((gv_up_n ne47).trans ((gv_up_n ne31).trans ((gv_up_n ne11).trans h_xe))) ((gv_up_n ne48).trans ((gv_up_n ne32).trans ((gv_up_n ne12).trans h_ak))) ((gv_up_n ne49).trans ((gv_up_n ne33).trans ((gv_up_n ne13).trans h_af))) ((gv_up_n ne50).trans ((gv_up_n ne34).trans ((gv_up_n ne14).trans h_as))) ((gv_up_n ne51).trans ((gv_up_n ne35).trans ((gv_up_n ne15).trans h_ap))) ((gv_up_n ne52).trans ((gv_up_n ne36).trans ((gv_up_n ne16).trans h_av))) ((gv_up_n ne53).trans ((gv_up_n ne40).trans ((gv_up_n ne20).trans h_a))) ((gv_up_n ne54).trans ((gv_up_n ne41).trans ((gv_up_n ne21).trans h_c))) ((gv_up_n (Ne.symm ne19)).trans ((gv_up_n htq_w1).trans gv_up_s)) ((gv_up_n (Ne.symm ne39)).trans gv_up_s) ((gv_up_n ne55).trans ((gv_up_n ne37).trans ((gv_up_n ne17).trans h_ky))) ((gv_up_n ne56).trans ((gv_up_n ne38).trans ((gv_up_n ne18).trans h_pl))) hSa (by first | assumption | omega) (Ne.symm ne20) (Ne.symm ne41) hky) ((gv_up_n ne42).trans ((gv_up_n ne22).trans ((gv_up_n ne2).trans h_mo))) rfl rfl (by simp [Value.category]) ⟨by decide, by decide⟩ ⟨(by decide), (by decide)⟩ dX1_refresh_131 (fun zv zV zh => ?_)
              obtain ⟨vl1_w57, kf1_w57, pf1_w57, n1_w57, tl1_w57, f1_w57, rfl, rfl, ht1_w57⟩ := zh
              refine k_pc (pc' := 134) (st' := []) rfl rfl ?_
              refine k_view (V1 := gv_up (gv_up (gv_up (gv_up (gv_up (gv_up (gv_up V t_w1 (.inr (4, [.ref q_w1, .int (nI 0), .int (nI 0), .int (nI nt)]))) q_w1 (.inl (cI, 486, .inl f1_w57))) tb (.inl (cR, 120, .inr (.inr (.inr (.inr (va_up tf (i * 4 + g) (some t_w1)))))))) av (.inl (cI, 30, .inl vl1_w57))) ky (.inl (cI, 80, .inl kf1_w57))) pl (.inl (cI, 80, .inl pf1_w57))) t_w1 (.inr (4, [.ref q_w1, .int (nI n1_w57), .int tl1_w57, .int (nI nt)]))) (congrArg (fun W => gv_up W t_w1 (.inr (4, [.ref q_w1, .int (nI n1_w57), .int tl1_w57, .int (nI nt)]))) ((gv_uc (Ne.symm ne38)).trans (congrArg (fun W => gv_up W pl (.inl (cI, 80, .inl pf1_w57))) ((gv_uc (Ne.symm ne37)).trans (congrArg (fun W => gv_up W ky (.inl (cI, 80, .inl kf1_w57))) ((gv_uc (Ne.symm ne36)).trans (congrArg (fun W => gv_up W av (.inl (cI, 30, .inl vl1_w57))) ((gv_uc (Ne.symm ne39)).trans (congrArg (fun W => gv_up W tb (.inl (cR, 120, .inr (.inr (.inr (.inr (va_up tf (i * 4 + g) (some t_w1)))))))) gv_uu))))))))) ?_
              refine k_view (V1 := gv_up (gv_up (gv_up (gv_up (gv_up (gv_up V t_w1 (.inr (4, [.ref q_w1, .int (nI n1_w57), .int tl1_w57, .int (nI nt)]))) q_w1 (.inl (cI, 486, .inl f1_w57))) tb (.inl (cR, 120, .inr (.inr (.inr (.inr (va_up tf (i * 4 + g) (some t_w1)))))))) av (.inl (cI, 30, .inl vl1_w57))) ky (.inl (cI, 80, .inl kf1_w57))) pl (.inl (cI, 80, .inl pf1_w57))) ((gv_uc (Ne.symm ne18)).trans (congrArg (fun W => gv_up W pl (.inl (cI, 80, .inl pf1_w57))) ((gv_uc (Ne.symm ne17)).trans (congrArg (fun W => gv_up W ky (.inl (cI, 80, .inl kf1_w57))) ((gv_uc (Ne.symm ne16)).trans (congrArg (fun W => gv_up W av (.inl (cI, 30, .inl vl1_w57))) ((gv_uc (Ne.symm ne19)).trans (congrArg (fun W => gv_up W tb (.inl (cR, 120, .inr (.inr (.inr (.inr (va_up tf (i * 4 + g) (some t_w1)))))))) ((gv_uc htq_w1).trans (congrArg (fun W => gv_up W q_w1 (.inl (cI, 486, .inl f1_w57))) gv_uu)))))))))) ?_
              refine k_goto (tgt := 166) C dX1_refresh_134 (by decide) ?_
              refine k_view (V1 := gv_up (gv_up (gv_up (gv_up (gv_up (gv_up V t_w1 (.inr (4, [.ref q_w1, .int (nI n1_w57), .int tl1_w57, .int (nI nt)]))) q_w1 (.inl (cI, 486, .inl f1_w57))) av (.inl (cI, 30, .inl vl1_w57))) tb (.inl (cR, 120, .inr (.inr (.inr (.inr (va_up tf (i * 4 + g) (some t_w1)))))))) ky (.inl (cI, 80, .inl kf1_w57))) pl (.inl (cI, 80, .inl pf1_w57))) (congrArg (fun W => gv_up W pl (.inl (cI, 80, .inl pf1_w57))) (congrArg (fun W => gv_up W ky (.inl (cI, 80, .inl kf1_w57))) (gv_uc ne52))) ?_
              refine k_view (V1 := gv_up (gv_up (gv_up (gv_up (gv_up (gv_up V t_w1 (.inr (4, [.ref q_w1, .int (nI n1_w57), .int tl1_w57, .int (nI nt)]))) av (.inl (cI, 30, .inl vl1_w57))) q_w1 (.inl (cI, 486, .inl f1_w57))) tb (.inl (cR, 120, .inr (.inr (.inr (.inr (va_up tf (i * 4 + g) (some t_w1)))))))) ky (.inl (cI, 80, .inl kf1_w57))) pl (.inl (cI, 80, .inl pf1_w57))) (congrArg (fun W => gv_up W pl (.inl (cI, 80, .inl pf1_w57))) (congrArg (fun W => gv_up W ky (.inl (cI, 80, .inl kf1_w57))) (congrArg (fun W => gv_up W tb (.inl (cR, 120, .inr (.inr (.inr (.inr (va_up tf (i * 4 + g) (some t_w1)))))))) (gv_uc ne36)))) ?_
              refine k_view (V1 := gv_up (gv_up (gv_up (gv_up (gv_up (gv_up V av (.inl (cI, 30, .inl vl1_w57))) t_w1 (.inr (4, [.ref q_w1, .int (nI n1_w57), .int tl1_w57, .int (nI nt)]))) q_w1 (.inl (cI, 486, .inl f1_w57))) tb (.inl (cR, 120, .inr (.inr (.inr (.inr (va_up tf (i * 4 + g) (some t_w1)))))))) ky (.inl (cI, 80, .inl kf1_w57))) pl (.inl (cI, 80, .inl pf1_w57))) (congrArg (fun W => gv_up W pl (.inl (cI, 80, .inl pf1_w57))) (congrArg (fun W => gv_up W ky (.inl (cI, 80, .inl kf1_w57))) (congrArg (fun W => gv_up W tb (.inl (cR, 120, .inr (.inr (.inr (.inr (va_up tf (i * 4 + g) (some t_w1)))))))) (congrArg (fun W => gv_up W q_w1 (.inl (cI, 486, .inl f1_w57))) (gv_uc ne16))))) ?_
              refine k_view (V1 := gv_up (gv_up (gv_up (gv_up (gv_up (gv_up V av (.inl (cI, 30, .inl vl1_w57))) t_w1 (.inr (4, [.ref q_w1, .int (nI n1_w57), .int tl1_w57, .int (nI nt)]))) q_w1 (.inl (cI, 486, .inl f1_w57))) ky (.inl (cI, 80, .inl kf1_w57))) tb (.inl (cR, 120, .inr (.inr (.inr (.inr (va_up tf (i * 4 + g) (some t_w1)))))))) pl (.inl (cI, 80, .inl pf1_w57))) (congrArg (fun W => gv_up W pl (.inl (cI, 80, .inl pf1_w57))) (gv_uc ne55)) ?_
              refine k_view (V1 := gv_up (gv_up (gv_up (gv_up (gv_up (gv_up V av (.inl (cI, 30, .inl vl1_w57))) t_w1 (.inr (4, [.ref q_w1, .int (nI n1_w57), .int tl1_w57, .int (nI nt)]))) ky (.inl (cI, 80, .inl kf1_w57))) q_w1 (.inl (cI, 486, .inl f1_w57))) tb (.inl (cR, 120, .inr (.inr (.inr (.inr (va_up tf (i * 4 + g) (some t_w1)))))))) pl (.inl (cI, 80, .inl pf1_w57))) (congrArg (fun W => gv_up W pl (.inl (cI, 80, .inl pf1_w57))) (congrArg (fun W => gv_up W tb (.inl (cR, 120, .inr (.inr (.inr (.inr (va_up tf (i * 4 + g) (some t_w1)))))))) (gv_uc ne37))) ?_
              refine k_view (V1 := gv_up (gv_up (gv_up (gv_up (gv_up (gv_up V av (.inl (cI, 30, .inl vl1_w57))) ky (.inl (cI, 80, .inl kf1_w57))) t_w1 (.inr (4, [.ref q_w1, .int (nI n1_w57), .int tl1_w57, .int (nI nt)]))) q_w1 (.inl (cI, 486, .inl f1_w57))) tb (.inl (cR, 120, .inr (.inr (.inr (.inr (va_up tf (i * 4 + g) (some t_w1)))))))) pl (.inl (cI, 80, .inl pf1_w57))) (congrArg (fun W => gv_up W pl (.inl (cI, 80, .inl pf1_w57))) (congrArg (fun W => gv_up W tb (.inl (cR, 120, .inr (.inr (.inr (.inr (va_up tf (i * 4 + g) (some t_w1)))))))) (congrArg (fun W => gv_up W q_w1 (.inl (cI, 486, .inl f1_w57))) (gv_uc ne17)))) ?_
              refine k_view (V1 := gv_up (gv_up (gv_up (gv_up (gv_up (gv_up V av (.inl (cI, 30, .inl vl1_w57))) ky (.inl (cI, 80, .inl kf1_w57))) t_w1 (.inr (4, [.ref q_w1, .int (nI n1_w57), .int tl1_w57, .int (nI nt)]))) q_w1 (.inl (cI, 486, .inl f1_w57))) pl (.inl (cI, 80, .inl pf1_w57))) tb (.inl (cR, 120, .inr (.inr (.inr (.inr (va_up tf (i * 4 + g) (some t_w1)))))))) (gv_uc ne56) ?_
              refine k_view (V1 := gv_up (gv_up (gv_up (gv_up (gv_up (gv_up V av (.inl (cI, 30, .inl vl1_w57))) ky (.inl (cI, 80, .inl kf1_w57))) t_w1 (.inr (4, [.ref q_w1, .int (nI n1_w57), .int tl1_w57, .int (nI nt)]))) pl (.inl (cI, 80, .inl pf1_w57))) q_w1 (.inl (cI, 486, .inl f1_w57))) tb (.inl (cR, 120, .inr (.inr (.inr (.inr (va_up tf (i * 4 + g) (some t_w1)))))))) (congrArg (fun W => gv_up W tb (.inl (cR, 120, .inr (.inr (.inr (.inr (va_up tf (i * 4 + g) (some t_w1)))))))) (gv_uc ne38)) ?_
              refine k_view (V1 := gv_up (gv_up (gv_up (gv_up (gv_up (gv_up V av (.inl (cI, 30, .inl vl1_w57))) ky (.inl (cI, 80, .inl kf1_w57))) pl (.inl (cI, 80, .inl pf1_w57))) t_w1 (.inr (4, [.ref q_w1, .int (nI n1_w57), .int tl1_w57, .int (nI nt)]))) q_w1 (.inl (cI, 486, .inl f1_w57))) tb (.inl (cR, 120, .inr (.inr (.inr (.inr (va_up tf (i * 4 + g) (some t_w1)))))))) (congrArg (fun W => gv_up W tb (.inl (cR, 120, .inr (.inr (.inr (.inr (va_up tf (i * 4 + g) (some t_w1)))))))) (congrArg (fun W => gv_up W q_w1 (.inl (cI, 486, .inl f1_w57))) (gv_uc ne18))) ?_
              refine k_view (V1 := gv_up (gv_up (gv_up (gv_up (gv_up (gv_up V av (.inl (cI, 30, .inl vl1_w57))) ky (.inl (cI, 80, .inl kf1_w57))) pl (.inl (cI, 80, .inl pf1_w57))) q_w1 (.inl (cI, 486, .inl f1_w57))) t_w1 (.inr (4, [.ref q_w1, .int (nI n1_w57), .int tl1_w57, .int (nI nt)]))) tb (.inl (cR, 120, .inr (.inr (.inr (.inr (va_up tf (i * 4 + g) (some t_w1)))))))) (congrArg (fun W => gv_up W tb (.inl (cR, 120, .inr (.inr (.inr (.inr (va_up tf (i * 4 + g) (some t_w1)))))))) (gv_uc (Ne.symm htq_w1))) ?_
              exact k_vret C zr zlk ⟨t_w1, q_w1, vl1_w57, kf1_w57, pf1_w57, n1_w57, tl1_w57, f1_w57, rfl, rfl, ht1_w1, hq_w1, htq_w1, ht1_w57⟩ (Nat.le_refl _) (Nat.le_refl _) dX1_refresh_166
            · skip
              have ne58 : nq xe tb := gv_ne h_tb h_xe (by simp)
              have ne59 : nq ak tb := gv_ne h_tb h_ak (by simp)
              have ne60 : nq af tb := gv_ne h_tb h_af (by simp)
              have ne61 : nq as tb := gv_ne h_tb h_as (by simp)
              have ne62 : nq ap tb := gv_ne h_tb h_ap (by simp)
              have ne63 : nq av tb := gv_ne h_tb h_av (by simp)
              have ne64 : nq a tb := gv_ne h_tb h_a (by simp)
              have ne65 : nq c tb := gv_ne h_tb h_c (by simp)
              have ne66 : nq ky tb := gv_ne h_tb h_ky (by simp)
              have ne67 : nq pl tb := gv_ne h_tb h_pl (by simp)
              refine k_callV C mv_1_101 (c_over10  ((gv_up_n ne42).trans ((gv_up_n ne22).trans ((gv_up_n ne2).trans h_mo))) ((gv_up_n ne46).trans ((gv_up_n ne30).trans ((gv_up_n ne10).trans h_no))) ((gv_up_n ne58).trans ((gv_up_n ne31).trans ((gv_up_n ne11).trans h_xe))) ((gv_up_n ne59).trans ((gv_up_n ne32).trans ((gv_up_n ne12).trans h_ak))) ((gv_up_n ne60).trans ((gv_up_n ne33).trans ((gv_up_n ne13).trans h_af))) ((gv_up_n ne61).trans ((gv_up_n ne34).trans ((gv_up_n ne14).trans h_as))) ((gv_up_n ne62).trans ((gv_up_n ne35).trans ((gv_up_n ne15).trans h_ap))) ((gv_up_n ne63).trans ((gv_up_n ne36).trans ((gv_up_n ne16).trans h_av))) ((gv_up_n ne64).trans ((gv_up_n ne40).trans ((gv_up_n ne20).trans h_a))) ((gv_up_n ne65).trans ((gv_up_n ne41).trans ((gv_up_n ne21).trans h_c))) ((gv_up_n (Ne.symm ne19)).trans ((gv_up_n htq_w1).trans gv_up_s)) ((gv_up_n (Ne.symm ne39)).trans gv_up_s) ((gv_up_n ne66).trans ((gv_up_n ne37).trans ((gv_up_n ne17).trans h_ky))) ((gv_up_n ne67).trans ((gv_up_n ne38).trans ((gv_up_n ne18).trans h_pl))) (by first | assumption | omega) (by first | assumption | omega) hSa.2 (Ne.symm ne20) (Ne.symm ne41) hSa.1 hky (by first | assumption | omega)) ((gv_up_n ne42).trans ((gv_up_n ne22).trans ((gv_up_n ne2).trans h_mo))) rfl rfl (by simp [Value.category]) ⟨by decide, by decide⟩ ⟨(by decide), (by decide)⟩ dX1_refresh_131 (fun zv zV zh => ?_)
              obtain ⟨vl1_w68, kf1_w68, pf1_w68, n1_w68, tl1_w68, f1_w68, rfl, rfl, ht1_w68⟩ := zh
              refine k_pc (pc' := 134) (st' := []) rfl rfl ?_
              refine k_view (V1 := gv_up (gv_up (gv_up (gv_up (gv_up (gv_up (gv_up V t_w1 (.inr (4, [.ref q_w1, .int (nI 0), .int (nI 0), .int (nI nt)]))) q_w1 (.inl (cI, 486, .inl f1_w68))) tb (.inl (cR, 120, .inr (.inr (.inr (.inr (va_up tf (i * 4 + g) (some t_w1)))))))) av (.inl (cI, 30, .inl vl1_w68))) ky (.inl (cI, 80, .inl kf1_w68))) pl (.inl (cI, 80, .inl pf1_w68))) t_w1 (.inr (4, [.ref q_w1, .int (nI n1_w68), .int tl1_w68, .int (nI nt)]))) (congrArg (fun W => gv_up W t_w1 (.inr (4, [.ref q_w1, .int (nI n1_w68), .int tl1_w68, .int (nI nt)]))) ((gv_uc (Ne.symm ne38)).trans (congrArg (fun W => gv_up W pl (.inl (cI, 80, .inl pf1_w68))) ((gv_uc (Ne.symm ne37)).trans (congrArg (fun W => gv_up W ky (.inl (cI, 80, .inl kf1_w68))) ((gv_uc (Ne.symm ne36)).trans (congrArg (fun W => gv_up W av (.inl (cI, 30, .inl vl1_w68))) ((gv_uc (Ne.symm ne39)).trans (congrArg (fun W => gv_up W tb (.inl (cR, 120, .inr (.inr (.inr (.inr (va_up tf (i * 4 + g) (some t_w1)))))))) gv_uu))))))))) ?_
              refine k_view (V1 := gv_up (gv_up (gv_up (gv_up (gv_up (gv_up V t_w1 (.inr (4, [.ref q_w1, .int (nI n1_w68), .int tl1_w68, .int (nI nt)]))) q_w1 (.inl (cI, 486, .inl f1_w68))) tb (.inl (cR, 120, .inr (.inr (.inr (.inr (va_up tf (i * 4 + g) (some t_w1)))))))) av (.inl (cI, 30, .inl vl1_w68))) ky (.inl (cI, 80, .inl kf1_w68))) pl (.inl (cI, 80, .inl pf1_w68))) ((gv_uc (Ne.symm ne18)).trans (congrArg (fun W => gv_up W pl (.inl (cI, 80, .inl pf1_w68))) ((gv_uc (Ne.symm ne17)).trans (congrArg (fun W => gv_up W ky (.inl (cI, 80, .inl kf1_w68))) ((gv_uc (Ne.symm ne16)).trans (congrArg (fun W => gv_up W av (.inl (cI, 30, .inl vl1_w68))) ((gv_uc (Ne.symm ne19)).trans (congrArg (fun W => gv_up W tb (.inl (cR, 120, .inr (.inr (.inr (.inr (va_up tf (i * 4 + g) (some t_w1)))))))) ((gv_uc htq_w1).trans (congrArg (fun W => gv_up W q_w1 (.inl (cI, 486, .inl f1_w68))) gv_uu)))))))))) ?_
              refine k_goto (tgt := 166) C dX1_refresh_134 (by decide) ?_
              refine k_view (V1 := gv_up (gv_up (gv_up (gv_up (gv_up (gv_up V t_w1 (.inr (4, [.ref q_w1, .int (nI n1_w68), .int tl1_w68, .int (nI nt)]))) q_w1 (.inl (cI, 486, .inl f1_w68))) av (.inl (cI, 30, .inl vl1_w68))) tb (.inl (cR, 120, .inr (.inr (.inr (.inr (va_up tf (i * 4 + g) (some t_w1)))))))) ky (.inl (cI, 80, .inl kf1_w68))) pl (.inl (cI, 80, .inl pf1_w68))) (congrArg (fun W => gv_up W pl (.inl (cI, 80, .inl pf1_w68))) (congrArg (fun W => gv_up W ky (.inl (cI, 80, .inl kf1_w68))) (gv_uc ne63))) ?_
              refine k_view (V1 := gv_up (gv_up (gv_up (gv_up (gv_up (gv_up V t_w1 (.inr (4, [.ref q_w1, .int (nI n1_w68), .int tl1_w68, .int (nI nt)]))) av (.inl (cI, 30, .inl vl1_w68))) q_w1 (.inl (cI, 486, .inl f1_w68))) tb (.inl (cR, 120, .inr (.inr (.inr (.inr (va_up tf (i * 4 + g) (some t_w1)))))))) ky (.inl (cI, 80, .inl kf1_w68))) pl (.inl (cI, 80, .inl pf1_w68))) (congrArg (fun W => gv_up W pl (.inl (cI, 80, .inl pf1_w68))) (congrArg (fun W => gv_up W ky (.inl (cI, 80, .inl kf1_w68))) (congrArg (fun W => gv_up W tb (.inl (cR, 120, .inr (.inr (.inr (.inr (va_up tf (i * 4 + g) (some t_w1)))))))) (gv_uc ne36)))) ?_
              refine k_view (V1 := gv_up (gv_up (gv_up (gv_up (gv_up (gv_up V av (.inl (cI, 30, .inl vl1_w68))) t_w1 (.inr (4, [.ref q_w1, .int (nI n1_w68), .int tl1_w68, .int (nI nt)]))) q_w1 (.inl (cI, 486, .inl f1_w68))) tb (.inl (cR, 120, .inr (.inr (.inr (.inr (va_up tf (i * 4 + g) (some t_w1)))))))) ky (.inl (cI, 80, .inl kf1_w68))) pl (.inl (cI, 80, .inl pf1_w68))) (congrArg (fun W => gv_up W pl (.inl (cI, 80, .inl pf1_w68))) (congrArg (fun W => gv_up W ky (.inl (cI, 80, .inl kf1_w68))) (congrArg (fun W => gv_up W tb (.inl (cR, 120, .inr (.inr (.inr (.inr (va_up tf (i * 4 + g) (some t_w1)))))))) (congrArg (fun W => gv_up W q_w1 (.inl (cI, 486, .inl f1_w68))) (gv_uc ne16))))) ?_
              refine k_view (V1 := gv_up (gv_up (gv_up (gv_up (gv_up (gv_up V av (.inl (cI, 30, .inl vl1_w68))) t_w1 (.inr (4, [.ref q_w1, .int (nI n1_w68), .int tl1_w68, .int (nI nt)]))) q_w1 (.inl (cI, 486, .inl f1_w68))) ky (.inl (cI, 80, .inl kf1_w68))) tb (.inl (cR, 120, .inr (.inr (.inr (.inr (va_up tf (i * 4 + g) (some t_w1)))))))) pl (.inl (cI, 80, .inl pf1_w68))) (congrArg (fun W => gv_up W pl (.inl (cI, 80, .inl pf1_w68))) (gv_uc ne66)) ?_
              refine k_view (V1 := gv_up (gv_up (gv_up (gv_up (gv_up (gv_up V av (.inl (cI, 30, .inl vl1_w68))) t_w1 (.inr (4, [.ref q_w1, .int (nI n1_w68), .int tl1_w68, .int (nI nt)]))) ky (.inl (cI, 80, .inl kf1_w68))) q_w1 (.inl (cI, 486, .inl f1_w68))) tb (.inl (cR, 120, .inr (.inr (.inr (.inr (va_up tf (i * 4 + g) (some t_w1)))))))) pl (.inl (cI, 80, .inl pf1_w68))) (congrArg (fun W => gv_up W pl (.inl (cI, 80, .inl pf1_w68))) (congrArg (fun W => gv_up W tb (.inl (cR, 120, .inr (.inr (.inr (.inr (va_up tf (i * 4 + g) (some t_w1)))))))) (gv_uc ne37))) ?_
              refine k_view (V1 := gv_up (gv_up (gv_up (gv_up (gv_up (gv_up V av (.inl (cI, 30, .inl vl1_w68))) ky (.inl (cI, 80, .inl kf1_w68))) t_w1 (.inr (4, [.ref q_w1, .int (nI n1_w68), .int tl1_w68, .int (nI nt)]))) q_w1 (.inl (cI, 486, .inl f1_w68))) tb (.inl (cR, 120, .inr (.inr (.inr (.inr (va_up tf (i * 4 + g) (some t_w1)))))))) pl (.inl (cI, 80, .inl pf1_w68))) (congrArg (fun W => gv_up W pl (.inl (cI, 80, .inl pf1_w68))) (congrArg (fun W => gv_up W tb (.inl (cR, 120, .inr (.inr (.inr (.inr (va_up tf (i * 4 + g) (some t_w1)))))))) (congrArg (fun W => gv_up W q_w1 (.inl (cI, 486, .inl f1_w68))) (gv_uc ne17)))) ?_
              refine k_view (V1 := gv_up (gv_up (gv_up (gv_up (gv_up (gv_up V av (.inl (cI, 30, .inl vl1_w68))) ky (.inl (cI, 80, .inl kf1_w68))) t_w1 (.inr (4, [.ref q_w1, .int (nI n1_w68), .int tl1_w68, .int (nI nt)]))) q_w1 (.inl (cI, 486, .inl f1_w68))) pl (.inl (cI, 80, .inl pf1_w68))) tb (.inl (cR, 120, .inr (.inr (.inr (.inr (va_up tf (i * 4 + g) (some t_w1)))))))) (gv_uc ne67) ?_
              refine k_view (V1 := gv_up (gv_up (gv_up (gv_up (gv_up (gv_up V av (.inl (cI, 30, .inl vl1_w68))) ky (.inl (cI, 80, .inl kf1_w68))) t_w1 (.inr (4, [.ref q_w1, .int (nI n1_w68), .int tl1_w68, .int (nI nt)]))) pl (.inl (cI, 80, .inl pf1_w68))) q_w1 (.inl (cI, 486, .inl f1_w68))) tb (.inl (cR, 120, .inr (.inr (.inr (.inr (va_up tf (i * 4 + g) (some t_w1)))))))) (congrArg (fun W => gv_up W tb (.inl (cR, 120, .inr (.inr (.inr (.inr (va_up tf (i * 4 + g) (some t_w1)))))))) (gv_uc ne38)) ?_
              refine k_view (V1 := gv_up (gv_up (gv_up (gv_up (gv_up (gv_up V av (.inl (cI, 30, .inl vl1_w68))) ky (.inl (cI, 80, .inl kf1_w68))) pl (.inl (cI, 80, .inl pf1_w68))) t_w1 (.inr (4, [.ref q_w1, .int (nI n1_w68), .int tl1_w68, .int (nI nt)]))) q_w1 (.inl (cI, 486, .inl f1_w68))) tb (.inl (cR, 120, .inr (.inr (.inr (.inr (va_up tf (i * 4 + g) (some t_w1)))))))) (congrArg (fun W => gv_up W tb (.inl (cR, 120, .inr (.inr (.inr (.inr (va_up tf (i * 4 + g) (some t_w1)))))))) (congrArg (fun W => gv_up W q_w1 (.inl (cI, 486, .inl f1_w68))) (gv_uc ne18))) ?_
              refine k_view (V1 := gv_up (gv_up (gv_up (gv_up (gv_up (gv_up V av (.inl (cI, 30, .inl vl1_w68))) ky (.inl (cI, 80, .inl kf1_w68))) pl (.inl (cI, 80, .inl pf1_w68))) q_w1 (.inl (cI, 486, .inl f1_w68))) t_w1 (.inr (4, [.ref q_w1, .int (nI n1_w68), .int tl1_w68, .int (nI nt)]))) tb (.inl (cR, 120, .inr (.inr (.inr (.inr (va_up tf (i * 4 + g) (some t_w1)))))))) (congrArg (fun W => gv_up W tb (.inl (cR, 120, .inr (.inr (.inr (.inr (va_up tf (i * 4 + g) (some t_w1)))))))) (gv_uc (Ne.symm htq_w1))) ?_
              exact k_vret C zr zlk ⟨t_w1, q_w1, vl1_w68, kf1_w68, pf1_w68, n1_w68, tl1_w68, f1_w68, rfl, rfl, ht1_w1, hq_w1, htq_w1, ht1_w68⟩ (Nat.le_refl _) (Nat.le_refl _) dX1_refresh_166
        · skip
          exact absurd c94 (by decide)
      · skip
        exact absurd c73 (by decide)
    · skip
      exact absurd c54 (by decide)
  · skip
    exact absurd c18.symm (nI_n1 (by omega))
set_option maxHeartbeats 4000000 in
set_option maxRecDepth 100000 in
theorem c_ref11N {zl : Launch} {D : va_G} {cI cN cR : ClassId} {base : Nat} {V : gv_V} {mo tr nd tb wg ky pl : Nat} {tga tsa tpa tqa nt : Nat} {tg ts tp tq : Nat → Int32} {nl nn : Nat} {nf : Nat → Option Nat} {no : Nat} {ps pp po st fr ln dn ag gr : Int32} {e vv : Nat} {xe ak af as ap av ne : Nat} {kd fs sc pt vl : Nat → Int32} {kf pf : Nat → Int32} {tf : Nat → Option Nat} {i g a0 : Nat} {E : Nat → Ex} {a c n : Nat} {tl mk : Int32} {f : Nat → Int32} {SA : Option (List Row)}  (h_mo : V mo = some (.inr (1, [.ref tr, .ref xe, .ref nd, .ref tb, .ref wg, .ref ky, .ref pl]))) (h_tr : V tr = some (.inr (5, [.ref tga, .ref tsa, .ref tpa, .ref tqa, .int (nI nt)]))) (h_tga : V tga = some (.inl (cI, 60, .inl tg))) (h_tsa : V tsa = some (.inl (cI, 60, .inl ts))) (h_tpa : V tpa = some (.inl (cI, 60, .inl tp))) (h_tqa : V tqa = some (.inl (cI, 60, .inl tq))) (h_nd : V nd = some (.inr (3, [.ref nl, .int (nI nn)]))) (h_nl : V nl = some (.inl (cN, 30, .inr (.inr (.inr (.inr nf)))))) (h_no : V no = some (.inr (2, [.int (nI 11), .int (nI a0), .int (-1 : Int32), .int ps, .int pp, .int po, .int (nI e), .int (nI vv), .int st, .int fr, .int ln, .int dn, .int ag, .int gr]))) (h_xe : V xe = some (.inr (0, [.ref ak, .ref af, .ref as, .ref ap, .ref av, .int (nI ne)]))) (h_ak : V ak = some (.inl (cI, 30, .inl kd))) (h_af : V af = some (.inl (cI, 30, .inl fs))) (h_as : V as = some (.inl (cI, 30, .inl sc))) (h_ap : V ap = some (.inl (cI, 30, .inl pt))) (h_av : V av = some (.inl (cI, 30, .inl vl))) (h_ky : V ky = some (.inl (cI, 80, .inl kf))) (h_pl : V pl = some (.inl (cI, 80, .inl pf))) (h_tb : V tb = some (.inl (cR, 120, .inr (.inr (.inr (.inr tf)))))) (h_a : V a = some (.inr (4, [.ref c, .int (nI n), .int tl, .int mk]))) (h_c : V c = some (.inl (cI, 486, .inl f))) (hX : ExR E ne kd fs sc pt) (hd : [ak, af, as, ap, av].Nodup) (hi : i < 30) (hg : g < 4) (hnf : nf i = some no) (hky : nq ky pl) (hnt : nt ≤ 60) (ht : tf (i * 4 + g) = none) (ha0 : a0 < i) (hta : tf (a0 * 4 + g) = some a) (hSa : TRep SA n tl f) (he : e < ne) (hvv : vv < 6) : ct zl D [(cI, .int), (cN, .object "AlgebraTree$Node"), (cR, .object "AlgebraTree$Rows")] base yX1_refresh cX1_refresh 6 none 5 2 490 [.ref mo, .int (nI i), .int (nI g)] V (fun zv zV => ∃ t : Nat, ∃ q : Nat, ∃ vl1 : Nat → Int32, ∃ kf1 : Nat → Int32, ∃ pf1 : Nat → Int32, ∃ n1 : Nat, ∃ tl1 : Int32, ∃ f1 : Nat → Int32, zv = none ∧ zV = gv_up (gv_up (gv_up (gv_up (gv_up (gv_up V av (.inl (cI, 30, .inl vl1))) ky (.inl (cI, 80, .inl kf1))) pl (.inl (cI, 80, .inl pf1))) q (.inl (cI, 486, .inl f1))) t (.inr (4, [.ref q, .int (nI n1), .int tl1, .int (nI nt)]))) tb (.inl (cR, 120, .inr (.inr (.inr (.inr (va_up tf (i * 4 + g) (some t))))))) ∧ (V t = none) ∧ (V q = none) ∧ (nq t q) ∧ (TRep (SA.bind (fun A => cap (groupL st ag vv (fun x => ev E x e) A))) n1 tl1 f1)) := by
  refine ct_of "AlgebraTree$Maker" rfl (by decide) (Nat.le_of_ble_eq_true rfl) ?_
  intro zp ze zs zm zargs zbelow zmeth zc C zr zlk znm
  refine k_pc (pc' := 0) (st' := []) rfl rfl ?_
  show K zp zl ze (gv_rm 5 2 490) zs zm zargs zbelow zmeth zc D base 6 (gv_E D [(cI, .int), (cN, .object "AlgebraTree$Node"), (cR, .object "AlgebraTree$Rows")] base zbelow zargs zs 2 490 (fun zv zV => ∃ t : Nat, ∃ q : Nat, ∃ vl1 : Nat → Int32, ∃ kf1 : Nat → Int32, ∃ pf1 : Nat → Int32, ∃ n1 : Nat, ∃ tl1 : Int32, ∃ f1 : Nat → Int32, zv = none ∧ zV = gv_up (gv_up (gv_up (gv_up (gv_up (gv_up V av (.inl (cI, 30, .inl vl1))) ky (.inl (cI, 80, .inl kf1))) pl (.inl (cI, 80, .inl pf1))) q (.inl (cI, 486, .inl f1))) t (.inr (4, [.ref q, .int (nI n1), .int tl1, .int (nI nt)]))) tb (.inl (cR, 120, .inr (.inr (.inr (.inr (va_up tf (i * 4 + g) (some t))))))) ∧ (V t = none) ∧ (V q = none) ∧ (nq t q) ∧ (TRep (SA.bind (fun A => cap (groupL st ag vv (fun x => ev E x e) A))) n1 tl1 f1))) V 0 0 [(0, .ref mo), (1, .int (nI i)), (2, .int (nI g))] 0 []
  refine k_aload_n C dX1_refresh_0 rfl 0 rfl ?_
  refine k_iload_n C dX1_refresh_1 rfl 1 rfl ?_
  refine k_iload_n C dX1_refresh_2 rfl 2 rfl ?_
  refine k_callV C mv_1_56 (c_tableOfN  h_mo h_tb (by first | assumption | omega) (by first | assumption | omega) (by first | assumption | omega)) h_mo rfl rfl (by simp [Value.category]) ⟨by decide, by decide⟩ ⟨(by decide), (by decide)⟩ dX1_refresh_3 (fun zv zV zh => ?_)
  obtain ⟨t_w1, q_w1, rfl, rfl, ht1_w1, hq_w1, htq_w1⟩ := zh
  refine k_pc (pc' := 6) (st' := .ref t_w1 :: []) rfl rfl ?_
  have ne2 : nq mo t_w1 := gv_nf ht1_w1 h_mo
  have ne3 : nq tr t_w1 := gv_nf ht1_w1 h_tr
  have ne4 : nq tga t_w1 := gv_nf ht1_w1 h_tga
  have ne5 : nq tsa t_w1 := gv_nf ht1_w1 h_tsa
  have ne6 : nq tpa t_w1 := gv_nf ht1_w1 h_tpa
  have ne7 : nq tqa t_w1 := gv_nf ht1_w1 h_tqa
  have ne8 : nq nd t_w1 := gv_nf ht1_w1 h_nd
  have ne9 : nq nl t_w1 := gv_nf ht1_w1 h_nl
  have ne10 : nq no t_w1 := gv_nf ht1_w1 h_no
  have ne11 : nq xe t_w1 := gv_nf ht1_w1 h_xe
  have ne12 : nq ak t_w1 := gv_nf ht1_w1 h_ak
  have ne13 : nq af t_w1 := gv_nf ht1_w1 h_af
  have ne14 : nq as t_w1 := gv_nf ht1_w1 h_as
  have ne15 : nq ap t_w1 := gv_nf ht1_w1 h_ap
  have ne16 : nq av t_w1 := gv_nf ht1_w1 h_av
  have ne17 : nq ky t_w1 := gv_nf ht1_w1 h_ky
  have ne18 : nq pl t_w1 := gv_nf ht1_w1 h_pl
  have ne19 : nq tb t_w1 := gv_nf ht1_w1 h_tb
  have ne20 : nq a t_w1 := gv_nf ht1_w1 h_a
  have ne21 : nq c t_w1 := gv_nf ht1_w1 h_c
  have ne22 : nq mo q_w1 := gv_nf hq_w1 h_mo
  have ne23 : nq tr q_w1 := gv_nf hq_w1 h_tr
  have ne24 : nq tga q_w1 := gv_nf hq_w1 h_tga
  have ne25 : nq tsa q_w1 := gv_nf hq_w1 h_tsa
  have ne26 : nq tpa q_w1 := gv_nf hq_w1 h_tpa
  have ne27 : nq tqa q_w1 := gv_nf hq_w1 h_tqa
  have ne28 : nq nd q_w1 := gv_nf hq_w1 h_nd
  have ne29 : nq nl q_w1 := gv_nf hq_w1 h_nl
  have ne30 : nq no q_w1 := gv_nf hq_w1 h_no
  have ne31 : nq xe q_w1 := gv_nf hq_w1 h_xe
  have ne32 : nq ak q_w1 := gv_nf hq_w1 h_ak
  have ne33 : nq af q_w1 := gv_nf hq_w1 h_af
  have ne34 : nq as q_w1 := gv_nf hq_w1 h_as
  have ne35 : nq ap q_w1 := gv_nf hq_w1 h_ap
  have ne36 : nq av q_w1 := gv_nf hq_w1 h_av
  have ne37 : nq ky q_w1 := gv_nf hq_w1 h_ky
  have ne38 : nq pl q_w1 := gv_nf hq_w1 h_pl
  have ne39 : nq tb q_w1 := gv_nf hq_w1 h_tb
  have ne40 : nq a q_w1 := gv_nf hq_w1 h_a
  have ne41 : nq c q_w1 := gv_nf hq_w1 h_c
  refine k_astore_n (lv' := [(3, .ref t_w1), (0, .ref mo), (1, .int (nI i)), (2, .int (nI g))]) C dX1_refresh_6 rfl (by decide) rfl ?_
  refine k_aload_n C dX1_refresh_7 rfl 0 rfl ?_
  refine k_get (ci := 4) (k := 3) C fl_1_84 ((gv_up_n (Ne.symm ne19)).trans ((gv_up_n htq_w1).trans gv_up_s)) rfl dX1_refresh_8 ?_
  refine k_aload_n C dX1_refresh_11 rfl 1 rfl ?_
  have ne42 : nq mo tb := gv_ne h_tb h_mo (by simp)
  refine k_get (ci := 1) (k := 0) C fl_1_12 ((gv_up_n ne42).trans ((gv_up_n ne22).trans ((gv_up_n ne2).trans h_mo))) rfl dX1_refresh_12 ?_
  have ne43 : nq tr tb := gv_ne h_tb h_tr (by simp)
  refine k_get (ci := 5) (k := 4) C fl_1_87 ((gv_up_n ne43).trans ((gv_up_n ne23).trans ((gv_up_n ne3).trans h_tr))) rfl dX1_refresh_15 ?_
  refine k_icmp_ne (tgt := 22) C dX1_refresh_18 (by decide) (fun c18 => ?_) (fun c18 => ?_)
  · skip
    refine k_aload_n C dX1_refresh_22 rfl 0 rfl ?_
    refine k_callV_pv C mv_1_90 (c_X4_clear  ((gv_up_n (Ne.symm ne19)).trans ((gv_up_n htq_w1).trans gv_up_s)) ((gv_up_n (Ne.symm ne39)).trans gv_up_s) ) ((gv_up_n (Ne.symm ne19)).trans ((gv_up_n htq_w1).trans gv_up_s)) rfl rfl (by simp [Value.category]) ⟨by decide, by decide⟩ ⟨(by decide), (by decide)⟩ dX1_refresh_23 ?_
    refine k_view (V1 := gv_up (gv_up (gv_up V t_w1 (.inr (4, [.ref q_w1, .int (nI 0), .int (nI 0), .int (-1 : Int32)]))) q_w1 (.inl (cI, 486, .inl (fun _ => 0)))) tb (.inl (cR, 120, .inr (.inr (.inr (.inr (va_up tf (i * 4 + g) (some t_w1)))))))) ((gv_uc (Ne.symm ne19)).trans (congrArg (fun W => gv_up W tb (.inl (cR, 120, .inr (.inr (.inr (.inr (va_up tf (i * 4 + g) (some t_w1)))))))) ((gv_uc htq_w1).trans (congrArg (fun W => gv_up W q_w1 (.inl (cI, 486, .inl (fun _ => 0)))) gv_uu)))) ?_
    refine k_aload_n C dX1_refresh_26 rfl 0 rfl ?_
    refine k_aload_n C dX1_refresh_27 rfl 1 rfl ?_
    refine k_get (ci := 1) (k := 0) C fl_1_12 ((gv_up_n ne42).trans ((gv_up_n ne22).trans ((gv_up_n ne2).trans h_mo))) rfl dX1_refresh_28 ?_
    refine k_get (ci := 5) (k := 4) C fl_1_87 ((gv_up_n ne43).trans ((gv_up_n ne23).trans ((gv_up_n ne3).trans h_tr))) rfl dX1_refresh_31 ?_
    refine k_put (ci := 4) (k := 3) (fs' := [.ref q_w1, .int (nI 0), .int (nI 0), .int (nI nt)]) C fl_1_84 pf_4_3 ((gv_up_n (Ne.symm ne19)).trans ((gv_up_n htq_w1).trans gv_up_s)) rfl rfl (Nat.le_of_ble_eq_true rfl) rfl dX1_refresh_34 ?_
    refine k_view (V1 := gv_up (gv_up (gv_up V t_w1 (.inr (4, [.ref q_w1, .int (nI 0), .int (nI 0), .int (nI nt)]))) q_w1 (.inl (cI, 486, .inl (fun _ => 0)))) tb (.inl (cR, 120, .inr (.inr (.inr (.inr (va_up tf (i * 4 + g) (some t_w1)))))))) ((gv_uc (Ne.symm ne19)).trans (congrArg (fun W => gv_up W tb (.inl (cR, 120, .inr (.inr (.inr (.inr (va_up tf (i * 4 + g) (some t_w1)))))))) ((gv_uc htq_w1).trans (congrArg (fun W => gv_up W q_w1 (.inl (cI, 486, .inl (fun _ => 0)))) gv_uu)))) ?_
    refine k_aload_n C dX1_refresh_37 rfl 1 rfl ?_
    refine k_get (ci := 1) (k := 2) C fl_1_28 ((gv_up_n ne42).trans ((gv_up_n ne22).trans ((gv_up_n ne2).trans h_mo))) rfl dX1_refresh_38 ?_
    refine k_iload_n C dX1_refresh_41 rfl 2 rfl ?_
    have ne44 : nq nd tb := gv_ne h_tb h_nd (by simp)
    have ne45 : nq nl tb := gv_ne h_tb h_nl (by simp)
    refine k_callV_pr C mv_1_60 (c_X3_at  ((gv_up_n ne44).trans ((gv_up_n ne28).trans ((gv_up_n ne8).trans h_nd))) ((gv_up_n ne45).trans ((gv_up_n ne29).trans ((gv_up_n ne9).trans h_nl))) (by first | assumption | omega) hnf) ((gv_up_n ne44).trans ((gv_up_n ne28).trans ((gv_up_n ne8).trans h_nd))) rfl rfl (by simp [Value.category]) ⟨by decide, by decide⟩ ⟨(by decide), (by decide)⟩ dX1_refresh_42 ?_
    refine k_astore (lv' := [(4, .ref no), (3, .ref t_w1), (0, .ref mo), (1, .int (nI i)), (2, .int (nI g))]) C dX1_refresh_45 (by decide) rfl ?_
    refine k_aload C dX1_refresh_47 0 rfl ?_
    have ne46 : nq no tb := gv_ne h_tb h_no (by simp)
    refine k_get (ci := 2) (k := 0) C fl_1_77 ((gv_up_n ne46).trans ((gv_up_n ne30).trans ((gv_up_n ne10).trans h_no))) rfl dX1_refresh_49 ?_
    refine k_bipush (v := nI 12) C dX1_refresh_52 rfl ?_
    refine k_icmp_ne (tgt := 65) C dX1_refresh_54 (by decide) (fun c54 => ?_) (fun c54 => ?_)
    · skip
      have b54 : ¬ 11 = 12 := fun z => c54 ((nI_eq (a := 11) (b := 12) (by omega) (by omega)).mpr z)
      refine k_iload_n C dX1_refresh_65 rfl 4 rfl ?_
      refine k_istore (lv' := [(5, .int (nI g)), (4, .ref no), (3, .ref t_w1), (0, .ref mo), (1, .int (nI i)), (2, .int (nI g))]) C dX1_refresh_66 (by decide) rfl ?_
      refine k_aload C dX1_refresh_68 1 rfl ?_
      refine k_get (ci := 2) (k := 0) C fl_1_77 ((gv_up_n ne46).trans ((gv_up_n ne30).trans ((gv_up_n ne10).trans h_no))) rfl dX1_refresh_70 ?_
      refine k_if_ne (tgt := 87) C dX1_refresh_73 (by decide) (fun c73 => ?_) (fun c73 => ?_)
      · skip
        have b73 : ¬ 11 = 0 := fun z => c73 ((nI_eq (a := 11) (b := 0) (by omega) (by omega)).mpr z)
        refine k_aload C dX1_refresh_87 1 rfl ?_
        refine k_get (ci := 2) (k := 0) C fl_1_77 ((gv_up_n ne46).trans ((gv_up_n ne30).trans ((gv_up_n ne10).trans h_no))) rfl dX1_refresh_89 ?_
        refine k_bipush (v := nI 13) C dX1_refresh_92 rfl ?_
        refine k_icmp_ne (tgt := 107) C dX1_refresh_94 (by decide) (fun c94 => ?_) (fun c94 => ?_)
        · skip
          have b94 : ¬ 11 = 13 := fun z => c94 ((nI_eq (a := 11) (b := 13) (by omega) (by omega)).mpr z)
          refine k_aload C dX1_refresh_107 1 rfl ?_
          refine k_get (ci := 2) (k := 2) C fl_1_74 ((gv_up_n ne46).trans ((gv_up_n ne30).trans ((gv_up_n ne10).trans h_no))) rfl dX1_refresh_109 ?_
          refine k_iconst (v := (-1 : Int32)) C dX1_refresh_112 (by decide) ?_
          refine k_icmp_ne (tgt := 137) C dX1_refresh_113 (by decide) (fun c113 => ?_) (fun c113 => ?_)
          · skip
            exact absurd rfl c113
          · skip
            refine k_aload_n C dX1_refresh_116 rfl 3 rfl ?_
            refine k_aload C dX1_refresh_117 1 rfl ?_
            refine k_aload_n C dX1_refresh_119 rfl 3 rfl ?_
            refine k_aload C dX1_refresh_120 1 rfl ?_
            refine k_get (ci := 2) (k := 1) C fl_1_68 ((gv_up_n ne46).trans ((gv_up_n ne30).trans ((gv_up_n ne10).trans h_no))) rfl dX1_refresh_122 ?_
            refine k_iload C dX1_refresh_125 0 rfl ?_
            refine k_callV_pr C mv_1_56 (c_tableOf  ((gv_up_n ne42).trans ((gv_up_n ne22).trans ((gv_up_n ne2).trans h_mo))) gv_up_s (by first | assumption | omega) (by first | assumption | omega) (by simp only [va_up]; rw [if_neg (by omega)]; exact hta)) ((gv_up_n ne42).trans ((gv_up_n ne22).trans ((gv_up_n ne2).trans h_mo))) rfl rfl (by simp [Value.category]) ⟨by decide, by decide⟩ ⟨(by decide), (by decide)⟩ dX1_refresh_127 ?_
            refine k_aload_n C dX1_refresh_130 rfl 2 rfl ?_
            rcases SA with _ | A
            · skip
              have ne47 : nq xe tb := gv_ne h_tb h_xe (by simp)
              have ne48 : nq ak tb := gv_ne h_tb h_ak (by simp)
              have ne49 : nq af tb := gv_ne h_tb h_af (by simp)
              have ne50 : nq as tb := gv_ne h_tb h_as (by simp)
              have ne51 : nq ap tb := gv_ne h_tb h_ap (by simp)
              have ne52 : nq av tb := gv_ne h_tb h_av (by simp)
              have ne53 : nq a tb := gv_ne h_tb h_a (by simp)
              have ne54 : nq c tb := gv_ne h_tb h_c (by simp)
              have ne55 : nq ky tb := gv_ne h_tb h_ky (by simp)
              have ne56 : nq pl tb := gv_ne h_tb h_pl (by simp)
              refine k_callV C mv_1_101 (c_overL  ((gv_up_n ne42).trans ((gv_up_n ne22).trans ((gv_up_n ne2).trans h_mo))) ((gv_up_n ne46).trans ((gv_up_n ne30).trans ((gv_up_n ne10).trans h_no))) ((gv_up_n ne47).trans ((gv_up_n ne31).trans ((gv_up_n ne11).trans h_xe))) ((gv_up_n ne48).trans ((gv_up_n ne32).trans ((gv_up_n ne12).trans h_ak))) ((gv_up_n ne49).trans ((gv_up_n ne33).trans ((gv_up_n ne13).trans h_af))) ((gv_up_n ne50).trans ((gv_up_n ne34).trans ((gv_up_n ne14).trans h_as))) ((gv_up_n ne51).trans ((gv_up_n ne35).trans ((gv_up_n ne15).trans h_ap))) ((gv_up_n ne52).trans ((gv_up_n ne36).trans ((gv_up_n ne16).trans h_av))) ((gv_up_n ne53).trans ((gv_up_n ne40).trans ((gv_up_n ne20).trans h_a))) ((gv_up_n ne54).trans ((gv_up_n ne41).trans ((gv_up_n ne21).trans h_c))) ((gv_up_n (Ne.symm ne19)).trans ((gv_up_n htq_w1).trans gv_up_s)) ((gv_up_n (Ne.symm ne39)).trans gv_up_s) ((gv_up_n ne55).trans ((gv_up_n ne37).trans ((gv_up_n ne17).trans h_ky))) ((gv_up_n ne56).trans ((gv_up_n ne38).trans ((gv_up_n ne18).trans h_pl))) hSa (by first | assumption | omega) (Ne.symm ne20) (Ne.symm ne41) hky) ((gv_up_n ne42).trans ((gv_up_n ne22).trans ((gv_up_n ne2).trans h_mo))) rfl rfl (by simp [Value.category]) ⟨by decide, by decide⟩ ⟨(by decide), (by decide)⟩ dX1_refresh_131 (fun zv zV zh => ?_)
              obtain ⟨vl1_w57, kf1_w57, pf1_w57, n1_w57, tl1_w57, f1_w57, rfl, rfl, ht1_w57⟩ := zh
              refine k_pc (pc' := 134) (st' := []) rfl rfl ?_
              refine k_view (V1 := gv_up (gv_up (gv_up (gv_up (gv_up (gv_up (gv_up V t_w1 (.inr (4, [.ref q_w1, .int (nI 0), .int (nI 0), .int (nI nt)]))) q_w1 (.inl (cI, 486, .inl f1_w57))) tb (.inl (cR, 120, .inr (.inr (.inr (.inr (va_up tf (i * 4 + g) (some t_w1)))))))) av (.inl (cI, 30, .inl vl1_w57))) ky (.inl (cI, 80, .inl kf1_w57))) pl (.inl (cI, 80, .inl pf1_w57))) t_w1 (.inr (4, [.ref q_w1, .int (nI n1_w57), .int tl1_w57, .int (nI nt)]))) (congrArg (fun W => gv_up W t_w1 (.inr (4, [.ref q_w1, .int (nI n1_w57), .int tl1_w57, .int (nI nt)]))) ((gv_uc (Ne.symm ne38)).trans (congrArg (fun W => gv_up W pl (.inl (cI, 80, .inl pf1_w57))) ((gv_uc (Ne.symm ne37)).trans (congrArg (fun W => gv_up W ky (.inl (cI, 80, .inl kf1_w57))) ((gv_uc (Ne.symm ne36)).trans (congrArg (fun W => gv_up W av (.inl (cI, 30, .inl vl1_w57))) ((gv_uc (Ne.symm ne39)).trans (congrArg (fun W => gv_up W tb (.inl (cR, 120, .inr (.inr (.inr (.inr (va_up tf (i * 4 + g) (some t_w1)))))))) gv_uu))))))))) ?_
              refine k_view (V1 := gv_up (gv_up (gv_up (gv_up (gv_up (gv_up V t_w1 (.inr (4, [.ref q_w1, .int (nI n1_w57), .int tl1_w57, .int (nI nt)]))) q_w1 (.inl (cI, 486, .inl f1_w57))) tb (.inl (cR, 120, .inr (.inr (.inr (.inr (va_up tf (i * 4 + g) (some t_w1)))))))) av (.inl (cI, 30, .inl vl1_w57))) ky (.inl (cI, 80, .inl kf1_w57))) pl (.inl (cI, 80, .inl pf1_w57))) ((gv_uc (Ne.symm ne18)).trans (congrArg (fun W => gv_up W pl (.inl (cI, 80, .inl pf1_w57))) ((gv_uc (Ne.symm ne17)).trans (congrArg (fun W => gv_up W ky (.inl (cI, 80, .inl kf1_w57))) ((gv_uc (Ne.symm ne16)).trans (congrArg (fun W => gv_up W av (.inl (cI, 30, .inl vl1_w57))) ((gv_uc (Ne.symm ne19)).trans (congrArg (fun W => gv_up W tb (.inl (cR, 120, .inr (.inr (.inr (.inr (va_up tf (i * 4 + g) (some t_w1)))))))) ((gv_uc htq_w1).trans (congrArg (fun W => gv_up W q_w1 (.inl (cI, 486, .inl f1_w57))) gv_uu)))))))))) ?_
              refine k_goto (tgt := 166) C dX1_refresh_134 (by decide) ?_
              refine k_view (V1 := gv_up (gv_up (gv_up (gv_up (gv_up (gv_up V t_w1 (.inr (4, [.ref q_w1, .int (nI n1_w57), .int tl1_w57, .int (nI nt)]))) q_w1 (.inl (cI, 486, .inl f1_w57))) av (.inl (cI, 30, .inl vl1_w57))) tb (.inl (cR, 120, .inr (.inr (.inr (.inr (va_up tf (i * 4 + g) (some t_w1)))))))) ky (.inl (cI, 80, .inl kf1_w57))) pl (.inl (cI, 80, .inl pf1_w57))) (congrArg (fun W => gv_up W pl (.inl (cI, 80, .inl pf1_w57))) (congrArg (fun W => gv_up W ky (.inl (cI, 80, .inl kf1_w57))) (gv_uc ne52))) ?_
              refine k_view (V1 := gv_up (gv_up (gv_up (gv_up (gv_up (gv_up V t_w1 (.inr (4, [.ref q_w1, .int (nI n1_w57), .int tl1_w57, .int (nI nt)]))) av (.inl (cI, 30, .inl vl1_w57))) q_w1 (.inl (cI, 486, .inl f1_w57))) tb (.inl (cR, 120, .inr (.inr (.inr (.inr (va_up tf (i * 4 + g) (some t_w1)))))))) ky (.inl (cI, 80, .inl kf1_w57))) pl (.inl (cI, 80, .inl pf1_w57))) (congrArg (fun W => gv_up W pl (.inl (cI, 80, .inl pf1_w57))) (congrArg (fun W => gv_up W ky (.inl (cI, 80, .inl kf1_w57))) (congrArg (fun W => gv_up W tb (.inl (cR, 120, .inr (.inr (.inr (.inr (va_up tf (i * 4 + g) (some t_w1)))))))) (gv_uc ne36)))) ?_
              refine k_view (V1 := gv_up (gv_up (gv_up (gv_up (gv_up (gv_up V av (.inl (cI, 30, .inl vl1_w57))) t_w1 (.inr (4, [.ref q_w1, .int (nI n1_w57), .int tl1_w57, .int (nI nt)]))) q_w1 (.inl (cI, 486, .inl f1_w57))) tb (.inl (cR, 120, .inr (.inr (.inr (.inr (va_up tf (i * 4 + g) (some t_w1)))))))) ky (.inl (cI, 80, .inl kf1_w57))) pl (.inl (cI, 80, .inl pf1_w57))) (congrArg (fun W => gv_up W pl (.inl (cI, 80, .inl pf1_w57))) (congrArg (fun W => gv_up W ky (.inl (cI, 80, .inl kf1_w57))) (congrArg (fun W => gv_up W tb (.inl (cR, 120, .inr (.inr (.inr (.inr (va_up tf (i * 4 + g) (some t_w1)))))))) (congrArg (fun W => gv_up W q_w1 (.inl (cI, 486, .inl f1_w57))) (gv_uc ne16))))) ?_
              refine k_view (V1 := gv_up (gv_up (gv_up (gv_up (gv_up (gv_up V av (.inl (cI, 30, .inl vl1_w57))) t_w1 (.inr (4, [.ref q_w1, .int (nI n1_w57), .int tl1_w57, .int (nI nt)]))) q_w1 (.inl (cI, 486, .inl f1_w57))) ky (.inl (cI, 80, .inl kf1_w57))) tb (.inl (cR, 120, .inr (.inr (.inr (.inr (va_up tf (i * 4 + g) (some t_w1)))))))) pl (.inl (cI, 80, .inl pf1_w57))) (congrArg (fun W => gv_up W pl (.inl (cI, 80, .inl pf1_w57))) (gv_uc ne55)) ?_
              refine k_view (V1 := gv_up (gv_up (gv_up (gv_up (gv_up (gv_up V av (.inl (cI, 30, .inl vl1_w57))) t_w1 (.inr (4, [.ref q_w1, .int (nI n1_w57), .int tl1_w57, .int (nI nt)]))) ky (.inl (cI, 80, .inl kf1_w57))) q_w1 (.inl (cI, 486, .inl f1_w57))) tb (.inl (cR, 120, .inr (.inr (.inr (.inr (va_up tf (i * 4 + g) (some t_w1)))))))) pl (.inl (cI, 80, .inl pf1_w57))) (congrArg (fun W => gv_up W pl (.inl (cI, 80, .inl pf1_w57))) (congrArg (fun W => gv_up W tb (.inl (cR, 120, .inr (.inr (.inr (.inr (va_up tf (i * 4 + g) (some t_w1)))))))) (gv_uc ne37))) ?_
              refine k_view (V1 := gv_up (gv_up (gv_up (gv_up (gv_up (gv_up V av (.inl (cI, 30, .inl vl1_w57))) ky (.inl (cI, 80, .inl kf1_w57))) t_w1 (.inr (4, [.ref q_w1, .int (nI n1_w57), .int tl1_w57, .int (nI nt)]))) q_w1 (.inl (cI, 486, .inl f1_w57))) tb (.inl (cR, 120, .inr (.inr (.inr (.inr (va_up tf (i * 4 + g) (some t_w1)))))))) pl (.inl (cI, 80, .inl pf1_w57))) (congrArg (fun W => gv_up W pl (.inl (cI, 80, .inl pf1_w57))) (congrArg (fun W => gv_up W tb (.inl (cR, 120, .inr (.inr (.inr (.inr (va_up tf (i * 4 + g) (some t_w1)))))))) (congrArg (fun W => gv_up W q_w1 (.inl (cI, 486, .inl f1_w57))) (gv_uc ne17)))) ?_
              refine k_view (V1 := gv_up (gv_up (gv_up (gv_up (gv_up (gv_up V av (.inl (cI, 30, .inl vl1_w57))) ky (.inl (cI, 80, .inl kf1_w57))) t_w1 (.inr (4, [.ref q_w1, .int (nI n1_w57), .int tl1_w57, .int (nI nt)]))) q_w1 (.inl (cI, 486, .inl f1_w57))) pl (.inl (cI, 80, .inl pf1_w57))) tb (.inl (cR, 120, .inr (.inr (.inr (.inr (va_up tf (i * 4 + g) (some t_w1)))))))) (gv_uc ne56) ?_
              refine k_view (V1 := gv_up (gv_up (gv_up (gv_up (gv_up (gv_up V av (.inl (cI, 30, .inl vl1_w57))) ky (.inl (cI, 80, .inl kf1_w57))) t_w1 (.inr (4, [.ref q_w1, .int (nI n1_w57), .int tl1_w57, .int (nI nt)]))) pl (.inl (cI, 80, .inl pf1_w57))) q_w1 (.inl (cI, 486, .inl f1_w57))) tb (.inl (cR, 120, .inr (.inr (.inr (.inr (va_up tf (i * 4 + g) (some t_w1)))))))) (congrArg (fun W => gv_up W tb (.inl (cR, 120, .inr (.inr (.inr (.inr (va_up tf (i * 4 + g) (some t_w1)))))))) (gv_uc ne38)) ?_
              refine k_view (V1 := gv_up (gv_up (gv_up (gv_up (gv_up (gv_up V av (.inl (cI, 30, .inl vl1_w57))) ky (.inl (cI, 80, .inl kf1_w57))) pl (.inl (cI, 80, .inl pf1_w57))) t_w1 (.inr (4, [.ref q_w1, .int (nI n1_w57), .int tl1_w57, .int (nI nt)]))) q_w1 (.inl (cI, 486, .inl f1_w57))) tb (.inl (cR, 120, .inr (.inr (.inr (.inr (va_up tf (i * 4 + g) (some t_w1)))))))) (congrArg (fun W => gv_up W tb (.inl (cR, 120, .inr (.inr (.inr (.inr (va_up tf (i * 4 + g) (some t_w1)))))))) (congrArg (fun W => gv_up W q_w1 (.inl (cI, 486, .inl f1_w57))) (gv_uc ne18))) ?_
              refine k_view (V1 := gv_up (gv_up (gv_up (gv_up (gv_up (gv_up V av (.inl (cI, 30, .inl vl1_w57))) ky (.inl (cI, 80, .inl kf1_w57))) pl (.inl (cI, 80, .inl pf1_w57))) q_w1 (.inl (cI, 486, .inl f1_w57))) t_w1 (.inr (4, [.ref q_w1, .int (nI n1_w57), .int tl1_w57, .int (nI nt)]))) tb (.inl (cR, 120, .inr (.inr (.inr (.inr (va_up tf (i * 4 + g) (some t_w1)))))))) (congrArg (fun W => gv_up W tb (.inl (cR, 120, .inr (.inr (.inr (.inr (va_up tf (i * 4 + g) (some t_w1)))))))) (gv_uc (Ne.symm htq_w1))) ?_
              exact k_vret C zr zlk ⟨t_w1, q_w1, vl1_w57, kf1_w57, pf1_w57, n1_w57, tl1_w57, f1_w57, rfl, rfl, ht1_w1, hq_w1, htq_w1, ht1_w57⟩ (Nat.le_refl _) (Nat.le_refl _) dX1_refresh_166
            · skip
              have ne58 : nq xe tb := gv_ne h_tb h_xe (by simp)
              have ne59 : nq ak tb := gv_ne h_tb h_ak (by simp)
              have ne60 : nq af tb := gv_ne h_tb h_af (by simp)
              have ne61 : nq as tb := gv_ne h_tb h_as (by simp)
              have ne62 : nq ap tb := gv_ne h_tb h_ap (by simp)
              have ne63 : nq av tb := gv_ne h_tb h_av (by simp)
              have ne64 : nq a tb := gv_ne h_tb h_a (by simp)
              have ne65 : nq c tb := gv_ne h_tb h_c (by simp)
              have ne66 : nq ky tb := gv_ne h_tb h_ky (by simp)
              have ne67 : nq pl tb := gv_ne h_tb h_pl (by simp)
              refine k_callV C mv_1_101 (c_over11  ((gv_up_n ne42).trans ((gv_up_n ne22).trans ((gv_up_n ne2).trans h_mo))) ((gv_up_n ne46).trans ((gv_up_n ne30).trans ((gv_up_n ne10).trans h_no))) ((gv_up_n ne58).trans ((gv_up_n ne31).trans ((gv_up_n ne11).trans h_xe))) ((gv_up_n ne59).trans ((gv_up_n ne32).trans ((gv_up_n ne12).trans h_ak))) ((gv_up_n ne60).trans ((gv_up_n ne33).trans ((gv_up_n ne13).trans h_af))) ((gv_up_n ne61).trans ((gv_up_n ne34).trans ((gv_up_n ne14).trans h_as))) ((gv_up_n ne62).trans ((gv_up_n ne35).trans ((gv_up_n ne15).trans h_ap))) ((gv_up_n ne63).trans ((gv_up_n ne36).trans ((gv_up_n ne16).trans h_av))) ((gv_up_n ne64).trans ((gv_up_n ne40).trans ((gv_up_n ne20).trans h_a))) ((gv_up_n ne65).trans ((gv_up_n ne41).trans ((gv_up_n ne21).trans h_c))) ((gv_up_n (Ne.symm ne19)).trans ((gv_up_n htq_w1).trans gv_up_s)) ((gv_up_n (Ne.symm ne39)).trans gv_up_s) ((gv_up_n ne66).trans ((gv_up_n ne37).trans ((gv_up_n ne17).trans h_ky))) ((gv_up_n ne67).trans ((gv_up_n ne38).trans ((gv_up_n ne18).trans h_pl))) (by first | assumption | omega) (by first | assumption | omega) hSa.2 (Ne.symm ne20) (Ne.symm ne41) hSa.1 hky (by first | assumption | omega) (by first | assumption | omega)) ((gv_up_n ne42).trans ((gv_up_n ne22).trans ((gv_up_n ne2).trans h_mo))) rfl rfl (by simp [Value.category]) ⟨by decide, by decide⟩ ⟨(by decide), (by decide)⟩ dX1_refresh_131 (fun zv zV zh => ?_)
              obtain ⟨vl1_w68, kf1_w68, pf1_w68, n1_w68, tl1_w68, f1_w68, rfl, rfl, ht1_w68⟩ := zh
              refine k_pc (pc' := 134) (st' := []) rfl rfl ?_
              refine k_view (V1 := gv_up (gv_up (gv_up (gv_up (gv_up (gv_up (gv_up V t_w1 (.inr (4, [.ref q_w1, .int (nI 0), .int (nI 0), .int (nI nt)]))) q_w1 (.inl (cI, 486, .inl f1_w68))) tb (.inl (cR, 120, .inr (.inr (.inr (.inr (va_up tf (i * 4 + g) (some t_w1)))))))) av (.inl (cI, 30, .inl vl1_w68))) ky (.inl (cI, 80, .inl kf1_w68))) pl (.inl (cI, 80, .inl pf1_w68))) t_w1 (.inr (4, [.ref q_w1, .int (nI n1_w68), .int tl1_w68, .int (nI nt)]))) (congrArg (fun W => gv_up W t_w1 (.inr (4, [.ref q_w1, .int (nI n1_w68), .int tl1_w68, .int (nI nt)]))) ((gv_uc (Ne.symm ne38)).trans (congrArg (fun W => gv_up W pl (.inl (cI, 80, .inl pf1_w68))) ((gv_uc (Ne.symm ne37)).trans (congrArg (fun W => gv_up W ky (.inl (cI, 80, .inl kf1_w68))) ((gv_uc (Ne.symm ne36)).trans (congrArg (fun W => gv_up W av (.inl (cI, 30, .inl vl1_w68))) ((gv_uc (Ne.symm ne39)).trans (congrArg (fun W => gv_up W tb (.inl (cR, 120, .inr (.inr (.inr (.inr (va_up tf (i * 4 + g) (some t_w1)))))))) gv_uu))))))))) ?_
              refine k_view (V1 := gv_up (gv_up (gv_up (gv_up (gv_up (gv_up V t_w1 (.inr (4, [.ref q_w1, .int (nI n1_w68), .int tl1_w68, .int (nI nt)]))) q_w1 (.inl (cI, 486, .inl f1_w68))) tb (.inl (cR, 120, .inr (.inr (.inr (.inr (va_up tf (i * 4 + g) (some t_w1)))))))) av (.inl (cI, 30, .inl vl1_w68))) ky (.inl (cI, 80, .inl kf1_w68))) pl (.inl (cI, 80, .inl pf1_w68))) ((gv_uc (Ne.symm ne18)).trans (congrArg (fun W => gv_up W pl (.inl (cI, 80, .inl pf1_w68))) ((gv_uc (Ne.symm ne17)).trans (congrArg (fun W => gv_up W ky (.inl (cI, 80, .inl kf1_w68))) ((gv_uc (Ne.symm ne16)).trans (congrArg (fun W => gv_up W av (.inl (cI, 30, .inl vl1_w68))) ((gv_uc (Ne.symm ne19)).trans (congrArg (fun W => gv_up W tb (.inl (cR, 120, .inr (.inr (.inr (.inr (va_up tf (i * 4 + g) (some t_w1)))))))) ((gv_uc htq_w1).trans (congrArg (fun W => gv_up W q_w1 (.inl (cI, 486, .inl f1_w68))) gv_uu)))))))))) ?_
              refine k_goto (tgt := 166) C dX1_refresh_134 (by decide) ?_
              refine k_view (V1 := gv_up (gv_up (gv_up (gv_up (gv_up (gv_up V t_w1 (.inr (4, [.ref q_w1, .int (nI n1_w68), .int tl1_w68, .int (nI nt)]))) q_w1 (.inl (cI, 486, .inl f1_w68))) av (.inl (cI, 30, .inl vl1_w68))) tb (.inl (cR, 120, .inr (.inr (.inr (.inr (va_up tf (i * 4 + g) (some t_w1)))))))) ky (.inl (cI, 80, .inl kf1_w68))) pl (.inl (cI, 80, .inl pf1_w68))) (congrArg (fun W => gv_up W pl (.inl (cI, 80, .inl pf1_w68))) (congrArg (fun W => gv_up W ky (.inl (cI, 80, .inl kf1_w68))) (gv_uc ne63))) ?_
              refine k_view (V1 := gv_up (gv_up (gv_up (gv_up (gv_up (gv_up V t_w1 (.inr (4, [.ref q_w1, .int (nI n1_w68), .int tl1_w68, .int (nI nt)]))) av (.inl (cI, 30, .inl vl1_w68))) q_w1 (.inl (cI, 486, .inl f1_w68))) tb (.inl (cR, 120, .inr (.inr (.inr (.inr (va_up tf (i * 4 + g) (some t_w1)))))))) ky (.inl (cI, 80, .inl kf1_w68))) pl (.inl (cI, 80, .inl pf1_w68))) (congrArg (fun W => gv_up W pl (.inl (cI, 80, .inl pf1_w68))) (congrArg (fun W => gv_up W ky (.inl (cI, 80, .inl kf1_w68))) (congrArg (fun W => gv_up W tb (.inl (cR, 120, .inr (.inr (.inr (.inr (va_up tf (i * 4 + g) (some t_w1)))))))) (gv_uc ne36)))) ?_
              refine k_view (V1 := gv_up (gv_up (gv_up (gv_up (gv_up (gv_up V av (.inl (cI, 30, .inl vl1_w68))) t_w1 (.inr (4, [.ref q_w1, .int (nI n1_w68), .int tl1_w68, .int (nI nt)]))) q_w1 (.inl (cI, 486, .inl f1_w68))) tb (.inl (cR, 120, .inr (.inr (.inr (.inr (va_up tf (i * 4 + g) (some t_w1)))))))) ky (.inl (cI, 80, .inl kf1_w68))) pl (.inl (cI, 80, .inl pf1_w68))) (congrArg (fun W => gv_up W pl (.inl (cI, 80, .inl pf1_w68))) (congrArg (fun W => gv_up W ky (.inl (cI, 80, .inl kf1_w68))) (congrArg (fun W => gv_up W tb (.inl (cR, 120, .inr (.inr (.inr (.inr (va_up tf (i * 4 + g) (some t_w1)))))))) (congrArg (fun W => gv_up W q_w1 (.inl (cI, 486, .inl f1_w68))) (gv_uc ne16))))) ?_
              refine k_view (V1 := gv_up (gv_up (gv_up (gv_up (gv_up (gv_up V av (.inl (cI, 30, .inl vl1_w68))) t_w1 (.inr (4, [.ref q_w1, .int (nI n1_w68), .int tl1_w68, .int (nI nt)]))) q_w1 (.inl (cI, 486, .inl f1_w68))) ky (.inl (cI, 80, .inl kf1_w68))) tb (.inl (cR, 120, .inr (.inr (.inr (.inr (va_up tf (i * 4 + g) (some t_w1)))))))) pl (.inl (cI, 80, .inl pf1_w68))) (congrArg (fun W => gv_up W pl (.inl (cI, 80, .inl pf1_w68))) (gv_uc ne66)) ?_
              refine k_view (V1 := gv_up (gv_up (gv_up (gv_up (gv_up (gv_up V av (.inl (cI, 30, .inl vl1_w68))) t_w1 (.inr (4, [.ref q_w1, .int (nI n1_w68), .int tl1_w68, .int (nI nt)]))) ky (.inl (cI, 80, .inl kf1_w68))) q_w1 (.inl (cI, 486, .inl f1_w68))) tb (.inl (cR, 120, .inr (.inr (.inr (.inr (va_up tf (i * 4 + g) (some t_w1)))))))) pl (.inl (cI, 80, .inl pf1_w68))) (congrArg (fun W => gv_up W pl (.inl (cI, 80, .inl pf1_w68))) (congrArg (fun W => gv_up W tb (.inl (cR, 120, .inr (.inr (.inr (.inr (va_up tf (i * 4 + g) (some t_w1)))))))) (gv_uc ne37))) ?_
              refine k_view (V1 := gv_up (gv_up (gv_up (gv_up (gv_up (gv_up V av (.inl (cI, 30, .inl vl1_w68))) ky (.inl (cI, 80, .inl kf1_w68))) t_w1 (.inr (4, [.ref q_w1, .int (nI n1_w68), .int tl1_w68, .int (nI nt)]))) q_w1 (.inl (cI, 486, .inl f1_w68))) tb (.inl (cR, 120, .inr (.inr (.inr (.inr (va_up tf (i * 4 + g) (some t_w1)))))))) pl (.inl (cI, 80, .inl pf1_w68))) (congrArg (fun W => gv_up W pl (.inl (cI, 80, .inl pf1_w68))) (congrArg (fun W => gv_up W tb (.inl (cR, 120, .inr (.inr (.inr (.inr (va_up tf (i * 4 + g) (some t_w1)))))))) (congrArg (fun W => gv_up W q_w1 (.inl (cI, 486, .inl f1_w68))) (gv_uc ne17)))) ?_
              refine k_view (V1 := gv_up (gv_up (gv_up (gv_up (gv_up (gv_up V av (.inl (cI, 30, .inl vl1_w68))) ky (.inl (cI, 80, .inl kf1_w68))) t_w1 (.inr (4, [.ref q_w1, .int (nI n1_w68), .int tl1_w68, .int (nI nt)]))) q_w1 (.inl (cI, 486, .inl f1_w68))) pl (.inl (cI, 80, .inl pf1_w68))) tb (.inl (cR, 120, .inr (.inr (.inr (.inr (va_up tf (i * 4 + g) (some t_w1)))))))) (gv_uc ne67) ?_
              refine k_view (V1 := gv_up (gv_up (gv_up (gv_up (gv_up (gv_up V av (.inl (cI, 30, .inl vl1_w68))) ky (.inl (cI, 80, .inl kf1_w68))) t_w1 (.inr (4, [.ref q_w1, .int (nI n1_w68), .int tl1_w68, .int (nI nt)]))) pl (.inl (cI, 80, .inl pf1_w68))) q_w1 (.inl (cI, 486, .inl f1_w68))) tb (.inl (cR, 120, .inr (.inr (.inr (.inr (va_up tf (i * 4 + g) (some t_w1)))))))) (congrArg (fun W => gv_up W tb (.inl (cR, 120, .inr (.inr (.inr (.inr (va_up tf (i * 4 + g) (some t_w1)))))))) (gv_uc ne38)) ?_
              refine k_view (V1 := gv_up (gv_up (gv_up (gv_up (gv_up (gv_up V av (.inl (cI, 30, .inl vl1_w68))) ky (.inl (cI, 80, .inl kf1_w68))) pl (.inl (cI, 80, .inl pf1_w68))) t_w1 (.inr (4, [.ref q_w1, .int (nI n1_w68), .int tl1_w68, .int (nI nt)]))) q_w1 (.inl (cI, 486, .inl f1_w68))) tb (.inl (cR, 120, .inr (.inr (.inr (.inr (va_up tf (i * 4 + g) (some t_w1)))))))) (congrArg (fun W => gv_up W tb (.inl (cR, 120, .inr (.inr (.inr (.inr (va_up tf (i * 4 + g) (some t_w1)))))))) (congrArg (fun W => gv_up W q_w1 (.inl (cI, 486, .inl f1_w68))) (gv_uc ne18))) ?_
              refine k_view (V1 := gv_up (gv_up (gv_up (gv_up (gv_up (gv_up V av (.inl (cI, 30, .inl vl1_w68))) ky (.inl (cI, 80, .inl kf1_w68))) pl (.inl (cI, 80, .inl pf1_w68))) q_w1 (.inl (cI, 486, .inl f1_w68))) t_w1 (.inr (4, [.ref q_w1, .int (nI n1_w68), .int tl1_w68, .int (nI nt)]))) tb (.inl (cR, 120, .inr (.inr (.inr (.inr (va_up tf (i * 4 + g) (some t_w1)))))))) (congrArg (fun W => gv_up W tb (.inl (cR, 120, .inr (.inr (.inr (.inr (va_up tf (i * 4 + g) (some t_w1)))))))) (gv_uc (Ne.symm htq_w1))) ?_
              exact k_vret C zr zlk ⟨t_w1, q_w1, vl1_w68, kf1_w68, pf1_w68, n1_w68, tl1_w68, f1_w68, rfl, rfl, ht1_w1, hq_w1, htq_w1, ht1_w68⟩ (Nat.le_refl _) (Nat.le_refl _) dX1_refresh_166
        · skip
          exact absurd c94 (by decide)
      · skip
        exact absurd c73 (by decide)
    · skip
      exact absurd c54 (by decide)
  · skip
    exact absurd c18.symm (nI_n1 (by omega))
set_option maxHeartbeats 4000000 in
set_option maxRecDepth 100000 in
theorem c_ref12N {zl : Launch} {D : va_G} {cI cN cR : ClassId} {base : Nat} {V : gv_V} {mo tr nd tb wg ky pl : Nat} {tga tsa tpa tqa nt : Nat} {tg ts tp tq : Nat → Int32} {nl nn : Nat} {nf : Nat → Option Nat} {no : Nat} {ps pp po ex va st fr ln dn ag : Int32} {xe ak af as ap av ne : Nat} {kd fs sc pt vl : Nat → Int32} {kf pf : Nat → Int32} {tf : Nat → Option Nat} {i g a0 gr0 : Nat} {E : Nat → Ex} {a c n : Nat} {tl mk : Int32} {f : Nat → Int32} {SA : Option (List Row)}  (h_mo : V mo = some (.inr (1, [.ref tr, .ref xe, .ref nd, .ref tb, .ref wg, .ref ky, .ref pl]))) (h_tr : V tr = some (.inr (5, [.ref tga, .ref tsa, .ref tpa, .ref tqa, .int (nI nt)]))) (h_tga : V tga = some (.inl (cI, 60, .inl tg))) (h_tsa : V tsa = some (.inl (cI, 60, .inl ts))) (h_tpa : V tpa = some (.inl (cI, 60, .inl tp))) (h_tqa : V tqa = some (.inl (cI, 60, .inl tq))) (h_nd : V nd = some (.inr (3, [.ref nl, .int (nI nn)]))) (h_nl : V nl = some (.inl (cN, 30, .inr (.inr (.inr (.inr nf)))))) (h_no : V no = some (.inr (2, [.int (nI 12), .int (nI a0), .int (-1 : Int32), .int ps, .int pp, .int po, .int ex, .int va, .int st, .int fr, .int ln, .int dn, .int ag, .int (nI gr0)]))) (h_xe : V xe = some (.inr (0, [.ref ak, .ref af, .ref as, .ref ap, .ref av, .int (nI ne)]))) (h_ak : V ak = some (.inl (cI, 30, .inl kd))) (h_af : V af = some (.inl (cI, 30, .inl fs))) (h_as : V as = some (.inl (cI, 30, .inl sc))) (h_ap : V ap = some (.inl (cI, 30, .inl pt))) (h_av : V av = some (.inl (cI, 30, .inl vl))) (h_ky : V ky = some (.inl (cI, 80, .inl kf))) (h_pl : V pl = some (.inl (cI, 80, .inl pf))) (h_tb : V tb = some (.inl (cR, 120, .inr (.inr (.inr (.inr tf)))))) (h_a : V a = some (.inr (4, [.ref c, .int (nI n), .int tl, .int mk]))) (h_c : V c = some (.inl (cI, 486, .inl f))) (hX : ExR E ne kd fs sc pt) (hd : [ak, af, as, ap, av].Nodup) (hi : i < 30) (hg : g < 4) (hnf : nf i = some no) (hky : nq ky pl) (hnt : nt ≤ 60) (ht : tf (i * 4 + g) = none) (ha0 : a0 < i) (hta : tf (a0 * 4 + gr0) = some a) (hSa : TRep SA n tl f) (hgr : gr0 < 4) : ct zl D [(cI, .int), (cN, .object "AlgebraTree$Node"), (cR, .object "AlgebraTree$Rows")] base yX1_refresh cX1_refresh 6 none 5 2 490 [.ref mo, .int (nI i), .int (nI g)] V (fun zv zV => ∃ t : Nat, ∃ q : Nat, ∃ vl1 : Nat → Int32, ∃ kf1 : Nat → Int32, ∃ pf1 : Nat → Int32, ∃ n1 : Nat, ∃ tl1 : Int32, ∃ f1 : Nat → Int32, zv = none ∧ zV = gv_up (gv_up (gv_up (gv_up (gv_up (gv_up V av (.inl (cI, 30, .inl vl1))) ky (.inl (cI, 80, .inl kf1))) pl (.inl (cI, 80, .inl pf1))) q (.inl (cI, 486, .inl f1))) t (.inr (4, [.ref q, .int (nI n1), .int tl1, .int (nI nt)]))) tb (.inl (cR, 120, .inr (.inr (.inr (.inr (va_up tf (i * 4 + g) (some t))))))) ∧ (V t = none) ∧ (V q = none) ∧ (nq t q) ∧ (TRep (SA.bind (fun A => cap A)) n1 tl1 f1)) := by
  refine ct_of "AlgebraTree$Maker" rfl (by decide) (Nat.le_of_ble_eq_true rfl) ?_
  intro zp ze zs zm zargs zbelow zmeth zc C zr zlk znm
  refine k_pc (pc' := 0) (st' := []) rfl rfl ?_
  show K zp zl ze (gv_rm 5 2 490) zs zm zargs zbelow zmeth zc D base 6 (gv_E D [(cI, .int), (cN, .object "AlgebraTree$Node"), (cR, .object "AlgebraTree$Rows")] base zbelow zargs zs 2 490 (fun zv zV => ∃ t : Nat, ∃ q : Nat, ∃ vl1 : Nat → Int32, ∃ kf1 : Nat → Int32, ∃ pf1 : Nat → Int32, ∃ n1 : Nat, ∃ tl1 : Int32, ∃ f1 : Nat → Int32, zv = none ∧ zV = gv_up (gv_up (gv_up (gv_up (gv_up (gv_up V av (.inl (cI, 30, .inl vl1))) ky (.inl (cI, 80, .inl kf1))) pl (.inl (cI, 80, .inl pf1))) q (.inl (cI, 486, .inl f1))) t (.inr (4, [.ref q, .int (nI n1), .int tl1, .int (nI nt)]))) tb (.inl (cR, 120, .inr (.inr (.inr (.inr (va_up tf (i * 4 + g) (some t))))))) ∧ (V t = none) ∧ (V q = none) ∧ (nq t q) ∧ (TRep (SA.bind (fun A => cap A)) n1 tl1 f1))) V 0 0 [(0, .ref mo), (1, .int (nI i)), (2, .int (nI g))] 0 []
  refine k_aload_n C dX1_refresh_0 rfl 0 rfl ?_
  refine k_iload_n C dX1_refresh_1 rfl 1 rfl ?_
  refine k_iload_n C dX1_refresh_2 rfl 2 rfl ?_
  refine k_callV C mv_1_56 (c_tableOfN  h_mo h_tb (by first | assumption | omega) (by first | assumption | omega) (by first | assumption | omega)) h_mo rfl rfl (by simp [Value.category]) ⟨by decide, by decide⟩ ⟨(by decide), (by decide)⟩ dX1_refresh_3 (fun zv zV zh => ?_)
  obtain ⟨t_w1, q_w1, rfl, rfl, ht1_w1, hq_w1, htq_w1⟩ := zh
  refine k_pc (pc' := 6) (st' := .ref t_w1 :: []) rfl rfl ?_
  have ne2 : nq mo t_w1 := gv_nf ht1_w1 h_mo
  have ne3 : nq tr t_w1 := gv_nf ht1_w1 h_tr
  have ne4 : nq tga t_w1 := gv_nf ht1_w1 h_tga
  have ne5 : nq tsa t_w1 := gv_nf ht1_w1 h_tsa
  have ne6 : nq tpa t_w1 := gv_nf ht1_w1 h_tpa
  have ne7 : nq tqa t_w1 := gv_nf ht1_w1 h_tqa
  have ne8 : nq nd t_w1 := gv_nf ht1_w1 h_nd
  have ne9 : nq nl t_w1 := gv_nf ht1_w1 h_nl
  have ne10 : nq no t_w1 := gv_nf ht1_w1 h_no
  have ne11 : nq xe t_w1 := gv_nf ht1_w1 h_xe
  have ne12 : nq ak t_w1 := gv_nf ht1_w1 h_ak
  have ne13 : nq af t_w1 := gv_nf ht1_w1 h_af
  have ne14 : nq as t_w1 := gv_nf ht1_w1 h_as
  have ne15 : nq ap t_w1 := gv_nf ht1_w1 h_ap
  have ne16 : nq av t_w1 := gv_nf ht1_w1 h_av
  have ne17 : nq ky t_w1 := gv_nf ht1_w1 h_ky
  have ne18 : nq pl t_w1 := gv_nf ht1_w1 h_pl
  have ne19 : nq tb t_w1 := gv_nf ht1_w1 h_tb
  have ne20 : nq a t_w1 := gv_nf ht1_w1 h_a
  have ne21 : nq c t_w1 := gv_nf ht1_w1 h_c
  have ne22 : nq mo q_w1 := gv_nf hq_w1 h_mo
  have ne23 : nq tr q_w1 := gv_nf hq_w1 h_tr
  have ne24 : nq tga q_w1 := gv_nf hq_w1 h_tga
  have ne25 : nq tsa q_w1 := gv_nf hq_w1 h_tsa
  have ne26 : nq tpa q_w1 := gv_nf hq_w1 h_tpa
  have ne27 : nq tqa q_w1 := gv_nf hq_w1 h_tqa
  have ne28 : nq nd q_w1 := gv_nf hq_w1 h_nd
  have ne29 : nq nl q_w1 := gv_nf hq_w1 h_nl
  have ne30 : nq no q_w1 := gv_nf hq_w1 h_no
  have ne31 : nq xe q_w1 := gv_nf hq_w1 h_xe
  have ne32 : nq ak q_w1 := gv_nf hq_w1 h_ak
  have ne33 : nq af q_w1 := gv_nf hq_w1 h_af
  have ne34 : nq as q_w1 := gv_nf hq_w1 h_as
  have ne35 : nq ap q_w1 := gv_nf hq_w1 h_ap
  have ne36 : nq av q_w1 := gv_nf hq_w1 h_av
  have ne37 : nq ky q_w1 := gv_nf hq_w1 h_ky
  have ne38 : nq pl q_w1 := gv_nf hq_w1 h_pl
  have ne39 : nq tb q_w1 := gv_nf hq_w1 h_tb
  have ne40 : nq a q_w1 := gv_nf hq_w1 h_a
  have ne41 : nq c q_w1 := gv_nf hq_w1 h_c
  refine k_astore_n (lv' := [(3, .ref t_w1), (0, .ref mo), (1, .int (nI i)), (2, .int (nI g))]) C dX1_refresh_6 rfl (by decide) rfl ?_
  refine k_aload_n C dX1_refresh_7 rfl 0 rfl ?_
  refine k_get (ci := 4) (k := 3) C fl_1_84 ((gv_up_n (Ne.symm ne19)).trans ((gv_up_n htq_w1).trans gv_up_s)) rfl dX1_refresh_8 ?_
  refine k_aload_n C dX1_refresh_11 rfl 1 rfl ?_
  have ne42 : nq mo tb := gv_ne h_tb h_mo (by simp)
  refine k_get (ci := 1) (k := 0) C fl_1_12 ((gv_up_n ne42).trans ((gv_up_n ne22).trans ((gv_up_n ne2).trans h_mo))) rfl dX1_refresh_12 ?_
  have ne43 : nq tr tb := gv_ne h_tb h_tr (by simp)
  refine k_get (ci := 5) (k := 4) C fl_1_87 ((gv_up_n ne43).trans ((gv_up_n ne23).trans ((gv_up_n ne3).trans h_tr))) rfl dX1_refresh_15 ?_
  refine k_icmp_ne (tgt := 22) C dX1_refresh_18 (by decide) (fun c18 => ?_) (fun c18 => ?_)
  · skip
    refine k_aload_n C dX1_refresh_22 rfl 0 rfl ?_
    refine k_callV_pv C mv_1_90 (c_X4_clear  ((gv_up_n (Ne.symm ne19)).trans ((gv_up_n htq_w1).trans gv_up_s)) ((gv_up_n (Ne.symm ne39)).trans gv_up_s) ) ((gv_up_n (Ne.symm ne19)).trans ((gv_up_n htq_w1).trans gv_up_s)) rfl rfl (by simp [Value.category]) ⟨by decide, by decide⟩ ⟨(by decide), (by decide)⟩ dX1_refresh_23 ?_
    refine k_view (V1 := gv_up (gv_up (gv_up V t_w1 (.inr (4, [.ref q_w1, .int (nI 0), .int (nI 0), .int (-1 : Int32)]))) q_w1 (.inl (cI, 486, .inl (fun _ => 0)))) tb (.inl (cR, 120, .inr (.inr (.inr (.inr (va_up tf (i * 4 + g) (some t_w1)))))))) ((gv_uc (Ne.symm ne19)).trans (congrArg (fun W => gv_up W tb (.inl (cR, 120, .inr (.inr (.inr (.inr (va_up tf (i * 4 + g) (some t_w1)))))))) ((gv_uc htq_w1).trans (congrArg (fun W => gv_up W q_w1 (.inl (cI, 486, .inl (fun _ => 0)))) gv_uu)))) ?_
    refine k_aload_n C dX1_refresh_26 rfl 0 rfl ?_
    refine k_aload_n C dX1_refresh_27 rfl 1 rfl ?_
    refine k_get (ci := 1) (k := 0) C fl_1_12 ((gv_up_n ne42).trans ((gv_up_n ne22).trans ((gv_up_n ne2).trans h_mo))) rfl dX1_refresh_28 ?_
    refine k_get (ci := 5) (k := 4) C fl_1_87 ((gv_up_n ne43).trans ((gv_up_n ne23).trans ((gv_up_n ne3).trans h_tr))) rfl dX1_refresh_31 ?_
    refine k_put (ci := 4) (k := 3) (fs' := [.ref q_w1, .int (nI 0), .int (nI 0), .int (nI nt)]) C fl_1_84 pf_4_3 ((gv_up_n (Ne.symm ne19)).trans ((gv_up_n htq_w1).trans gv_up_s)) rfl rfl (Nat.le_of_ble_eq_true rfl) rfl dX1_refresh_34 ?_
    refine k_view (V1 := gv_up (gv_up (gv_up V t_w1 (.inr (4, [.ref q_w1, .int (nI 0), .int (nI 0), .int (nI nt)]))) q_w1 (.inl (cI, 486, .inl (fun _ => 0)))) tb (.inl (cR, 120, .inr (.inr (.inr (.inr (va_up tf (i * 4 + g) (some t_w1)))))))) ((gv_uc (Ne.symm ne19)).trans (congrArg (fun W => gv_up W tb (.inl (cR, 120, .inr (.inr (.inr (.inr (va_up tf (i * 4 + g) (some t_w1)))))))) ((gv_uc htq_w1).trans (congrArg (fun W => gv_up W q_w1 (.inl (cI, 486, .inl (fun _ => 0)))) gv_uu)))) ?_
    refine k_aload_n C dX1_refresh_37 rfl 1 rfl ?_
    refine k_get (ci := 1) (k := 2) C fl_1_28 ((gv_up_n ne42).trans ((gv_up_n ne22).trans ((gv_up_n ne2).trans h_mo))) rfl dX1_refresh_38 ?_
    refine k_iload_n C dX1_refresh_41 rfl 2 rfl ?_
    have ne44 : nq nd tb := gv_ne h_tb h_nd (by simp)
    have ne45 : nq nl tb := gv_ne h_tb h_nl (by simp)
    refine k_callV_pr C mv_1_60 (c_X3_at  ((gv_up_n ne44).trans ((gv_up_n ne28).trans ((gv_up_n ne8).trans h_nd))) ((gv_up_n ne45).trans ((gv_up_n ne29).trans ((gv_up_n ne9).trans h_nl))) (by first | assumption | omega) hnf) ((gv_up_n ne44).trans ((gv_up_n ne28).trans ((gv_up_n ne8).trans h_nd))) rfl rfl (by simp [Value.category]) ⟨by decide, by decide⟩ ⟨(by decide), (by decide)⟩ dX1_refresh_42 ?_
    refine k_astore (lv' := [(4, .ref no), (3, .ref t_w1), (0, .ref mo), (1, .int (nI i)), (2, .int (nI g))]) C dX1_refresh_45 (by decide) rfl ?_
    refine k_aload C dX1_refresh_47 0 rfl ?_
    have ne46 : nq no tb := gv_ne h_tb h_no (by simp)
    refine k_get (ci := 2) (k := 0) C fl_1_77 ((gv_up_n ne46).trans ((gv_up_n ne30).trans ((gv_up_n ne10).trans h_no))) rfl dX1_refresh_49 ?_
    refine k_bipush (v := nI 12) C dX1_refresh_52 rfl ?_
    refine k_icmp_ne (tgt := 65) C dX1_refresh_54 (by decide) (fun c54 => ?_) (fun c54 => ?_)
    · skip
      exact absurd rfl c54
    · skip
      have b54 : 12 = 12 := (nI_eq (a := 12) (b := 12) (by omega) (by omega)).mp c54
      refine k_aload C dX1_refresh_57 0 rfl ?_
      refine k_get (ci := 2) (k := 13) C fl_1_80 ((gv_up_n ne46).trans ((gv_up_n ne30).trans ((gv_up_n ne10).trans h_no))) rfl dX1_refresh_59 ?_
      refine k_goto (tgt := 66) C dX1_refresh_62 (by decide) ?_
      refine k_istore (lv' := [(5, .int (nI gr0)), (4, .ref no), (3, .ref t_w1), (0, .ref mo), (1, .int (nI i)), (2, .int (nI g))]) C dX1_refresh_66 (by decide) rfl ?_
      refine k_aload C dX1_refresh_68 1 rfl ?_
      refine k_get (ci := 2) (k := 0) C fl_1_77 ((gv_up_n ne46).trans ((gv_up_n ne30).trans ((gv_up_n ne10).trans h_no))) rfl dX1_refresh_70 ?_
      refine k_if_ne (tgt := 87) C dX1_refresh_73 (by decide) (fun c73 => ?_) (fun c73 => ?_)
      · skip
        have b73 : ¬ 12 = 0 := fun z => c73 ((nI_eq (a := 12) (b := 0) (by omega) (by omega)).mpr z)
        refine k_aload C dX1_refresh_87 1 rfl ?_
        refine k_get (ci := 2) (k := 0) C fl_1_77 ((gv_up_n ne46).trans ((gv_up_n ne30).trans ((gv_up_n ne10).trans h_no))) rfl dX1_refresh_89 ?_
        refine k_bipush (v := nI 13) C dX1_refresh_92 rfl ?_
        refine k_icmp_ne (tgt := 107) C dX1_refresh_94 (by decide) (fun c94 => ?_) (fun c94 => ?_)
        · skip
          have b94 : ¬ 12 = 13 := fun z => c94 ((nI_eq (a := 12) (b := 13) (by omega) (by omega)).mpr z)
          refine k_aload C dX1_refresh_107 1 rfl ?_
          refine k_get (ci := 2) (k := 2) C fl_1_74 ((gv_up_n ne46).trans ((gv_up_n ne30).trans ((gv_up_n ne10).trans h_no))) rfl dX1_refresh_109 ?_
          refine k_iconst (v := (-1 : Int32)) C dX1_refresh_112 (by decide) ?_
          refine k_icmp_ne (tgt := 137) C dX1_refresh_113 (by decide) (fun c113 => ?_) (fun c113 => ?_)
          · skip
            exact absurd rfl c113
          · skip
            refine k_aload_n C dX1_refresh_116 rfl 3 rfl ?_
            refine k_aload C dX1_refresh_117 1 rfl ?_
            refine k_aload_n C dX1_refresh_119 rfl 3 rfl ?_
            refine k_aload C dX1_refresh_120 1 rfl ?_
            refine k_get (ci := 2) (k := 1) C fl_1_68 ((gv_up_n ne46).trans ((gv_up_n ne30).trans ((gv_up_n ne10).trans h_no))) rfl dX1_refresh_122 ?_
            refine k_iload C dX1_refresh_125 0 rfl ?_
            refine k_callV_pr C mv_1_56 (c_tableOf  ((gv_up_n ne42).trans ((gv_up_n ne22).trans ((gv_up_n ne2).trans h_mo))) gv_up_s (by first | assumption | omega) (by first | assumption | omega) (by simp only [va_up]; rw [if_neg (by omega)]; exact hta)) ((gv_up_n ne42).trans ((gv_up_n ne22).trans ((gv_up_n ne2).trans h_mo))) rfl rfl (by simp [Value.category]) ⟨by decide, by decide⟩ ⟨(by decide), (by decide)⟩ dX1_refresh_127 ?_
            refine k_aload_n C dX1_refresh_130 rfl 2 rfl ?_
            rcases SA with _ | A
            · skip
              have ne47 : nq xe tb := gv_ne h_tb h_xe (by simp)
              have ne48 : nq ak tb := gv_ne h_tb h_ak (by simp)
              have ne49 : nq af tb := gv_ne h_tb h_af (by simp)
              have ne50 : nq as tb := gv_ne h_tb h_as (by simp)
              have ne51 : nq ap tb := gv_ne h_tb h_ap (by simp)
              have ne52 : nq av tb := gv_ne h_tb h_av (by simp)
              have ne53 : nq a tb := gv_ne h_tb h_a (by simp)
              have ne54 : nq c tb := gv_ne h_tb h_c (by simp)
              have ne55 : nq ky tb := gv_ne h_tb h_ky (by simp)
              have ne56 : nq pl tb := gv_ne h_tb h_pl (by simp)
              refine k_callV C mv_1_101 (c_overL  ((gv_up_n ne42).trans ((gv_up_n ne22).trans ((gv_up_n ne2).trans h_mo))) ((gv_up_n ne46).trans ((gv_up_n ne30).trans ((gv_up_n ne10).trans h_no))) ((gv_up_n ne47).trans ((gv_up_n ne31).trans ((gv_up_n ne11).trans h_xe))) ((gv_up_n ne48).trans ((gv_up_n ne32).trans ((gv_up_n ne12).trans h_ak))) ((gv_up_n ne49).trans ((gv_up_n ne33).trans ((gv_up_n ne13).trans h_af))) ((gv_up_n ne50).trans ((gv_up_n ne34).trans ((gv_up_n ne14).trans h_as))) ((gv_up_n ne51).trans ((gv_up_n ne35).trans ((gv_up_n ne15).trans h_ap))) ((gv_up_n ne52).trans ((gv_up_n ne36).trans ((gv_up_n ne16).trans h_av))) ((gv_up_n ne53).trans ((gv_up_n ne40).trans ((gv_up_n ne20).trans h_a))) ((gv_up_n ne54).trans ((gv_up_n ne41).trans ((gv_up_n ne21).trans h_c))) ((gv_up_n (Ne.symm ne19)).trans ((gv_up_n htq_w1).trans gv_up_s)) ((gv_up_n (Ne.symm ne39)).trans gv_up_s) ((gv_up_n ne55).trans ((gv_up_n ne37).trans ((gv_up_n ne17).trans h_ky))) ((gv_up_n ne56).trans ((gv_up_n ne38).trans ((gv_up_n ne18).trans h_pl))) hSa (by first | assumption | omega) (Ne.symm ne20) (Ne.symm ne41) hky) ((gv_up_n ne42).trans ((gv_up_n ne22).trans ((gv_up_n ne2).trans h_mo))) rfl rfl (by simp [Value.category]) ⟨by decide, by decide⟩ ⟨(by decide), (by decide)⟩ dX1_refresh_131 (fun zv zV zh => ?_)
              obtain ⟨vl1_w57, kf1_w57, pf1_w57, n1_w57, tl1_w57, f1_w57, rfl, rfl, ht1_w57⟩ := zh
              refine k_pc (pc' := 134) (st' := []) rfl rfl ?_
              refine k_view (V1 := gv_up (gv_up (gv_up (gv_up (gv_up (gv_up (gv_up V t_w1 (.inr (4, [.ref q_w1, .int (nI 0), .int (nI 0), .int (nI nt)]))) q_w1 (.inl (cI, 486, .inl f1_w57))) tb (.inl (cR, 120, .inr (.inr (.inr (.inr (va_up tf (i * 4 + g) (some t_w1)))))))) av (.inl (cI, 30, .inl vl1_w57))) ky (.inl (cI, 80, .inl kf1_w57))) pl (.inl (cI, 80, .inl pf1_w57))) t_w1 (.inr (4, [.ref q_w1, .int (nI n1_w57), .int tl1_w57, .int (nI nt)]))) (congrArg (fun W => gv_up W t_w1 (.inr (4, [.ref q_w1, .int (nI n1_w57), .int tl1_w57, .int (nI nt)]))) ((gv_uc (Ne.symm ne38)).trans (congrArg (fun W => gv_up W pl (.inl (cI, 80, .inl pf1_w57))) ((gv_uc (Ne.symm ne37)).trans (congrArg (fun W => gv_up W ky (.inl (cI, 80, .inl kf1_w57))) ((gv_uc (Ne.symm ne36)).trans (congrArg (fun W => gv_up W av (.inl (cI, 30, .inl vl1_w57))) ((gv_uc (Ne.symm ne39)).trans (congrArg (fun W => gv_up W tb (.inl (cR, 120, .inr (.inr (.inr (.inr (va_up tf (i * 4 + g) (some t_w1)))))))) gv_uu))))))))) ?_
              refine k_view (V1 := gv_up (gv_up (gv_up (gv_up (gv_up (gv_up V t_w1 (.inr (4, [.ref q_w1, .int (nI n1_w57), .int tl1_w57, .int (nI nt)]))) q_w1 (.inl (cI, 486, .inl f1_w57))) tb (.inl (cR, 120, .inr (.inr (.inr (.inr (va_up tf (i * 4 + g) (some t_w1)))))))) av (.inl (cI, 30, .inl vl1_w57))) ky (.inl (cI, 80, .inl kf1_w57))) pl (.inl (cI, 80, .inl pf1_w57))) ((gv_uc (Ne.symm ne18)).trans (congrArg (fun W => gv_up W pl (.inl (cI, 80, .inl pf1_w57))) ((gv_uc (Ne.symm ne17)).trans (congrArg (fun W => gv_up W ky (.inl (cI, 80, .inl kf1_w57))) ((gv_uc (Ne.symm ne16)).trans (congrArg (fun W => gv_up W av (.inl (cI, 30, .inl vl1_w57))) ((gv_uc (Ne.symm ne19)).trans (congrArg (fun W => gv_up W tb (.inl (cR, 120, .inr (.inr (.inr (.inr (va_up tf (i * 4 + g) (some t_w1)))))))) ((gv_uc htq_w1).trans (congrArg (fun W => gv_up W q_w1 (.inl (cI, 486, .inl f1_w57))) gv_uu)))))))))) ?_
              refine k_goto (tgt := 166) C dX1_refresh_134 (by decide) ?_
              refine k_view (V1 := gv_up (gv_up (gv_up (gv_up (gv_up (gv_up V t_w1 (.inr (4, [.ref q_w1, .int (nI n1_w57), .int tl1_w57, .int (nI nt)]))) q_w1 (.inl (cI, 486, .inl f1_w57))) av (.inl (cI, 30, .inl vl1_w57))) tb (.inl (cR, 120, .inr (.inr (.inr (.inr (va_up tf (i * 4 + g) (some t_w1)))))))) ky (.inl (cI, 80, .inl kf1_w57))) pl (.inl (cI, 80, .inl pf1_w57))) (congrArg (fun W => gv_up W pl (.inl (cI, 80, .inl pf1_w57))) (congrArg (fun W => gv_up W ky (.inl (cI, 80, .inl kf1_w57))) (gv_uc ne52))) ?_
              refine k_view (V1 := gv_up (gv_up (gv_up (gv_up (gv_up (gv_up V t_w1 (.inr (4, [.ref q_w1, .int (nI n1_w57), .int tl1_w57, .int (nI nt)]))) av (.inl (cI, 30, .inl vl1_w57))) q_w1 (.inl (cI, 486, .inl f1_w57))) tb (.inl (cR, 120, .inr (.inr (.inr (.inr (va_up tf (i * 4 + g) (some t_w1)))))))) ky (.inl (cI, 80, .inl kf1_w57))) pl (.inl (cI, 80, .inl pf1_w57))) (congrArg (fun W => gv_up W pl (.inl (cI, 80, .inl pf1_w57))) (congrArg (fun W => gv_up W ky (.inl (cI, 80, .inl kf1_w57))) (congrArg (fun W => gv_up W tb (.inl (cR, 120, .inr (.inr (.inr (.inr (va_up tf (i * 4 + g) (some t_w1)))))))) (gv_uc ne36)))) ?_
              refine k_view (V1 := gv_up (gv_up (gv_up (gv_up (gv_up (gv_up V av (.inl (cI, 30, .inl vl1_w57))) t_w1 (.inr (4, [.ref q_w1, .int (nI n1_w57), .int tl1_w57, .int (nI nt)]))) q_w1 (.inl (cI, 486, .inl f1_w57))) tb (.inl (cR, 120, .inr (.inr (.inr (.inr (va_up tf (i * 4 + g) (some t_w1)))))))) ky (.inl (cI, 80, .inl kf1_w57))) pl (.inl (cI, 80, .inl pf1_w57))) (congrArg (fun W => gv_up W pl (.inl (cI, 80, .inl pf1_w57))) (congrArg (fun W => gv_up W ky (.inl (cI, 80, .inl kf1_w57))) (congrArg (fun W => gv_up W tb (.inl (cR, 120, .inr (.inr (.inr (.inr (va_up tf (i * 4 + g) (some t_w1)))))))) (congrArg (fun W => gv_up W q_w1 (.inl (cI, 486, .inl f1_w57))) (gv_uc ne16))))) ?_
              refine k_view (V1 := gv_up (gv_up (gv_up (gv_up (gv_up (gv_up V av (.inl (cI, 30, .inl vl1_w57))) t_w1 (.inr (4, [.ref q_w1, .int (nI n1_w57), .int tl1_w57, .int (nI nt)]))) q_w1 (.inl (cI, 486, .inl f1_w57))) ky (.inl (cI, 80, .inl kf1_w57))) tb (.inl (cR, 120, .inr (.inr (.inr (.inr (va_up tf (i * 4 + g) (some t_w1)))))))) pl (.inl (cI, 80, .inl pf1_w57))) (congrArg (fun W => gv_up W pl (.inl (cI, 80, .inl pf1_w57))) (gv_uc ne55)) ?_
              refine k_view (V1 := gv_up (gv_up (gv_up (gv_up (gv_up (gv_up V av (.inl (cI, 30, .inl vl1_w57))) t_w1 (.inr (4, [.ref q_w1, .int (nI n1_w57), .int tl1_w57, .int (nI nt)]))) ky (.inl (cI, 80, .inl kf1_w57))) q_w1 (.inl (cI, 486, .inl f1_w57))) tb (.inl (cR, 120, .inr (.inr (.inr (.inr (va_up tf (i * 4 + g) (some t_w1)))))))) pl (.inl (cI, 80, .inl pf1_w57))) (congrArg (fun W => gv_up W pl (.inl (cI, 80, .inl pf1_w57))) (congrArg (fun W => gv_up W tb (.inl (cR, 120, .inr (.inr (.inr (.inr (va_up tf (i * 4 + g) (some t_w1)))))))) (gv_uc ne37))) ?_
              refine k_view (V1 := gv_up (gv_up (gv_up (gv_up (gv_up (gv_up V av (.inl (cI, 30, .inl vl1_w57))) ky (.inl (cI, 80, .inl kf1_w57))) t_w1 (.inr (4, [.ref q_w1, .int (nI n1_w57), .int tl1_w57, .int (nI nt)]))) q_w1 (.inl (cI, 486, .inl f1_w57))) tb (.inl (cR, 120, .inr (.inr (.inr (.inr (va_up tf (i * 4 + g) (some t_w1)))))))) pl (.inl (cI, 80, .inl pf1_w57))) (congrArg (fun W => gv_up W pl (.inl (cI, 80, .inl pf1_w57))) (congrArg (fun W => gv_up W tb (.inl (cR, 120, .inr (.inr (.inr (.inr (va_up tf (i * 4 + g) (some t_w1)))))))) (congrArg (fun W => gv_up W q_w1 (.inl (cI, 486, .inl f1_w57))) (gv_uc ne17)))) ?_
              refine k_view (V1 := gv_up (gv_up (gv_up (gv_up (gv_up (gv_up V av (.inl (cI, 30, .inl vl1_w57))) ky (.inl (cI, 80, .inl kf1_w57))) t_w1 (.inr (4, [.ref q_w1, .int (nI n1_w57), .int tl1_w57, .int (nI nt)]))) q_w1 (.inl (cI, 486, .inl f1_w57))) pl (.inl (cI, 80, .inl pf1_w57))) tb (.inl (cR, 120, .inr (.inr (.inr (.inr (va_up tf (i * 4 + g) (some t_w1)))))))) (gv_uc ne56) ?_
              refine k_view (V1 := gv_up (gv_up (gv_up (gv_up (gv_up (gv_up V av (.inl (cI, 30, .inl vl1_w57))) ky (.inl (cI, 80, .inl kf1_w57))) t_w1 (.inr (4, [.ref q_w1, .int (nI n1_w57), .int tl1_w57, .int (nI nt)]))) pl (.inl (cI, 80, .inl pf1_w57))) q_w1 (.inl (cI, 486, .inl f1_w57))) tb (.inl (cR, 120, .inr (.inr (.inr (.inr (va_up tf (i * 4 + g) (some t_w1)))))))) (congrArg (fun W => gv_up W tb (.inl (cR, 120, .inr (.inr (.inr (.inr (va_up tf (i * 4 + g) (some t_w1)))))))) (gv_uc ne38)) ?_
              refine k_view (V1 := gv_up (gv_up (gv_up (gv_up (gv_up (gv_up V av (.inl (cI, 30, .inl vl1_w57))) ky (.inl (cI, 80, .inl kf1_w57))) pl (.inl (cI, 80, .inl pf1_w57))) t_w1 (.inr (4, [.ref q_w1, .int (nI n1_w57), .int tl1_w57, .int (nI nt)]))) q_w1 (.inl (cI, 486, .inl f1_w57))) tb (.inl (cR, 120, .inr (.inr (.inr (.inr (va_up tf (i * 4 + g) (some t_w1)))))))) (congrArg (fun W => gv_up W tb (.inl (cR, 120, .inr (.inr (.inr (.inr (va_up tf (i * 4 + g) (some t_w1)))))))) (congrArg (fun W => gv_up W q_w1 (.inl (cI, 486, .inl f1_w57))) (gv_uc ne18))) ?_
              refine k_view (V1 := gv_up (gv_up (gv_up (gv_up (gv_up (gv_up V av (.inl (cI, 30, .inl vl1_w57))) ky (.inl (cI, 80, .inl kf1_w57))) pl (.inl (cI, 80, .inl pf1_w57))) q_w1 (.inl (cI, 486, .inl f1_w57))) t_w1 (.inr (4, [.ref q_w1, .int (nI n1_w57), .int tl1_w57, .int (nI nt)]))) tb (.inl (cR, 120, .inr (.inr (.inr (.inr (va_up tf (i * 4 + g) (some t_w1)))))))) (congrArg (fun W => gv_up W tb (.inl (cR, 120, .inr (.inr (.inr (.inr (va_up tf (i * 4 + g) (some t_w1)))))))) (gv_uc (Ne.symm htq_w1))) ?_
              exact k_vret C zr zlk ⟨t_w1, q_w1, vl1_w57, kf1_w57, pf1_w57, n1_w57, tl1_w57, f1_w57, rfl, rfl, ht1_w1, hq_w1, htq_w1, ht1_w57⟩ (Nat.le_refl _) (Nat.le_refl _) dX1_refresh_166
            · skip
              have ne58 : nq xe tb := gv_ne h_tb h_xe (by simp)
              have ne59 : nq ak tb := gv_ne h_tb h_ak (by simp)
              have ne60 : nq af tb := gv_ne h_tb h_af (by simp)
              have ne61 : nq as tb := gv_ne h_tb h_as (by simp)
              have ne62 : nq ap tb := gv_ne h_tb h_ap (by simp)
              have ne63 : nq av tb := gv_ne h_tb h_av (by simp)
              have ne64 : nq a tb := gv_ne h_tb h_a (by simp)
              have ne65 : nq c tb := gv_ne h_tb h_c (by simp)
              have ne66 : nq ky tb := gv_ne h_tb h_ky (by simp)
              have ne67 : nq pl tb := gv_ne h_tb h_pl (by simp)
              refine k_callV C mv_1_101 (c_over12  ((gv_up_n ne42).trans ((gv_up_n ne22).trans ((gv_up_n ne2).trans h_mo))) ((gv_up_n ne46).trans ((gv_up_n ne30).trans ((gv_up_n ne10).trans h_no))) ((gv_up_n ne58).trans ((gv_up_n ne31).trans ((gv_up_n ne11).trans h_xe))) ((gv_up_n ne59).trans ((gv_up_n ne32).trans ((gv_up_n ne12).trans h_ak))) ((gv_up_n ne60).trans ((gv_up_n ne33).trans ((gv_up_n ne13).trans h_af))) ((gv_up_n ne61).trans ((gv_up_n ne34).trans ((gv_up_n ne14).trans h_as))) ((gv_up_n ne62).trans ((gv_up_n ne35).trans ((gv_up_n ne15).trans h_ap))) ((gv_up_n ne63).trans ((gv_up_n ne36).trans ((gv_up_n ne16).trans h_av))) ((gv_up_n ne64).trans ((gv_up_n ne40).trans ((gv_up_n ne20).trans h_a))) ((gv_up_n ne65).trans ((gv_up_n ne41).trans ((gv_up_n ne21).trans h_c))) ((gv_up_n (Ne.symm ne19)).trans ((gv_up_n htq_w1).trans gv_up_s)) ((gv_up_n (Ne.symm ne39)).trans gv_up_s) ((gv_up_n ne66).trans ((gv_up_n ne37).trans ((gv_up_n ne17).trans h_ky))) ((gv_up_n ne67).trans ((gv_up_n ne38).trans ((gv_up_n ne18).trans h_pl))) (by first | assumption | omega) (by first | assumption | omega) hSa.2 (Ne.symm ne20) (Ne.symm ne41) hSa.1 hky) ((gv_up_n ne42).trans ((gv_up_n ne22).trans ((gv_up_n ne2).trans h_mo))) rfl rfl (by simp [Value.category]) ⟨by decide, by decide⟩ ⟨(by decide), (by decide)⟩ dX1_refresh_131 (fun zv zV zh => ?_)
              obtain ⟨vl1_w68, kf1_w68, pf1_w68, n1_w68, tl1_w68, f1_w68, rfl, rfl, ht1_w68⟩ := zh
              refine k_pc (pc' := 134) (st' := []) rfl rfl ?_
              refine k_view (V1 := gv_up (gv_up (gv_up (gv_up (gv_up (gv_up (gv_up V t_w1 (.inr (4, [.ref q_w1, .int (nI 0), .int (nI 0), .int (nI nt)]))) q_w1 (.inl (cI, 486, .inl f1_w68))) tb (.inl (cR, 120, .inr (.inr (.inr (.inr (va_up tf (i * 4 + g) (some t_w1)))))))) av (.inl (cI, 30, .inl vl1_w68))) ky (.inl (cI, 80, .inl kf1_w68))) pl (.inl (cI, 80, .inl pf1_w68))) t_w1 (.inr (4, [.ref q_w1, .int (nI n1_w68), .int tl1_w68, .int (nI nt)]))) (congrArg (fun W => gv_up W t_w1 (.inr (4, [.ref q_w1, .int (nI n1_w68), .int tl1_w68, .int (nI nt)]))) ((gv_uc (Ne.symm ne38)).trans (congrArg (fun W => gv_up W pl (.inl (cI, 80, .inl pf1_w68))) ((gv_uc (Ne.symm ne37)).trans (congrArg (fun W => gv_up W ky (.inl (cI, 80, .inl kf1_w68))) ((gv_uc (Ne.symm ne36)).trans (congrArg (fun W => gv_up W av (.inl (cI, 30, .inl vl1_w68))) ((gv_uc (Ne.symm ne39)).trans (congrArg (fun W => gv_up W tb (.inl (cR, 120, .inr (.inr (.inr (.inr (va_up tf (i * 4 + g) (some t_w1)))))))) gv_uu))))))))) ?_
              refine k_view (V1 := gv_up (gv_up (gv_up (gv_up (gv_up (gv_up V t_w1 (.inr (4, [.ref q_w1, .int (nI n1_w68), .int tl1_w68, .int (nI nt)]))) q_w1 (.inl (cI, 486, .inl f1_w68))) tb (.inl (cR, 120, .inr (.inr (.inr (.inr (va_up tf (i * 4 + g) (some t_w1)))))))) av (.inl (cI, 30, .inl vl1_w68))) ky (.inl (cI, 80, .inl kf1_w68))) pl (.inl (cI, 80, .inl pf1_w68))) ((gv_uc (Ne.symm ne18)).trans (congrArg (fun W => gv_up W pl (.inl (cI, 80, .inl pf1_w68))) ((gv_uc (Ne.symm ne17)).trans (congrArg (fun W => gv_up W ky (.inl (cI, 80, .inl kf1_w68))) ((gv_uc (Ne.symm ne16)).trans (congrArg (fun W => gv_up W av (.inl (cI, 30, .inl vl1_w68))) ((gv_uc (Ne.symm ne19)).trans (congrArg (fun W => gv_up W tb (.inl (cR, 120, .inr (.inr (.inr (.inr (va_up tf (i * 4 + g) (some t_w1)))))))) ((gv_uc htq_w1).trans (congrArg (fun W => gv_up W q_w1 (.inl (cI, 486, .inl f1_w68))) gv_uu)))))))))) ?_
              refine k_goto (tgt := 166) C dX1_refresh_134 (by decide) ?_
              refine k_view (V1 := gv_up (gv_up (gv_up (gv_up (gv_up (gv_up V t_w1 (.inr (4, [.ref q_w1, .int (nI n1_w68), .int tl1_w68, .int (nI nt)]))) q_w1 (.inl (cI, 486, .inl f1_w68))) av (.inl (cI, 30, .inl vl1_w68))) tb (.inl (cR, 120, .inr (.inr (.inr (.inr (va_up tf (i * 4 + g) (some t_w1)))))))) ky (.inl (cI, 80, .inl kf1_w68))) pl (.inl (cI, 80, .inl pf1_w68))) (congrArg (fun W => gv_up W pl (.inl (cI, 80, .inl pf1_w68))) (congrArg (fun W => gv_up W ky (.inl (cI, 80, .inl kf1_w68))) (gv_uc ne63))) ?_
              refine k_view (V1 := gv_up (gv_up (gv_up (gv_up (gv_up (gv_up V t_w1 (.inr (4, [.ref q_w1, .int (nI n1_w68), .int tl1_w68, .int (nI nt)]))) av (.inl (cI, 30, .inl vl1_w68))) q_w1 (.inl (cI, 486, .inl f1_w68))) tb (.inl (cR, 120, .inr (.inr (.inr (.inr (va_up tf (i * 4 + g) (some t_w1)))))))) ky (.inl (cI, 80, .inl kf1_w68))) pl (.inl (cI, 80, .inl pf1_w68))) (congrArg (fun W => gv_up W pl (.inl (cI, 80, .inl pf1_w68))) (congrArg (fun W => gv_up W ky (.inl (cI, 80, .inl kf1_w68))) (congrArg (fun W => gv_up W tb (.inl (cR, 120, .inr (.inr (.inr (.inr (va_up tf (i * 4 + g) (some t_w1)))))))) (gv_uc ne36)))) ?_
              refine k_view (V1 := gv_up (gv_up (gv_up (gv_up (gv_up (gv_up V av (.inl (cI, 30, .inl vl1_w68))) t_w1 (.inr (4, [.ref q_w1, .int (nI n1_w68), .int tl1_w68, .int (nI nt)]))) q_w1 (.inl (cI, 486, .inl f1_w68))) tb (.inl (cR, 120, .inr (.inr (.inr (.inr (va_up tf (i * 4 + g) (some t_w1)))))))) ky (.inl (cI, 80, .inl kf1_w68))) pl (.inl (cI, 80, .inl pf1_w68))) (congrArg (fun W => gv_up W pl (.inl (cI, 80, .inl pf1_w68))) (congrArg (fun W => gv_up W ky (.inl (cI, 80, .inl kf1_w68))) (congrArg (fun W => gv_up W tb (.inl (cR, 120, .inr (.inr (.inr (.inr (va_up tf (i * 4 + g) (some t_w1)))))))) (congrArg (fun W => gv_up W q_w1 (.inl (cI, 486, .inl f1_w68))) (gv_uc ne16))))) ?_
              refine k_view (V1 := gv_up (gv_up (gv_up (gv_up (gv_up (gv_up V av (.inl (cI, 30, .inl vl1_w68))) t_w1 (.inr (4, [.ref q_w1, .int (nI n1_w68), .int tl1_w68, .int (nI nt)]))) q_w1 (.inl (cI, 486, .inl f1_w68))) ky (.inl (cI, 80, .inl kf1_w68))) tb (.inl (cR, 120, .inr (.inr (.inr (.inr (va_up tf (i * 4 + g) (some t_w1)))))))) pl (.inl (cI, 80, .inl pf1_w68))) (congrArg (fun W => gv_up W pl (.inl (cI, 80, .inl pf1_w68))) (gv_uc ne66)) ?_
              refine k_view (V1 := gv_up (gv_up (gv_up (gv_up (gv_up (gv_up V av (.inl (cI, 30, .inl vl1_w68))) t_w1 (.inr (4, [.ref q_w1, .int (nI n1_w68), .int tl1_w68, .int (nI nt)]))) ky (.inl (cI, 80, .inl kf1_w68))) q_w1 (.inl (cI, 486, .inl f1_w68))) tb (.inl (cR, 120, .inr (.inr (.inr (.inr (va_up tf (i * 4 + g) (some t_w1)))))))) pl (.inl (cI, 80, .inl pf1_w68))) (congrArg (fun W => gv_up W pl (.inl (cI, 80, .inl pf1_w68))) (congrArg (fun W => gv_up W tb (.inl (cR, 120, .inr (.inr (.inr (.inr (va_up tf (i * 4 + g) (some t_w1)))))))) (gv_uc ne37))) ?_
              refine k_view (V1 := gv_up (gv_up (gv_up (gv_up (gv_up (gv_up V av (.inl (cI, 30, .inl vl1_w68))) ky (.inl (cI, 80, .inl kf1_w68))) t_w1 (.inr (4, [.ref q_w1, .int (nI n1_w68), .int tl1_w68, .int (nI nt)]))) q_w1 (.inl (cI, 486, .inl f1_w68))) tb (.inl (cR, 120, .inr (.inr (.inr (.inr (va_up tf (i * 4 + g) (some t_w1)))))))) pl (.inl (cI, 80, .inl pf1_w68))) (congrArg (fun W => gv_up W pl (.inl (cI, 80, .inl pf1_w68))) (congrArg (fun W => gv_up W tb (.inl (cR, 120, .inr (.inr (.inr (.inr (va_up tf (i * 4 + g) (some t_w1)))))))) (congrArg (fun W => gv_up W q_w1 (.inl (cI, 486, .inl f1_w68))) (gv_uc ne17)))) ?_
              refine k_view (V1 := gv_up (gv_up (gv_up (gv_up (gv_up (gv_up V av (.inl (cI, 30, .inl vl1_w68))) ky (.inl (cI, 80, .inl kf1_w68))) t_w1 (.inr (4, [.ref q_w1, .int (nI n1_w68), .int tl1_w68, .int (nI nt)]))) q_w1 (.inl (cI, 486, .inl f1_w68))) pl (.inl (cI, 80, .inl pf1_w68))) tb (.inl (cR, 120, .inr (.inr (.inr (.inr (va_up tf (i * 4 + g) (some t_w1)))))))) (gv_uc ne67) ?_
              refine k_view (V1 := gv_up (gv_up (gv_up (gv_up (gv_up (gv_up V av (.inl (cI, 30, .inl vl1_w68))) ky (.inl (cI, 80, .inl kf1_w68))) t_w1 (.inr (4, [.ref q_w1, .int (nI n1_w68), .int tl1_w68, .int (nI nt)]))) pl (.inl (cI, 80, .inl pf1_w68))) q_w1 (.inl (cI, 486, .inl f1_w68))) tb (.inl (cR, 120, .inr (.inr (.inr (.inr (va_up tf (i * 4 + g) (some t_w1)))))))) (congrArg (fun W => gv_up W tb (.inl (cR, 120, .inr (.inr (.inr (.inr (va_up tf (i * 4 + g) (some t_w1)))))))) (gv_uc ne38)) ?_
              refine k_view (V1 := gv_up (gv_up (gv_up (gv_up (gv_up (gv_up V av (.inl (cI, 30, .inl vl1_w68))) ky (.inl (cI, 80, .inl kf1_w68))) pl (.inl (cI, 80, .inl pf1_w68))) t_w1 (.inr (4, [.ref q_w1, .int (nI n1_w68), .int tl1_w68, .int (nI nt)]))) q_w1 (.inl (cI, 486, .inl f1_w68))) tb (.inl (cR, 120, .inr (.inr (.inr (.inr (va_up tf (i * 4 + g) (some t_w1)))))))) (congrArg (fun W => gv_up W tb (.inl (cR, 120, .inr (.inr (.inr (.inr (va_up tf (i * 4 + g) (some t_w1)))))))) (congrArg (fun W => gv_up W q_w1 (.inl (cI, 486, .inl f1_w68))) (gv_uc ne18))) ?_
              refine k_view (V1 := gv_up (gv_up (gv_up (gv_up (gv_up (gv_up V av (.inl (cI, 30, .inl vl1_w68))) ky (.inl (cI, 80, .inl kf1_w68))) pl (.inl (cI, 80, .inl pf1_w68))) q_w1 (.inl (cI, 486, .inl f1_w68))) t_w1 (.inr (4, [.ref q_w1, .int (nI n1_w68), .int tl1_w68, .int (nI nt)]))) tb (.inl (cR, 120, .inr (.inr (.inr (.inr (va_up tf (i * 4 + g) (some t_w1)))))))) (congrArg (fun W => gv_up W tb (.inl (cR, 120, .inr (.inr (.inr (.inr (va_up tf (i * 4 + g) (some t_w1)))))))) (gv_uc (Ne.symm htq_w1))) ?_
              exact k_vret C zr zlk ⟨t_w1, q_w1, vl1_w68, kf1_w68, pf1_w68, n1_w68, tl1_w68, f1_w68, rfl, rfl, ht1_w1, hq_w1, htq_w1, ht1_w68⟩ (Nat.le_refl _) (Nat.le_refl _) dX1_refresh_166
        · skip
          exact absurd c94 (by decide)
      · skip
        exact absurd c73 (by decide)
  · skip
    exact absurd c18.symm (nI_n1 (by omega))
set_option maxHeartbeats 4000000 in
set_option maxRecDepth 100000 in
theorem c_ref1N {zl : Launch} {D : va_G} {cI cN cR : ClassId} {base : Nat} {V : gv_V} {mo tr nd tb wg ky pl : Nat} {tga tsa tpa tqa nt : Nat} {tg ts tp tq : Nat → Int32} {nl nn : Nat} {nf : Nat → Option Nat} {no : Nat} {ps pp po ex va st fr ln dn ag gr : Int32} {xe ak af as ap av ne : Nat} {kd fs sc pt vl : Nat → Int32} {kf pf : Nat → Int32} {tf : Nat → Option Nat} {i g a0 b0 : Nat} {E : Nat → Ex} {a c n : Nat} {tl mk : Int32} {f : Nat → Int32} {SA : Option (List Row)} {b c2 n2 : Nat} {tl2 mk2 : Int32} {g2 : Nat → Int32} {SB : Option (List Row)}  (h_mo : V mo = some (.inr (1, [.ref tr, .ref xe, .ref nd, .ref tb, .ref wg, .ref ky, .ref pl]))) (h_tr : V tr = some (.inr (5, [.ref tga, .ref tsa, .ref tpa, .ref tqa, .int (nI nt)]))) (h_tga : V tga = some (.inl (cI, 60, .inl tg))) (h_tsa : V tsa = some (.inl (cI, 60, .inl ts))) (h_tpa : V tpa = some (.inl (cI, 60, .inl tp))) (h_tqa : V tqa = some (.inl (cI, 60, .inl tq))) (h_nd : V nd = some (.inr (3, [.ref nl, .int (nI nn)]))) (h_nl : V nl = some (.inl (cN, 30, .inr (.inr (.inr (.inr nf)))))) (h_no : V no = some (.inr (2, [.int (nI 1), .int (nI a0), .int (nI b0), .int ps, .int pp, .int po, .int ex, .int va, .int st, .int fr, .int ln, .int dn, .int ag, .int gr]))) (h_xe : V xe = some (.inr (0, [.ref ak, .ref af, .ref as, .ref ap, .ref av, .int (nI ne)]))) (h_ak : V ak = some (.inl (cI, 30, .inl kd))) (h_af : V af = some (.inl (cI, 30, .inl fs))) (h_as : V as = some (.inl (cI, 30, .inl sc))) (h_ap : V ap = some (.inl (cI, 30, .inl pt))) (h_av : V av = some (.inl (cI, 30, .inl vl))) (h_ky : V ky = some (.inl (cI, 80, .inl kf))) (h_pl : V pl = some (.inl (cI, 80, .inl pf))) (h_tb : V tb = some (.inl (cR, 120, .inr (.inr (.inr (.inr tf)))))) (h_a : V a = some (.inr (4, [.ref c, .int (nI n), .int tl, .int mk]))) (h_c : V c = some (.inl (cI, 486, .inl f))) (h_b : V b = some (.inr (4, [.ref c2, .int (nI n2), .int tl2, .int mk2]))) (h_c2 : V c2 = some (.inl (cI, 486, .inl g2))) (hX : ExR E ne kd fs sc pt) (hd : [ak, af, as, ap, av].Nodup) (hi : i < 30) (hg : g < 4) (hnf : nf i = some no) (hky : nq ky pl) (hnt : nt ≤ 60) (ht : tf (i * 4 + g) = none) (ha0 : a0 < i) (hta : tf (a0 * 4 + g) = some a) (hSa : TRep SA n tl f) (hb0 : b0 < i) (htb : tf (b0 * 4 + g) = some b) (hSb : TRep SB n2 tl2 g2) : ct zl D [(cI, .int), (cN, .object "AlgebraTree$Node"), (cR, .object "AlgebraTree$Rows")] base yX1_refresh cX1_refresh 6 none 5 2 490 [.ref mo, .int (nI i), .int (nI g)] V (fun zv zV => ∃ t : Nat, ∃ q : Nat, ∃ vl1 : Nat → Int32, ∃ kf1 : Nat → Int32, ∃ pf1 : Nat → Int32, ∃ n1 : Nat, ∃ tl1 : Int32, ∃ f1 : Nat → Int32, zv = none ∧ zV = gv_up (gv_up (gv_up (gv_up (gv_up (gv_up V av (.inl (cI, 30, .inl vl1))) ky (.inl (cI, 80, .inl kf1))) pl (.inl (cI, 80, .inl pf1))) q (.inl (cI, 486, .inl f1))) t (.inr (4, [.ref q, .int (nI n1), .int tl1, .int (nI nt)]))) tb (.inl (cR, 120, .inr (.inr (.inr (.inr (va_up tf (i * 4 + g) (some t))))))) ∧ (V t = none) ∧ (V q = none) ∧ (nq t q) ∧ (TRep (SA.bind (fun A => SB.bind (fun B => cap (joinL A B)))) n1 tl1 f1)) := by
  refine ct_of "AlgebraTree$Maker" rfl (by decide) (Nat.le_of_ble_eq_true rfl) ?_
  intro zp ze zs zm zargs zbelow zmeth zc C zr zlk znm
  refine k_pc (pc' := 0) (st' := []) rfl rfl ?_
  show K zp zl ze (gv_rm 5 2 490) zs zm zargs zbelow zmeth zc D base 6 (gv_E D [(cI, .int), (cN, .object "AlgebraTree$Node"), (cR, .object "AlgebraTree$Rows")] base zbelow zargs zs 2 490 (fun zv zV => ∃ t : Nat, ∃ q : Nat, ∃ vl1 : Nat → Int32, ∃ kf1 : Nat → Int32, ∃ pf1 : Nat → Int32, ∃ n1 : Nat, ∃ tl1 : Int32, ∃ f1 : Nat → Int32, zv = none ∧ zV = gv_up (gv_up (gv_up (gv_up (gv_up (gv_up V av (.inl (cI, 30, .inl vl1))) ky (.inl (cI, 80, .inl kf1))) pl (.inl (cI, 80, .inl pf1))) q (.inl (cI, 486, .inl f1))) t (.inr (4, [.ref q, .int (nI n1), .int tl1, .int (nI nt)]))) tb (.inl (cR, 120, .inr (.inr (.inr (.inr (va_up tf (i * 4 + g) (some t))))))) ∧ (V t = none) ∧ (V q = none) ∧ (nq t q) ∧ (TRep (SA.bind (fun A => SB.bind (fun B => cap (joinL A B)))) n1 tl1 f1))) V 0 0 [(0, .ref mo), (1, .int (nI i)), (2, .int (nI g))] 0 []
  refine k_aload_n C dX1_refresh_0 rfl 0 rfl ?_
  refine k_iload_n C dX1_refresh_1 rfl 1 rfl ?_
  refine k_iload_n C dX1_refresh_2 rfl 2 rfl ?_
  refine k_callV C mv_1_56 (c_tableOfN  h_mo h_tb (by first | assumption | omega) (by first | assumption | omega) (by first | assumption | omega)) h_mo rfl rfl (by simp [Value.category]) ⟨by decide, by decide⟩ ⟨(by decide), (by decide)⟩ dX1_refresh_3 (fun zv zV zh => ?_)
  obtain ⟨t_w1, q_w1, rfl, rfl, ht1_w1, hq_w1, htq_w1⟩ := zh
  refine k_pc (pc' := 6) (st' := .ref t_w1 :: []) rfl rfl ?_
  have ne2 : nq mo t_w1 := gv_nf ht1_w1 h_mo
  have ne3 : nq tr t_w1 := gv_nf ht1_w1 h_tr
  have ne4 : nq tga t_w1 := gv_nf ht1_w1 h_tga
  have ne5 : nq tsa t_w1 := gv_nf ht1_w1 h_tsa
  have ne6 : nq tpa t_w1 := gv_nf ht1_w1 h_tpa
  have ne7 : nq tqa t_w1 := gv_nf ht1_w1 h_tqa
  have ne8 : nq nd t_w1 := gv_nf ht1_w1 h_nd
  have ne9 : nq nl t_w1 := gv_nf ht1_w1 h_nl
  have ne10 : nq no t_w1 := gv_nf ht1_w1 h_no
  have ne11 : nq xe t_w1 := gv_nf ht1_w1 h_xe
  have ne12 : nq ak t_w1 := gv_nf ht1_w1 h_ak
  have ne13 : nq af t_w1 := gv_nf ht1_w1 h_af
  have ne14 : nq as t_w1 := gv_nf ht1_w1 h_as
  have ne15 : nq ap t_w1 := gv_nf ht1_w1 h_ap
  have ne16 : nq av t_w1 := gv_nf ht1_w1 h_av
  have ne17 : nq ky t_w1 := gv_nf ht1_w1 h_ky
  have ne18 : nq pl t_w1 := gv_nf ht1_w1 h_pl
  have ne19 : nq tb t_w1 := gv_nf ht1_w1 h_tb
  have ne20 : nq a t_w1 := gv_nf ht1_w1 h_a
  have ne21 : nq c t_w1 := gv_nf ht1_w1 h_c
  have ne22 : nq b t_w1 := gv_nf ht1_w1 h_b
  have ne23 : nq c2 t_w1 := gv_nf ht1_w1 h_c2
  have ne24 : nq mo q_w1 := gv_nf hq_w1 h_mo
  have ne25 : nq tr q_w1 := gv_nf hq_w1 h_tr
  have ne26 : nq tga q_w1 := gv_nf hq_w1 h_tga
  have ne27 : nq tsa q_w1 := gv_nf hq_w1 h_tsa
  have ne28 : nq tpa q_w1 := gv_nf hq_w1 h_tpa
  have ne29 : nq tqa q_w1 := gv_nf hq_w1 h_tqa
  have ne30 : nq nd q_w1 := gv_nf hq_w1 h_nd
  have ne31 : nq nl q_w1 := gv_nf hq_w1 h_nl
  have ne32 : nq no q_w1 := gv_nf hq_w1 h_no
  have ne33 : nq xe q_w1 := gv_nf hq_w1 h_xe
  have ne34 : nq ak q_w1 := gv_nf hq_w1 h_ak
  have ne35 : nq af q_w1 := gv_nf hq_w1 h_af
  have ne36 : nq as q_w1 := gv_nf hq_w1 h_as
  have ne37 : nq ap q_w1 := gv_nf hq_w1 h_ap
  have ne38 : nq av q_w1 := gv_nf hq_w1 h_av
  have ne39 : nq ky q_w1 := gv_nf hq_w1 h_ky
  have ne40 : nq pl q_w1 := gv_nf hq_w1 h_pl
  have ne41 : nq tb q_w1 := gv_nf hq_w1 h_tb
  have ne42 : nq a q_w1 := gv_nf hq_w1 h_a
  have ne43 : nq c q_w1 := gv_nf hq_w1 h_c
  have ne44 : nq b q_w1 := gv_nf hq_w1 h_b
  have ne45 : nq c2 q_w1 := gv_nf hq_w1 h_c2
  refine k_astore_n (lv' := [(3, .ref t_w1), (0, .ref mo), (1, .int (nI i)), (2, .int (nI g))]) C dX1_refresh_6 rfl (by decide) rfl ?_
  refine k_aload_n C dX1_refresh_7 rfl 0 rfl ?_
  refine k_get (ci := 4) (k := 3) C fl_1_84 ((gv_up_n (Ne.symm ne19)).trans ((gv_up_n htq_w1).trans gv_up_s)) rfl dX1_refresh_8 ?_
  refine k_aload_n C dX1_refresh_11 rfl 1 rfl ?_
  have ne46 : nq mo tb := gv_ne h_tb h_mo (by simp)
  refine k_get (ci := 1) (k := 0) C fl_1_12 ((gv_up_n ne46).trans ((gv_up_n ne24).trans ((gv_up_n ne2).trans h_mo))) rfl dX1_refresh_12 ?_
  have ne47 : nq tr tb := gv_ne h_tb h_tr (by simp)
  refine k_get (ci := 5) (k := 4) C fl_1_87 ((gv_up_n ne47).trans ((gv_up_n ne25).trans ((gv_up_n ne3).trans h_tr))) rfl dX1_refresh_15 ?_
  refine k_icmp_ne (tgt := 22) C dX1_refresh_18 (by decide) (fun c18 => ?_) (fun c18 => ?_)
  · skip
    refine k_aload_n C dX1_refresh_22 rfl 0 rfl ?_
    refine k_callV_pv C mv_1_90 (c_X4_clear  ((gv_up_n (Ne.symm ne19)).trans ((gv_up_n htq_w1).trans gv_up_s)) ((gv_up_n (Ne.symm ne41)).trans gv_up_s) ) ((gv_up_n (Ne.symm ne19)).trans ((gv_up_n htq_w1).trans gv_up_s)) rfl rfl (by simp [Value.category]) ⟨by decide, by decide⟩ ⟨(by decide), (by decide)⟩ dX1_refresh_23 ?_
    refine k_view (V1 := gv_up (gv_up (gv_up V t_w1 (.inr (4, [.ref q_w1, .int (nI 0), .int (nI 0), .int (-1 : Int32)]))) q_w1 (.inl (cI, 486, .inl (fun _ => 0)))) tb (.inl (cR, 120, .inr (.inr (.inr (.inr (va_up tf (i * 4 + g) (some t_w1)))))))) ((gv_uc (Ne.symm ne19)).trans (congrArg (fun W => gv_up W tb (.inl (cR, 120, .inr (.inr (.inr (.inr (va_up tf (i * 4 + g) (some t_w1)))))))) ((gv_uc htq_w1).trans (congrArg (fun W => gv_up W q_w1 (.inl (cI, 486, .inl (fun _ => 0)))) gv_uu)))) ?_
    refine k_aload_n C dX1_refresh_26 rfl 0 rfl ?_
    refine k_aload_n C dX1_refresh_27 rfl 1 rfl ?_
    refine k_get (ci := 1) (k := 0) C fl_1_12 ((gv_up_n ne46).trans ((gv_up_n ne24).trans ((gv_up_n ne2).trans h_mo))) rfl dX1_refresh_28 ?_
    refine k_get (ci := 5) (k := 4) C fl_1_87 ((gv_up_n ne47).trans ((gv_up_n ne25).trans ((gv_up_n ne3).trans h_tr))) rfl dX1_refresh_31 ?_
    refine k_put (ci := 4) (k := 3) (fs' := [.ref q_w1, .int (nI 0), .int (nI 0), .int (nI nt)]) C fl_1_84 pf_4_3 ((gv_up_n (Ne.symm ne19)).trans ((gv_up_n htq_w1).trans gv_up_s)) rfl rfl (Nat.le_of_ble_eq_true rfl) rfl dX1_refresh_34 ?_
    refine k_view (V1 := gv_up (gv_up (gv_up V t_w1 (.inr (4, [.ref q_w1, .int (nI 0), .int (nI 0), .int (nI nt)]))) q_w1 (.inl (cI, 486, .inl (fun _ => 0)))) tb (.inl (cR, 120, .inr (.inr (.inr (.inr (va_up tf (i * 4 + g) (some t_w1)))))))) ((gv_uc (Ne.symm ne19)).trans (congrArg (fun W => gv_up W tb (.inl (cR, 120, .inr (.inr (.inr (.inr (va_up tf (i * 4 + g) (some t_w1)))))))) ((gv_uc htq_w1).trans (congrArg (fun W => gv_up W q_w1 (.inl (cI, 486, .inl (fun _ => 0)))) gv_uu)))) ?_
    refine k_aload_n C dX1_refresh_37 rfl 1 rfl ?_
    refine k_get (ci := 1) (k := 2) C fl_1_28 ((gv_up_n ne46).trans ((gv_up_n ne24).trans ((gv_up_n ne2).trans h_mo))) rfl dX1_refresh_38 ?_
    refine k_iload_n C dX1_refresh_41 rfl 2 rfl ?_
    have ne48 : nq nd tb := gv_ne h_tb h_nd (by simp)
    have ne49 : nq nl tb := gv_ne h_tb h_nl (by simp)
    refine k_callV_pr C mv_1_60 (c_X3_at  ((gv_up_n ne48).trans ((gv_up_n ne30).trans ((gv_up_n ne8).trans h_nd))) ((gv_up_n ne49).trans ((gv_up_n ne31).trans ((gv_up_n ne9).trans h_nl))) (by first | assumption | omega) hnf) ((gv_up_n ne48).trans ((gv_up_n ne30).trans ((gv_up_n ne8).trans h_nd))) rfl rfl (by simp [Value.category]) ⟨by decide, by decide⟩ ⟨(by decide), (by decide)⟩ dX1_refresh_42 ?_
    refine k_astore (lv' := [(4, .ref no), (3, .ref t_w1), (0, .ref mo), (1, .int (nI i)), (2, .int (nI g))]) C dX1_refresh_45 (by decide) rfl ?_
    refine k_aload C dX1_refresh_47 0 rfl ?_
    have ne50 : nq no tb := gv_ne h_tb h_no (by simp)
    refine k_get (ci := 2) (k := 0) C fl_1_77 ((gv_up_n ne50).trans ((gv_up_n ne32).trans ((gv_up_n ne10).trans h_no))) rfl dX1_refresh_49 ?_
    refine k_bipush (v := nI 12) C dX1_refresh_52 rfl ?_
    refine k_icmp_ne (tgt := 65) C dX1_refresh_54 (by decide) (fun c54 => ?_) (fun c54 => ?_)
    · skip
      have b54 : ¬ 1 = 12 := fun z => c54 ((nI_eq (a := 1) (b := 12) (by omega) (by omega)).mpr z)
      refine k_iload_n C dX1_refresh_65 rfl 4 rfl ?_
      refine k_istore (lv' := [(5, .int (nI g)), (4, .ref no), (3, .ref t_w1), (0, .ref mo), (1, .int (nI i)), (2, .int (nI g))]) C dX1_refresh_66 (by decide) rfl ?_
      refine k_aload C dX1_refresh_68 1 rfl ?_
      refine k_get (ci := 2) (k := 0) C fl_1_77 ((gv_up_n ne50).trans ((gv_up_n ne32).trans ((gv_up_n ne10).trans h_no))) rfl dX1_refresh_70 ?_
      refine k_if_ne (tgt := 87) C dX1_refresh_73 (by decide) (fun c73 => ?_) (fun c73 => ?_)
      · skip
        have b73 : ¬ 1 = 0 := fun z => c73 ((nI_eq (a := 1) (b := 0) (by omega) (by omega)).mpr z)
        refine k_aload C dX1_refresh_87 1 rfl ?_
        refine k_get (ci := 2) (k := 0) C fl_1_77 ((gv_up_n ne50).trans ((gv_up_n ne32).trans ((gv_up_n ne10).trans h_no))) rfl dX1_refresh_89 ?_
        refine k_bipush (v := nI 13) C dX1_refresh_92 rfl ?_
        refine k_icmp_ne (tgt := 107) C dX1_refresh_94 (by decide) (fun c94 => ?_) (fun c94 => ?_)
        · skip
          have b94 : ¬ 1 = 13 := fun z => c94 ((nI_eq (a := 1) (b := 13) (by omega) (by omega)).mpr z)
          refine k_aload C dX1_refresh_107 1 rfl ?_
          refine k_get (ci := 2) (k := 2) C fl_1_74 ((gv_up_n ne50).trans ((gv_up_n ne32).trans ((gv_up_n ne10).trans h_no))) rfl dX1_refresh_109 ?_
          refine k_iconst (v := (-1 : Int32)) C dX1_refresh_112 (by decide) ?_
          refine k_icmp_ne (tgt := 137) C dX1_refresh_113 (by decide) (fun c113 => ?_) (fun c113 => ?_)
          · skip
            refine k_aload_n C dX1_refresh_137 rfl 3 rfl ?_
            refine k_aload C dX1_refresh_138 1 rfl ?_
            refine k_aload_n C dX1_refresh_140 rfl 3 rfl ?_
            refine k_aload C dX1_refresh_141 1 rfl ?_
            refine k_get (ci := 2) (k := 1) C fl_1_68 ((gv_up_n ne50).trans ((gv_up_n ne32).trans ((gv_up_n ne10).trans h_no))) rfl dX1_refresh_143 ?_
            refine k_iload C dX1_refresh_146 0 rfl ?_
            refine k_callV_pr C mv_1_56 (c_tableOf  ((gv_up_n ne46).trans ((gv_up_n ne24).trans ((gv_up_n ne2).trans h_mo))) gv_up_s (by first | assumption | omega) (by first | assumption | omega) (by simp only [va_up]; rw [if_neg (by omega)]; exact hta)) ((gv_up_n ne46).trans ((gv_up_n ne24).trans ((gv_up_n ne2).trans h_mo))) rfl rfl (by simp [Value.category]) ⟨by decide, by decide⟩ ⟨(by decide), (by decide)⟩ dX1_refresh_148 ?_
            refine k_aload_n C dX1_refresh_151 rfl 3 rfl ?_
            refine k_aload C dX1_refresh_152 1 rfl ?_
            refine k_get (ci := 2) (k := 2) C fl_1_74 ((gv_up_n ne50).trans ((gv_up_n ne32).trans ((gv_up_n ne10).trans h_no))) rfl dX1_refresh_154 ?_
            refine k_iload C dX1_refresh_157 0 rfl ?_
            refine k_callV_pr C mv_1_56 (c_tableOf  ((gv_up_n ne46).trans ((gv_up_n ne24).trans ((gv_up_n ne2).trans h_mo))) gv_up_s (by first | assumption | omega) (by first | assumption | omega) (by simp only [va_up]; rw [if_neg (by omega)]; exact htb)) ((gv_up_n ne46).trans ((gv_up_n ne24).trans ((gv_up_n ne2).trans h_mo))) rfl rfl (by simp [Value.category]) ⟨by decide, by decide⟩ ⟨(by decide), (by decide)⟩ dX1_refresh_159 ?_
            refine k_aload_n C dX1_refresh_162 rfl 2 rfl ?_
            rcases SA with _ | A
            · skip
              have ne51 : nq xe tb := gv_ne h_tb h_xe (by simp)
              have ne52 : nq ak tb := gv_ne h_tb h_ak (by simp)
              have ne53 : nq af tb := gv_ne h_tb h_af (by simp)
              have ne54 : nq as tb := gv_ne h_tb h_as (by simp)
              have ne55 : nq ap tb := gv_ne h_tb h_ap (by simp)
              have ne56 : nq av tb := gv_ne h_tb h_av (by simp)
              have ne57 : nq a tb := gv_ne h_tb h_a (by simp)
              have ne58 : nq c tb := gv_ne h_tb h_c (by simp)
              have ne59 : nq b tb := gv_ne h_tb h_b (by simp)
              have ne60 : nq c2 tb := gv_ne h_tb h_c2 (by simp)
              have ne61 : nq ky tb := gv_ne h_tb h_ky (by simp)
              have ne62 : nq pl tb := gv_ne h_tb h_pl (by simp)
              refine k_callV C mv_1_105 (c_overL2  ((gv_up_n ne46).trans ((gv_up_n ne24).trans ((gv_up_n ne2).trans h_mo))) ((gv_up_n ne50).trans ((gv_up_n ne32).trans ((gv_up_n ne10).trans h_no))) ((gv_up_n ne51).trans ((gv_up_n ne33).trans ((gv_up_n ne11).trans h_xe))) ((gv_up_n ne52).trans ((gv_up_n ne34).trans ((gv_up_n ne12).trans h_ak))) ((gv_up_n ne53).trans ((gv_up_n ne35).trans ((gv_up_n ne13).trans h_af))) ((gv_up_n ne54).trans ((gv_up_n ne36).trans ((gv_up_n ne14).trans h_as))) ((gv_up_n ne55).trans ((gv_up_n ne37).trans ((gv_up_n ne15).trans h_ap))) ((gv_up_n ne56).trans ((gv_up_n ne38).trans ((gv_up_n ne16).trans h_av))) ((gv_up_n ne57).trans ((gv_up_n ne42).trans ((gv_up_n ne20).trans h_a))) ((gv_up_n ne58).trans ((gv_up_n ne43).trans ((gv_up_n ne21).trans h_c))) ((gv_up_n ne59).trans ((gv_up_n ne44).trans ((gv_up_n ne22).trans h_b))) ((gv_up_n ne60).trans ((gv_up_n ne45).trans ((gv_up_n ne23).trans h_c2))) ((gv_up_n (Ne.symm ne19)).trans ((gv_up_n htq_w1).trans gv_up_s)) ((gv_up_n (Ne.symm ne41)).trans gv_up_s) ((gv_up_n ne61).trans ((gv_up_n ne39).trans ((gv_up_n ne17).trans h_ky))) ((gv_up_n ne62).trans ((gv_up_n ne40).trans ((gv_up_n ne18).trans h_pl))) (Or.inl hSa) (by first | assumption | omega) (Ne.symm ne20) (Ne.symm ne43) (Ne.symm ne22) (Ne.symm ne45) hky) ((gv_up_n ne46).trans ((gv_up_n ne24).trans ((gv_up_n ne2).trans h_mo))) rfl rfl (by simp [Value.category]) ⟨by decide, by decide⟩ ⟨(by decide), (by decide)⟩ dX1_refresh_163 (fun zv zV zh => ?_)
              obtain ⟨vl1_w63, kf1_w63, pf1_w63, n1_w63, tl1_w63, f1_w63, rfl, rfl, ht1_w63⟩ := zh
              refine k_pc (pc' := 166) (st' := []) rfl rfl ?_
              refine k_view (V1 := gv_up (gv_up (gv_up (gv_up (gv_up (gv_up (gv_up V t_w1 (.inr (4, [.ref q_w1, .int (nI 0), .int (nI 0), .int (nI nt)]))) q_w1 (.inl (cI, 486, .inl f1_w63))) tb (.inl (cR, 120, .inr (.inr (.inr (.inr (va_up tf (i * 4 + g) (some t_w1)))))))) av (.inl (cI, 30, .inl vl1_w63))) ky (.inl (cI, 80, .inl kf1_w63))) pl (.inl (cI, 80, .inl pf1_w63))) t_w1 (.inr (4, [.ref q_w1, .int (nI n1_w63), .int tl1_w63, .int (nI nt)]))) (congrArg (fun W => gv_up W t_w1 (.inr (4, [.ref q_w1, .int (nI n1_w63), .int tl1_w63, .int (nI nt)]))) ((gv_uc (Ne.symm ne40)).trans (congrArg (fun W => gv_up W pl (.inl (cI, 80, .inl pf1_w63))) ((gv_uc (Ne.symm ne39)).trans (congrArg (fun W => gv_up W ky (.inl (cI, 80, .inl kf1_w63))) ((gv_uc (Ne.symm ne38)).trans (congrArg (fun W => gv_up W av (.inl (cI, 30, .inl vl1_w63))) ((gv_uc (Ne.symm ne41)).trans (congrArg (fun W => gv_up W tb (.inl (cR, 120, .inr (.inr (.inr (.inr (va_up tf (i * 4 + g) (some t_w1)))))))) gv_uu))))))))) ?_
              refine k_view (V1 := gv_up (gv_up (gv_up (gv_up (gv_up (gv_up V t_w1 (.inr (4, [.ref q_w1, .int (nI n1_w63), .int tl1_w63, .int (nI nt)]))) q_w1 (.inl (cI, 486, .inl f1_w63))) tb (.inl (cR, 120, .inr (.inr (.inr (.inr (va_up tf (i * 4 + g) (some t_w1)))))))) av (.inl (cI, 30, .inl vl1_w63))) ky (.inl (cI, 80, .inl kf1_w63))) pl (.inl (cI, 80, .inl pf1_w63))) ((gv_uc (Ne.symm ne18)).trans (congrArg (fun W => gv_up W pl (.inl (cI, 80, .inl pf1_w63))) ((gv_uc (Ne.symm ne17)).trans (congrArg (fun W => gv_up W ky (.inl (cI, 80, .inl kf1_w63))) ((gv_uc (Ne.symm ne16)).trans (congrArg (fun W => gv_up W av (.inl (cI, 30, .inl vl1_w63))) ((gv_uc (Ne.symm ne19)).trans (congrArg (fun W => gv_up W tb (.inl (cR, 120, .inr (.inr (.inr (.inr (va_up tf (i * 4 + g) (some t_w1)))))))) ((gv_uc htq_w1).trans (congrArg (fun W => gv_up W q_w1 (.inl (cI, 486, .inl f1_w63))) gv_uu)))))))))) ?_
              refine k_view (V1 := gv_up (gv_up (gv_up (gv_up (gv_up (gv_up V t_w1 (.inr (4, [.ref q_w1, .int (nI n1_w63), .int tl1_w63, .int (nI nt)]))) q_w1 (.inl (cI, 486, .inl f1_w63))) av (.inl (cI, 30, .inl vl1_w63))) tb (.inl (cR, 120, .inr (.inr (.inr (.inr (va_up tf (i * 4 + g) (some t_w1)))))))) ky (.inl (cI, 80, .inl kf1_w63))) pl (.inl (cI, 80, .inl pf1_w63))) (congrArg (fun W => gv_up W pl (.inl (cI, 80, .inl pf1_w63))) (congrArg (fun W => gv_up W ky (.inl (cI, 80, .inl kf1_w63))) (gv_uc ne56))) ?_
              refine k_view (V1 := gv_up (gv_up (gv_up (gv_up (gv_up (gv_up V t_w1 (.inr (4, [.ref q_w1, .int (nI n1_w63), .int tl1_w63, .int (nI nt)]))) av (.inl (cI, 30, .inl vl1_w63))) q_w1 (.inl (cI, 486, .inl f1_w63))) tb (.inl (cR, 120, .inr (.inr (.inr (.inr (va_up tf (i * 4 + g) (some t_w1)))))))) ky (.inl (cI, 80, .inl kf1_w63))) pl (.inl (cI, 80, .inl pf1_w63))) (congrArg (fun W => gv_up W pl (.inl (cI, 80, .inl pf1_w63))) (congrArg (fun W => gv_up W ky (.inl (cI, 80, .inl kf1_w63))) (congrArg (fun W => gv_up W tb (.inl (cR, 120, .inr (.inr (.inr (.inr (va_up tf (i * 4 + g) (some t_w1)))))))) (gv_uc ne38)))) ?_
              refine k_view (V1 := gv_up (gv_up (gv_up (gv_up (gv_up (gv_up V av (.inl (cI, 30, .inl vl1_w63))) t_w1 (.inr (4, [.ref q_w1, .int (nI n1_w63), .int tl1_w63, .int (nI nt)]))) q_w1 (.inl (cI, 486, .inl f1_w63))) tb (.inl (cR, 120, .inr (.inr (.inr (.inr (va_up tf (i * 4 + g) (some t_w1)))))))) ky (.inl (cI, 80, .inl kf1_w63))) pl (.inl (cI, 80, .inl pf1_w63))) (congrArg (fun W => gv_up W pl (.inl (cI, 80, .inl pf1_w63))) (congrArg (fun W => gv_up W ky (.inl (cI, 80, .inl kf1_w63))) (congrArg (fun W => gv_up W tb (.inl (cR, 120, .inr (.inr (.inr (.inr (va_up tf (i * 4 + g) (some t_w1)))))))) (congrArg (fun W => gv_up W q_w1 (.inl (cI, 486, .inl f1_w63))) (gv_uc ne16))))) ?_
              refine k_view (V1 := gv_up (gv_up (gv_up (gv_up (gv_up (gv_up V av (.inl (cI, 30, .inl vl1_w63))) t_w1 (.inr (4, [.ref q_w1, .int (nI n1_w63), .int tl1_w63, .int (nI nt)]))) q_w1 (.inl (cI, 486, .inl f1_w63))) ky (.inl (cI, 80, .inl kf1_w63))) tb (.inl (cR, 120, .inr (.inr (.inr (.inr (va_up tf (i * 4 + g) (some t_w1)))))))) pl (.inl (cI, 80, .inl pf1_w63))) (congrArg (fun W => gv_up W pl (.inl (cI, 80, .inl pf1_w63))) (gv_uc ne61)) ?_
              refine k_view (V1 := gv_up (gv_up (gv_up (gv_up (gv_up (gv_up V av (.inl (cI, 30, .inl vl1_w63))) t_w1 (.inr (4, [.ref q_w1, .int (nI n1_w63), .int tl1_w63, .int (nI nt)]))) ky (.inl (cI, 80, .inl kf1_w63))) q_w1 (.inl (cI, 486, .inl f1_w63))) tb (.inl (cR, 120, .inr (.inr (.inr (.inr (va_up tf (i * 4 + g) (some t_w1)))))))) pl (.inl (cI, 80, .inl pf1_w63))) (congrArg (fun W => gv_up W pl (.inl (cI, 80, .inl pf1_w63))) (congrArg (fun W => gv_up W tb (.inl (cR, 120, .inr (.inr (.inr (.inr (va_up tf (i * 4 + g) (some t_w1)))))))) (gv_uc ne39))) ?_
              refine k_view (V1 := gv_up (gv_up (gv_up (gv_up (gv_up (gv_up V av (.inl (cI, 30, .inl vl1_w63))) ky (.inl (cI, 80, .inl kf1_w63))) t_w1 (.inr (4, [.ref q_w1, .int (nI n1_w63), .int tl1_w63, .int (nI nt)]))) q_w1 (.inl (cI, 486, .inl f1_w63))) tb (.inl (cR, 120, .inr (.inr (.inr (.inr (va_up tf (i * 4 + g) (some t_w1)))))))) pl (.inl (cI, 80, .inl pf1_w63))) (congrArg (fun W => gv_up W pl (.inl (cI, 80, .inl pf1_w63))) (congrArg (fun W => gv_up W tb (.inl (cR, 120, .inr (.inr (.inr (.inr (va_up tf (i * 4 + g) (some t_w1)))))))) (congrArg (fun W => gv_up W q_w1 (.inl (cI, 486, .inl f1_w63))) (gv_uc ne17)))) ?_
              refine k_view (V1 := gv_up (gv_up (gv_up (gv_up (gv_up (gv_up V av (.inl (cI, 30, .inl vl1_w63))) ky (.inl (cI, 80, .inl kf1_w63))) t_w1 (.inr (4, [.ref q_w1, .int (nI n1_w63), .int tl1_w63, .int (nI nt)]))) q_w1 (.inl (cI, 486, .inl f1_w63))) pl (.inl (cI, 80, .inl pf1_w63))) tb (.inl (cR, 120, .inr (.inr (.inr (.inr (va_up tf (i * 4 + g) (some t_w1)))))))) (gv_uc ne62) ?_
              refine k_view (V1 := gv_up (gv_up (gv_up (gv_up (gv_up (gv_up V av (.inl (cI, 30, .inl vl1_w63))) ky (.inl (cI, 80, .inl kf1_w63))) t_w1 (.inr (4, [.ref q_w1, .int (nI n1_w63), .int tl1_w63, .int (nI nt)]))) pl (.inl (cI, 80, .inl pf1_w63))) q_w1 (.inl (cI, 486, .inl f1_w63))) tb (.inl (cR, 120, .inr (.inr (.inr (.inr (va_up tf (i * 4 + g) (some t_w1)))))))) (congrArg (fun W => gv_up W tb (.inl (cR, 120, .inr (.inr (.inr (.inr (va_up tf (i * 4 + g) (some t_w1)))))))) (gv_uc ne40)) ?_
              refine k_view (V1 := gv_up (gv_up (gv_up (gv_up (gv_up (gv_up V av (.inl (cI, 30, .inl vl1_w63))) ky (.inl (cI, 80, .inl kf1_w63))) pl (.inl (cI, 80, .inl pf1_w63))) t_w1 (.inr (4, [.ref q_w1, .int (nI n1_w63), .int tl1_w63, .int (nI nt)]))) q_w1 (.inl (cI, 486, .inl f1_w63))) tb (.inl (cR, 120, .inr (.inr (.inr (.inr (va_up tf (i * 4 + g) (some t_w1)))))))) (congrArg (fun W => gv_up W tb (.inl (cR, 120, .inr (.inr (.inr (.inr (va_up tf (i * 4 + g) (some t_w1)))))))) (congrArg (fun W => gv_up W q_w1 (.inl (cI, 486, .inl f1_w63))) (gv_uc ne18))) ?_
              refine k_view (V1 := gv_up (gv_up (gv_up (gv_up (gv_up (gv_up V av (.inl (cI, 30, .inl vl1_w63))) ky (.inl (cI, 80, .inl kf1_w63))) pl (.inl (cI, 80, .inl pf1_w63))) q_w1 (.inl (cI, 486, .inl f1_w63))) t_w1 (.inr (4, [.ref q_w1, .int (nI n1_w63), .int tl1_w63, .int (nI nt)]))) tb (.inl (cR, 120, .inr (.inr (.inr (.inr (va_up tf (i * 4 + g) (some t_w1)))))))) (congrArg (fun W => gv_up W tb (.inl (cR, 120, .inr (.inr (.inr (.inr (va_up tf (i * 4 + g) (some t_w1)))))))) (gv_uc (Ne.symm htq_w1))) ?_
              exact k_vret C zr zlk ⟨t_w1, q_w1, vl1_w63, kf1_w63, pf1_w63, n1_w63, tl1_w63, f1_w63, rfl, rfl, ht1_w1, hq_w1, htq_w1, ht1_w63⟩ (Nat.le_refl _) (Nat.le_refl _) dX1_refresh_166
            · skip
              rcases SB with _ | B
              · skip
                have ne64 : nq xe tb := gv_ne h_tb h_xe (by simp)
                have ne65 : nq ak tb := gv_ne h_tb h_ak (by simp)
                have ne66 : nq af tb := gv_ne h_tb h_af (by simp)
                have ne67 : nq as tb := gv_ne h_tb h_as (by simp)
                have ne68 : nq ap tb := gv_ne h_tb h_ap (by simp)
                have ne69 : nq av tb := gv_ne h_tb h_av (by simp)
                have ne70 : nq a tb := gv_ne h_tb h_a (by simp)
                have ne71 : nq c tb := gv_ne h_tb h_c (by simp)
                have ne72 : nq b tb := gv_ne h_tb h_b (by simp)
                have ne73 : nq c2 tb := gv_ne h_tb h_c2 (by simp)
                have ne74 : nq ky tb := gv_ne h_tb h_ky (by simp)
                have ne75 : nq pl tb := gv_ne h_tb h_pl (by simp)
                refine k_callV C mv_1_105 (c_overL2  ((gv_up_n ne46).trans ((gv_up_n ne24).trans ((gv_up_n ne2).trans h_mo))) ((gv_up_n ne50).trans ((gv_up_n ne32).trans ((gv_up_n ne10).trans h_no))) ((gv_up_n ne64).trans ((gv_up_n ne33).trans ((gv_up_n ne11).trans h_xe))) ((gv_up_n ne65).trans ((gv_up_n ne34).trans ((gv_up_n ne12).trans h_ak))) ((gv_up_n ne66).trans ((gv_up_n ne35).trans ((gv_up_n ne13).trans h_af))) ((gv_up_n ne67).trans ((gv_up_n ne36).trans ((gv_up_n ne14).trans h_as))) ((gv_up_n ne68).trans ((gv_up_n ne37).trans ((gv_up_n ne15).trans h_ap))) ((gv_up_n ne69).trans ((gv_up_n ne38).trans ((gv_up_n ne16).trans h_av))) ((gv_up_n ne70).trans ((gv_up_n ne42).trans ((gv_up_n ne20).trans h_a))) ((gv_up_n ne71).trans ((gv_up_n ne43).trans ((gv_up_n ne21).trans h_c))) ((gv_up_n ne72).trans ((gv_up_n ne44).trans ((gv_up_n ne22).trans h_b))) ((gv_up_n ne73).trans ((gv_up_n ne45).trans ((gv_up_n ne23).trans h_c2))) ((gv_up_n (Ne.symm ne19)).trans ((gv_up_n htq_w1).trans gv_up_s)) ((gv_up_n (Ne.symm ne41)).trans gv_up_s) ((gv_up_n ne74).trans ((gv_up_n ne39).trans ((gv_up_n ne17).trans h_ky))) ((gv_up_n ne75).trans ((gv_up_n ne40).trans ((gv_up_n ne18).trans h_pl))) (Or.inr hSb) (by first | assumption | omega) (Ne.symm ne20) (Ne.symm ne43) (Ne.symm ne22) (Ne.symm ne45) hky) ((gv_up_n ne46).trans ((gv_up_n ne24).trans ((gv_up_n ne2).trans h_mo))) rfl rfl (by simp [Value.category]) ⟨by decide, by decide⟩ ⟨(by decide), (by decide)⟩ dX1_refresh_163 (fun zv zV zh => ?_)
                obtain ⟨vl1_w76, kf1_w76, pf1_w76, n1_w76, tl1_w76, f1_w76, rfl, rfl, ht1_w76⟩ := zh
                refine k_pc (pc' := 166) (st' := []) rfl rfl ?_
                refine k_view (V1 := gv_up (gv_up (gv_up (gv_up (gv_up (gv_up (gv_up V t_w1 (.inr (4, [.ref q_w1, .int (nI 0), .int (nI 0), .int (nI nt)]))) q_w1 (.inl (cI, 486, .inl f1_w76))) tb (.inl (cR, 120, .inr (.inr (.inr (.inr (va_up tf (i * 4 + g) (some t_w1)))))))) av (.inl (cI, 30, .inl vl1_w76))) ky (.inl (cI, 80, .inl kf1_w76))) pl (.inl (cI, 80, .inl pf1_w76))) t_w1 (.inr (4, [.ref q_w1, .int (nI n1_w76), .int tl1_w76, .int (nI nt)]))) (congrArg (fun W => gv_up W t_w1 (.inr (4, [.ref q_w1, .int (nI n1_w76), .int tl1_w76, .int (nI nt)]))) ((gv_uc (Ne.symm ne40)).trans (congrArg (fun W => gv_up W pl (.inl (cI, 80, .inl pf1_w76))) ((gv_uc (Ne.symm ne39)).trans (congrArg (fun W => gv_up W ky (.inl (cI, 80, .inl kf1_w76))) ((gv_uc (Ne.symm ne38)).trans (congrArg (fun W => gv_up W av (.inl (cI, 30, .inl vl1_w76))) ((gv_uc (Ne.symm ne41)).trans (congrArg (fun W => gv_up W tb (.inl (cR, 120, .inr (.inr (.inr (.inr (va_up tf (i * 4 + g) (some t_w1)))))))) gv_uu))))))))) ?_
                refine k_view (V1 := gv_up (gv_up (gv_up (gv_up (gv_up (gv_up V t_w1 (.inr (4, [.ref q_w1, .int (nI n1_w76), .int tl1_w76, .int (nI nt)]))) q_w1 (.inl (cI, 486, .inl f1_w76))) tb (.inl (cR, 120, .inr (.inr (.inr (.inr (va_up tf (i * 4 + g) (some t_w1)))))))) av (.inl (cI, 30, .inl vl1_w76))) ky (.inl (cI, 80, .inl kf1_w76))) pl (.inl (cI, 80, .inl pf1_w76))) ((gv_uc (Ne.symm ne18)).trans (congrArg (fun W => gv_up W pl (.inl (cI, 80, .inl pf1_w76))) ((gv_uc (Ne.symm ne17)).trans (congrArg (fun W => gv_up W ky (.inl (cI, 80, .inl kf1_w76))) ((gv_uc (Ne.symm ne16)).trans (congrArg (fun W => gv_up W av (.inl (cI, 30, .inl vl1_w76))) ((gv_uc (Ne.symm ne19)).trans (congrArg (fun W => gv_up W tb (.inl (cR, 120, .inr (.inr (.inr (.inr (va_up tf (i * 4 + g) (some t_w1)))))))) ((gv_uc htq_w1).trans (congrArg (fun W => gv_up W q_w1 (.inl (cI, 486, .inl f1_w76))) gv_uu)))))))))) ?_
                refine k_view (V1 := gv_up (gv_up (gv_up (gv_up (gv_up (gv_up V t_w1 (.inr (4, [.ref q_w1, .int (nI n1_w76), .int tl1_w76, .int (nI nt)]))) q_w1 (.inl (cI, 486, .inl f1_w76))) av (.inl (cI, 30, .inl vl1_w76))) tb (.inl (cR, 120, .inr (.inr (.inr (.inr (va_up tf (i * 4 + g) (some t_w1)))))))) ky (.inl (cI, 80, .inl kf1_w76))) pl (.inl (cI, 80, .inl pf1_w76))) (congrArg (fun W => gv_up W pl (.inl (cI, 80, .inl pf1_w76))) (congrArg (fun W => gv_up W ky (.inl (cI, 80, .inl kf1_w76))) (gv_uc ne69))) ?_
                refine k_view (V1 := gv_up (gv_up (gv_up (gv_up (gv_up (gv_up V t_w1 (.inr (4, [.ref q_w1, .int (nI n1_w76), .int tl1_w76, .int (nI nt)]))) av (.inl (cI, 30, .inl vl1_w76))) q_w1 (.inl (cI, 486, .inl f1_w76))) tb (.inl (cR, 120, .inr (.inr (.inr (.inr (va_up tf (i * 4 + g) (some t_w1)))))))) ky (.inl (cI, 80, .inl kf1_w76))) pl (.inl (cI, 80, .inl pf1_w76))) (congrArg (fun W => gv_up W pl (.inl (cI, 80, .inl pf1_w76))) (congrArg (fun W => gv_up W ky (.inl (cI, 80, .inl kf1_w76))) (congrArg (fun W => gv_up W tb (.inl (cR, 120, .inr (.inr (.inr (.inr (va_up tf (i * 4 + g) (some t_w1)))))))) (gv_uc ne38)))) ?_
                refine k_view (V1 := gv_up (gv_up (gv_up (gv_up (gv_up (gv_up V av (.inl (cI, 30, .inl vl1_w76))) t_w1 (.inr (4, [.ref q_w1, .int (nI n1_w76), .int tl1_w76, .int (nI nt)]))) q_w1 (.inl (cI, 486, .inl f1_w76))) tb (.inl (cR, 120, .inr (.inr (.inr (.inr (va_up tf (i * 4 + g) (some t_w1)))))))) ky (.inl (cI, 80, .inl kf1_w76))) pl (.inl (cI, 80, .inl pf1_w76))) (congrArg (fun W => gv_up W pl (.inl (cI, 80, .inl pf1_w76))) (congrArg (fun W => gv_up W ky (.inl (cI, 80, .inl kf1_w76))) (congrArg (fun W => gv_up W tb (.inl (cR, 120, .inr (.inr (.inr (.inr (va_up tf (i * 4 + g) (some t_w1)))))))) (congrArg (fun W => gv_up W q_w1 (.inl (cI, 486, .inl f1_w76))) (gv_uc ne16))))) ?_
                refine k_view (V1 := gv_up (gv_up (gv_up (gv_up (gv_up (gv_up V av (.inl (cI, 30, .inl vl1_w76))) t_w1 (.inr (4, [.ref q_w1, .int (nI n1_w76), .int tl1_w76, .int (nI nt)]))) q_w1 (.inl (cI, 486, .inl f1_w76))) ky (.inl (cI, 80, .inl kf1_w76))) tb (.inl (cR, 120, .inr (.inr (.inr (.inr (va_up tf (i * 4 + g) (some t_w1)))))))) pl (.inl (cI, 80, .inl pf1_w76))) (congrArg (fun W => gv_up W pl (.inl (cI, 80, .inl pf1_w76))) (gv_uc ne74)) ?_
                refine k_view (V1 := gv_up (gv_up (gv_up (gv_up (gv_up (gv_up V av (.inl (cI, 30, .inl vl1_w76))) t_w1 (.inr (4, [.ref q_w1, .int (nI n1_w76), .int tl1_w76, .int (nI nt)]))) ky (.inl (cI, 80, .inl kf1_w76))) q_w1 (.inl (cI, 486, .inl f1_w76))) tb (.inl (cR, 120, .inr (.inr (.inr (.inr (va_up tf (i * 4 + g) (some t_w1)))))))) pl (.inl (cI, 80, .inl pf1_w76))) (congrArg (fun W => gv_up W pl (.inl (cI, 80, .inl pf1_w76))) (congrArg (fun W => gv_up W tb (.inl (cR, 120, .inr (.inr (.inr (.inr (va_up tf (i * 4 + g) (some t_w1)))))))) (gv_uc ne39))) ?_
                refine k_view (V1 := gv_up (gv_up (gv_up (gv_up (gv_up (gv_up V av (.inl (cI, 30, .inl vl1_w76))) ky (.inl (cI, 80, .inl kf1_w76))) t_w1 (.inr (4, [.ref q_w1, .int (nI n1_w76), .int tl1_w76, .int (nI nt)]))) q_w1 (.inl (cI, 486, .inl f1_w76))) tb (.inl (cR, 120, .inr (.inr (.inr (.inr (va_up tf (i * 4 + g) (some t_w1)))))))) pl (.inl (cI, 80, .inl pf1_w76))) (congrArg (fun W => gv_up W pl (.inl (cI, 80, .inl pf1_w76))) (congrArg (fun W => gv_up W tb (.inl (cR, 120, .inr (.inr (.inr (.inr (va_up tf (i * 4 + g) (some t_w1)))))))) (congrArg (fun W => gv_up W q_w1 (.inl (cI, 486, .inl f1_w76))) (gv_uc ne17)))) ?_
                refine k_view (V1 := gv_up (gv_up (gv_up (gv_up (gv_up (gv_up V av (.inl (cI, 30, .inl vl1_w76))) ky (.inl (cI, 80, .inl kf1_w76))) t_w1 (.inr (4, [.ref q_w1, .int (nI n1_w76), .int tl1_w76, .int (nI nt)]))) q_w1 (.inl (cI, 486, .inl f1_w76))) pl (.inl (cI, 80, .inl pf1_w76))) tb (.inl (cR, 120, .inr (.inr (.inr (.inr (va_up tf (i * 4 + g) (some t_w1)))))))) (gv_uc ne75) ?_
                refine k_view (V1 := gv_up (gv_up (gv_up (gv_up (gv_up (gv_up V av (.inl (cI, 30, .inl vl1_w76))) ky (.inl (cI, 80, .inl kf1_w76))) t_w1 (.inr (4, [.ref q_w1, .int (nI n1_w76), .int tl1_w76, .int (nI nt)]))) pl (.inl (cI, 80, .inl pf1_w76))) q_w1 (.inl (cI, 486, .inl f1_w76))) tb (.inl (cR, 120, .inr (.inr (.inr (.inr (va_up tf (i * 4 + g) (some t_w1)))))))) (congrArg (fun W => gv_up W tb (.inl (cR, 120, .inr (.inr (.inr (.inr (va_up tf (i * 4 + g) (some t_w1)))))))) (gv_uc ne40)) ?_
                refine k_view (V1 := gv_up (gv_up (gv_up (gv_up (gv_up (gv_up V av (.inl (cI, 30, .inl vl1_w76))) ky (.inl (cI, 80, .inl kf1_w76))) pl (.inl (cI, 80, .inl pf1_w76))) t_w1 (.inr (4, [.ref q_w1, .int (nI n1_w76), .int tl1_w76, .int (nI nt)]))) q_w1 (.inl (cI, 486, .inl f1_w76))) tb (.inl (cR, 120, .inr (.inr (.inr (.inr (va_up tf (i * 4 + g) (some t_w1)))))))) (congrArg (fun W => gv_up W tb (.inl (cR, 120, .inr (.inr (.inr (.inr (va_up tf (i * 4 + g) (some t_w1)))))))) (congrArg (fun W => gv_up W q_w1 (.inl (cI, 486, .inl f1_w76))) (gv_uc ne18))) ?_
                refine k_view (V1 := gv_up (gv_up (gv_up (gv_up (gv_up (gv_up V av (.inl (cI, 30, .inl vl1_w76))) ky (.inl (cI, 80, .inl kf1_w76))) pl (.inl (cI, 80, .inl pf1_w76))) q_w1 (.inl (cI, 486, .inl f1_w76))) t_w1 (.inr (4, [.ref q_w1, .int (nI n1_w76), .int tl1_w76, .int (nI nt)]))) tb (.inl (cR, 120, .inr (.inr (.inr (.inr (va_up tf (i * 4 + g) (some t_w1)))))))) (congrArg (fun W => gv_up W tb (.inl (cR, 120, .inr (.inr (.inr (.inr (va_up tf (i * 4 + g) (some t_w1)))))))) (gv_uc (Ne.symm htq_w1))) ?_
                exact k_vret C zr zlk ⟨t_w1, q_w1, vl1_w76, kf1_w76, pf1_w76, n1_w76, tl1_w76, f1_w76, rfl, rfl, ht1_w1, hq_w1, htq_w1, ht1_w76⟩ (Nat.le_refl _) (Nat.le_refl _) dX1_refresh_166
              · skip
                have ne77 : nq xe tb := gv_ne h_tb h_xe (by simp)
                have ne78 : nq ak tb := gv_ne h_tb h_ak (by simp)
                have ne79 : nq af tb := gv_ne h_tb h_af (by simp)
                have ne80 : nq as tb := gv_ne h_tb h_as (by simp)
                have ne81 : nq ap tb := gv_ne h_tb h_ap (by simp)
                have ne82 : nq av tb := gv_ne h_tb h_av (by simp)
                have ne83 : nq a tb := gv_ne h_tb h_a (by simp)
                have ne84 : nq c tb := gv_ne h_tb h_c (by simp)
                have ne85 : nq b tb := gv_ne h_tb h_b (by simp)
                have ne86 : nq c2 tb := gv_ne h_tb h_c2 (by simp)
                have ne87 : nq ky tb := gv_ne h_tb h_ky (by simp)
                have ne88 : nq pl tb := gv_ne h_tb h_pl (by simp)
                refine k_callV C mv_1_105 (c_over1  ((gv_up_n ne46).trans ((gv_up_n ne24).trans ((gv_up_n ne2).trans h_mo))) ((gv_up_n ne50).trans ((gv_up_n ne32).trans ((gv_up_n ne10).trans h_no))) ((gv_up_n ne77).trans ((gv_up_n ne33).trans ((gv_up_n ne11).trans h_xe))) ((gv_up_n ne78).trans ((gv_up_n ne34).trans ((gv_up_n ne12).trans h_ak))) ((gv_up_n ne79).trans ((gv_up_n ne35).trans ((gv_up_n ne13).trans h_af))) ((gv_up_n ne80).trans ((gv_up_n ne36).trans ((gv_up_n ne14).trans h_as))) ((gv_up_n ne81).trans ((gv_up_n ne37).trans ((gv_up_n ne15).trans h_ap))) ((gv_up_n ne82).trans ((gv_up_n ne38).trans ((gv_up_n ne16).trans h_av))) ((gv_up_n ne83).trans ((gv_up_n ne42).trans ((gv_up_n ne20).trans h_a))) ((gv_up_n ne84).trans ((gv_up_n ne43).trans ((gv_up_n ne21).trans h_c))) ((gv_up_n ne85).trans ((gv_up_n ne44).trans ((gv_up_n ne22).trans h_b))) ((gv_up_n ne86).trans ((gv_up_n ne45).trans ((gv_up_n ne23).trans h_c2))) ((gv_up_n (Ne.symm ne19)).trans ((gv_up_n htq_w1).trans gv_up_s)) ((gv_up_n (Ne.symm ne41)).trans gv_up_s) ((gv_up_n ne87).trans ((gv_up_n ne39).trans ((gv_up_n ne17).trans h_ky))) ((gv_up_n ne88).trans ((gv_up_n ne40).trans ((gv_up_n ne18).trans h_pl))) (by first | assumption | omega) (by first | assumption | omega) hSa.2 (Ne.symm ne20) (Ne.symm ne43) hSb.2 (Ne.symm ne22) (Ne.symm ne45) hSa.1 hSb.1 hky) ((gv_up_n ne46).trans ((gv_up_n ne24).trans ((gv_up_n ne2).trans h_mo))) rfl rfl (by simp [Value.category]) ⟨by decide, by decide⟩ ⟨(by decide), (by decide)⟩ dX1_refresh_163 (fun zv zV zh => ?_)
                obtain ⟨vl1_w89, kf1_w89, pf1_w89, n1_w89, tl1_w89, f1_w89, rfl, rfl, ht1_w89⟩ := zh
                refine k_pc (pc' := 166) (st' := []) rfl rfl ?_
                refine k_view (V1 := gv_up (gv_up (gv_up (gv_up (gv_up (gv_up (gv_up V t_w1 (.inr (4, [.ref q_w1, .int (nI 0), .int (nI 0), .int (nI nt)]))) q_w1 (.inl (cI, 486, .inl f1_w89))) tb (.inl (cR, 120, .inr (.inr (.inr (.inr (va_up tf (i * 4 + g) (some t_w1)))))))) av (.inl (cI, 30, .inl vl1_w89))) ky (.inl (cI, 80, .inl kf1_w89))) pl (.inl (cI, 80, .inl pf1_w89))) t_w1 (.inr (4, [.ref q_w1, .int (nI n1_w89), .int tl1_w89, .int (nI nt)]))) (congrArg (fun W => gv_up W t_w1 (.inr (4, [.ref q_w1, .int (nI n1_w89), .int tl1_w89, .int (nI nt)]))) ((gv_uc (Ne.symm ne40)).trans (congrArg (fun W => gv_up W pl (.inl (cI, 80, .inl pf1_w89))) ((gv_uc (Ne.symm ne39)).trans (congrArg (fun W => gv_up W ky (.inl (cI, 80, .inl kf1_w89))) ((gv_uc (Ne.symm ne38)).trans (congrArg (fun W => gv_up W av (.inl (cI, 30, .inl vl1_w89))) ((gv_uc (Ne.symm ne41)).trans (congrArg (fun W => gv_up W tb (.inl (cR, 120, .inr (.inr (.inr (.inr (va_up tf (i * 4 + g) (some t_w1)))))))) gv_uu))))))))) ?_
                refine k_view (V1 := gv_up (gv_up (gv_up (gv_up (gv_up (gv_up V t_w1 (.inr (4, [.ref q_w1, .int (nI n1_w89), .int tl1_w89, .int (nI nt)]))) q_w1 (.inl (cI, 486, .inl f1_w89))) tb (.inl (cR, 120, .inr (.inr (.inr (.inr (va_up tf (i * 4 + g) (some t_w1)))))))) av (.inl (cI, 30, .inl vl1_w89))) ky (.inl (cI, 80, .inl kf1_w89))) pl (.inl (cI, 80, .inl pf1_w89))) ((gv_uc (Ne.symm ne18)).trans (congrArg (fun W => gv_up W pl (.inl (cI, 80, .inl pf1_w89))) ((gv_uc (Ne.symm ne17)).trans (congrArg (fun W => gv_up W ky (.inl (cI, 80, .inl kf1_w89))) ((gv_uc (Ne.symm ne16)).trans (congrArg (fun W => gv_up W av (.inl (cI, 30, .inl vl1_w89))) ((gv_uc (Ne.symm ne19)).trans (congrArg (fun W => gv_up W tb (.inl (cR, 120, .inr (.inr (.inr (.inr (va_up tf (i * 4 + g) (some t_w1)))))))) ((gv_uc htq_w1).trans (congrArg (fun W => gv_up W q_w1 (.inl (cI, 486, .inl f1_w89))) gv_uu)))))))))) ?_
                refine k_view (V1 := gv_up (gv_up (gv_up (gv_up (gv_up (gv_up V t_w1 (.inr (4, [.ref q_w1, .int (nI n1_w89), .int tl1_w89, .int (nI nt)]))) q_w1 (.inl (cI, 486, .inl f1_w89))) av (.inl (cI, 30, .inl vl1_w89))) tb (.inl (cR, 120, .inr (.inr (.inr (.inr (va_up tf (i * 4 + g) (some t_w1)))))))) ky (.inl (cI, 80, .inl kf1_w89))) pl (.inl (cI, 80, .inl pf1_w89))) (congrArg (fun W => gv_up W pl (.inl (cI, 80, .inl pf1_w89))) (congrArg (fun W => gv_up W ky (.inl (cI, 80, .inl kf1_w89))) (gv_uc ne82))) ?_
                refine k_view (V1 := gv_up (gv_up (gv_up (gv_up (gv_up (gv_up V t_w1 (.inr (4, [.ref q_w1, .int (nI n1_w89), .int tl1_w89, .int (nI nt)]))) av (.inl (cI, 30, .inl vl1_w89))) q_w1 (.inl (cI, 486, .inl f1_w89))) tb (.inl (cR, 120, .inr (.inr (.inr (.inr (va_up tf (i * 4 + g) (some t_w1)))))))) ky (.inl (cI, 80, .inl kf1_w89))) pl (.inl (cI, 80, .inl pf1_w89))) (congrArg (fun W => gv_up W pl (.inl (cI, 80, .inl pf1_w89))) (congrArg (fun W => gv_up W ky (.inl (cI, 80, .inl kf1_w89))) (congrArg (fun W => gv_up W tb (.inl (cR, 120, .inr (.inr (.inr (.inr (va_up tf (i * 4 + g) (some t_w1)))))))) (gv_uc ne38)))) ?_
                refine k_view (V1 := gv_up (gv_up (gv_up (gv_up (gv_up (gv_up V av (.inl (cI, 30, .inl vl1_w89))) t_w1 (.inr (4, [.ref q_w1, .int (nI n1_w89), .int tl1_w89, .int (nI nt)]))) q_w1 (.inl (cI, 486, .inl f1_w89))) tb (.inl (cR, 120, .inr (.inr (.inr (.inr (va_up tf (i * 4 + g) (some t_w1)))))))) ky (.inl (cI, 80, .inl kf1_w89))) pl (.inl (cI, 80, .inl pf1_w89))) (congrArg (fun W => gv_up W pl (.inl (cI, 80, .inl pf1_w89))) (congrArg (fun W => gv_up W ky (.inl (cI, 80, .inl kf1_w89))) (congrArg (fun W => gv_up W tb (.inl (cR, 120, .inr (.inr (.inr (.inr (va_up tf (i * 4 + g) (some t_w1)))))))) (congrArg (fun W => gv_up W q_w1 (.inl (cI, 486, .inl f1_w89))) (gv_uc ne16))))) ?_
                refine k_view (V1 := gv_up (gv_up (gv_up (gv_up (gv_up (gv_up V av (.inl (cI, 30, .inl vl1_w89))) t_w1 (.inr (4, [.ref q_w1, .int (nI n1_w89), .int tl1_w89, .int (nI nt)]))) q_w1 (.inl (cI, 486, .inl f1_w89))) ky (.inl (cI, 80, .inl kf1_w89))) tb (.inl (cR, 120, .inr (.inr (.inr (.inr (va_up tf (i * 4 + g) (some t_w1)))))))) pl (.inl (cI, 80, .inl pf1_w89))) (congrArg (fun W => gv_up W pl (.inl (cI, 80, .inl pf1_w89))) (gv_uc ne87)) ?_
                refine k_view (V1 := gv_up (gv_up (gv_up (gv_up (gv_up (gv_up V av (.inl (cI, 30, .inl vl1_w89))) t_w1 (.inr (4, [.ref q_w1, .int (nI n1_w89), .int tl1_w89, .int (nI nt)]))) ky (.inl (cI, 80, .inl kf1_w89))) q_w1 (.inl (cI, 486, .inl f1_w89))) tb (.inl (cR, 120, .inr (.inr (.inr (.inr (va_up tf (i * 4 + g) (some t_w1)))))))) pl (.inl (cI, 80, .inl pf1_w89))) (congrArg (fun W => gv_up W pl (.inl (cI, 80, .inl pf1_w89))) (congrArg (fun W => gv_up W tb (.inl (cR, 120, .inr (.inr (.inr (.inr (va_up tf (i * 4 + g) (some t_w1)))))))) (gv_uc ne39))) ?_
                refine k_view (V1 := gv_up (gv_up (gv_up (gv_up (gv_up (gv_up V av (.inl (cI, 30, .inl vl1_w89))) ky (.inl (cI, 80, .inl kf1_w89))) t_w1 (.inr (4, [.ref q_w1, .int (nI n1_w89), .int tl1_w89, .int (nI nt)]))) q_w1 (.inl (cI, 486, .inl f1_w89))) tb (.inl (cR, 120, .inr (.inr (.inr (.inr (va_up tf (i * 4 + g) (some t_w1)))))))) pl (.inl (cI, 80, .inl pf1_w89))) (congrArg (fun W => gv_up W pl (.inl (cI, 80, .inl pf1_w89))) (congrArg (fun W => gv_up W tb (.inl (cR, 120, .inr (.inr (.inr (.inr (va_up tf (i * 4 + g) (some t_w1)))))))) (congrArg (fun W => gv_up W q_w1 (.inl (cI, 486, .inl f1_w89))) (gv_uc ne17)))) ?_
                refine k_view (V1 := gv_up (gv_up (gv_up (gv_up (gv_up (gv_up V av (.inl (cI, 30, .inl vl1_w89))) ky (.inl (cI, 80, .inl kf1_w89))) t_w1 (.inr (4, [.ref q_w1, .int (nI n1_w89), .int tl1_w89, .int (nI nt)]))) q_w1 (.inl (cI, 486, .inl f1_w89))) pl (.inl (cI, 80, .inl pf1_w89))) tb (.inl (cR, 120, .inr (.inr (.inr (.inr (va_up tf (i * 4 + g) (some t_w1)))))))) (gv_uc ne88) ?_
                refine k_view (V1 := gv_up (gv_up (gv_up (gv_up (gv_up (gv_up V av (.inl (cI, 30, .inl vl1_w89))) ky (.inl (cI, 80, .inl kf1_w89))) t_w1 (.inr (4, [.ref q_w1, .int (nI n1_w89), .int tl1_w89, .int (nI nt)]))) pl (.inl (cI, 80, .inl pf1_w89))) q_w1 (.inl (cI, 486, .inl f1_w89))) tb (.inl (cR, 120, .inr (.inr (.inr (.inr (va_up tf (i * 4 + g) (some t_w1)))))))) (congrArg (fun W => gv_up W tb (.inl (cR, 120, .inr (.inr (.inr (.inr (va_up tf (i * 4 + g) (some t_w1)))))))) (gv_uc ne40)) ?_
                refine k_view (V1 := gv_up (gv_up (gv_up (gv_up (gv_up (gv_up V av (.inl (cI, 30, .inl vl1_w89))) ky (.inl (cI, 80, .inl kf1_w89))) pl (.inl (cI, 80, .inl pf1_w89))) t_w1 (.inr (4, [.ref q_w1, .int (nI n1_w89), .int tl1_w89, .int (nI nt)]))) q_w1 (.inl (cI, 486, .inl f1_w89))) tb (.inl (cR, 120, .inr (.inr (.inr (.inr (va_up tf (i * 4 + g) (some t_w1)))))))) (congrArg (fun W => gv_up W tb (.inl (cR, 120, .inr (.inr (.inr (.inr (va_up tf (i * 4 + g) (some t_w1)))))))) (congrArg (fun W => gv_up W q_w1 (.inl (cI, 486, .inl f1_w89))) (gv_uc ne18))) ?_
                refine k_view (V1 := gv_up (gv_up (gv_up (gv_up (gv_up (gv_up V av (.inl (cI, 30, .inl vl1_w89))) ky (.inl (cI, 80, .inl kf1_w89))) pl (.inl (cI, 80, .inl pf1_w89))) q_w1 (.inl (cI, 486, .inl f1_w89))) t_w1 (.inr (4, [.ref q_w1, .int (nI n1_w89), .int tl1_w89, .int (nI nt)]))) tb (.inl (cR, 120, .inr (.inr (.inr (.inr (va_up tf (i * 4 + g) (some t_w1)))))))) (congrArg (fun W => gv_up W tb (.inl (cR, 120, .inr (.inr (.inr (.inr (va_up tf (i * 4 + g) (some t_w1)))))))) (gv_uc (Ne.symm htq_w1))) ?_
                exact k_vret C zr zlk ⟨t_w1, q_w1, vl1_w89, kf1_w89, pf1_w89, n1_w89, tl1_w89, f1_w89, rfl, rfl, ht1_w1, hq_w1, htq_w1, ht1_w89⟩ (Nat.le_refl _) (Nat.le_refl _) dX1_refresh_166
          · skip
            exact absurd c113 (nI_n1 (by omega))
        · skip
          exact absurd c94 (by decide)
      · skip
        exact absurd c73 (by decide)
    · skip
      exact absurd c54 (by decide)
  · skip
    exact absurd c18.symm (nI_n1 (by omega))
set_option maxHeartbeats 4000000 in
set_option maxRecDepth 100000 in
theorem c_ref2N {zl : Launch} {D : va_G} {cI cN cR : ClassId} {base : Nat} {V : gv_V} {mo tr nd tb wg ky pl : Nat} {tga tsa tpa tqa nt : Nat} {tg ts tp tq : Nat → Int32} {nl nn : Nat} {nf : Nat → Option Nat} {no : Nat} {ps pp po ex va st fr ln dn ag gr : Int32} {xe ak af as ap av ne : Nat} {kd fs sc pt vl : Nat → Int32} {kf pf : Nat → Int32} {tf : Nat → Option Nat} {i g a0 b0 : Nat} {E : Nat → Ex} {a c n : Nat} {tl mk : Int32} {f : Nat → Int32} {SA : Option (List Row)} {b c2 n2 : Nat} {tl2 mk2 : Int32} {g2 : Nat → Int32} {SB : Option (List Row)}  (h_mo : V mo = some (.inr (1, [.ref tr, .ref xe, .ref nd, .ref tb, .ref wg, .ref ky, .ref pl]))) (h_tr : V tr = some (.inr (5, [.ref tga, .ref tsa, .ref tpa, .ref tqa, .int (nI nt)]))) (h_tga : V tga = some (.inl (cI, 60, .inl tg))) (h_tsa : V tsa = some (.inl (cI, 60, .inl ts))) (h_tpa : V tpa = some (.inl (cI, 60, .inl tp))) (h_tqa : V tqa = some (.inl (cI, 60, .inl tq))) (h_nd : V nd = some (.inr (3, [.ref nl, .int (nI nn)]))) (h_nl : V nl = some (.inl (cN, 30, .inr (.inr (.inr (.inr nf)))))) (h_no : V no = some (.inr (2, [.int (nI 2), .int (nI a0), .int (nI b0), .int ps, .int pp, .int po, .int ex, .int va, .int st, .int fr, .int ln, .int dn, .int ag, .int gr]))) (h_xe : V xe = some (.inr (0, [.ref ak, .ref af, .ref as, .ref ap, .ref av, .int (nI ne)]))) (h_ak : V ak = some (.inl (cI, 30, .inl kd))) (h_af : V af = some (.inl (cI, 30, .inl fs))) (h_as : V as = some (.inl (cI, 30, .inl sc))) (h_ap : V ap = some (.inl (cI, 30, .inl pt))) (h_av : V av = some (.inl (cI, 30, .inl vl))) (h_ky : V ky = some (.inl (cI, 80, .inl kf))) (h_pl : V pl = some (.inl (cI, 80, .inl pf))) (h_tb : V tb = some (.inl (cR, 120, .inr (.inr (.inr (.inr tf)))))) (h_a : V a = some (.inr (4, [.ref c, .int (nI n), .int tl, .int mk]))) (h_c : V c = some (.inl (cI, 486, .inl f))) (h_b : V b = some (.inr (4, [.ref c2, .int (nI n2), .int tl2, .int mk2]))) (h_c2 : V c2 = some (.inl (cI, 486, .inl g2))) (hX : ExR E ne kd fs sc pt) (hd : [ak, af, as, ap, av].Nodup) (hi : i < 30) (hg : g < 4) (hnf : nf i = some no) (hky : nq ky pl) (hnt : nt ≤ 60) (ht : tf (i * 4 + g) = none) (ha0 : a0 < i) (hta : tf (a0 * 4 + g) = some a) (hSa : TRep SA n tl f) (hb0 : b0 < i) (htb : tf (b0 * 4 + g) = some b) (hSb : TRep SB n2 tl2 g2) : ct zl D [(cI, .int), (cN, .object "AlgebraTree$Node"), (cR, .object "AlgebraTree$Rows")] base yX1_refresh cX1_refresh 6 none 5 2 490 [.ref mo, .int (nI i), .int (nI g)] V (fun zv zV => ∃ t : Nat, ∃ q : Nat, ∃ vl1 : Nat → Int32, ∃ kf1 : Nat → Int32, ∃ pf1 : Nat → Int32, ∃ n1 : Nat, ∃ tl1 : Int32, ∃ f1 : Nat → Int32, zv = none ∧ zV = gv_up (gv_up (gv_up (gv_up (gv_up (gv_up V av (.inl (cI, 30, .inl vl1))) ky (.inl (cI, 80, .inl kf1))) pl (.inl (cI, 80, .inl pf1))) q (.inl (cI, 486, .inl f1))) t (.inr (4, [.ref q, .int (nI n1), .int tl1, .int (nI nt)]))) tb (.inl (cR, 120, .inr (.inr (.inr (.inr (va_up tf (i * 4 + g) (some t))))))) ∧ (V t = none) ∧ (V q = none) ∧ (nq t q) ∧ (TRep (SA.bind (fun A => SB.bind (fun B => cap (A ++ B)))) n1 tl1 f1)) := by
  refine ct_of "AlgebraTree$Maker" rfl (by decide) (Nat.le_of_ble_eq_true rfl) ?_
  intro zp ze zs zm zargs zbelow zmeth zc C zr zlk znm
  refine k_pc (pc' := 0) (st' := []) rfl rfl ?_
  show K zp zl ze (gv_rm 5 2 490) zs zm zargs zbelow zmeth zc D base 6 (gv_E D [(cI, .int), (cN, .object "AlgebraTree$Node"), (cR, .object "AlgebraTree$Rows")] base zbelow zargs zs 2 490 (fun zv zV => ∃ t : Nat, ∃ q : Nat, ∃ vl1 : Nat → Int32, ∃ kf1 : Nat → Int32, ∃ pf1 : Nat → Int32, ∃ n1 : Nat, ∃ tl1 : Int32, ∃ f1 : Nat → Int32, zv = none ∧ zV = gv_up (gv_up (gv_up (gv_up (gv_up (gv_up V av (.inl (cI, 30, .inl vl1))) ky (.inl (cI, 80, .inl kf1))) pl (.inl (cI, 80, .inl pf1))) q (.inl (cI, 486, .inl f1))) t (.inr (4, [.ref q, .int (nI n1), .int tl1, .int (nI nt)]))) tb (.inl (cR, 120, .inr (.inr (.inr (.inr (va_up tf (i * 4 + g) (some t))))))) ∧ (V t = none) ∧ (V q = none) ∧ (nq t q) ∧ (TRep (SA.bind (fun A => SB.bind (fun B => cap (A ++ B)))) n1 tl1 f1))) V 0 0 [(0, .ref mo), (1, .int (nI i)), (2, .int (nI g))] 0 []
  refine k_aload_n C dX1_refresh_0 rfl 0 rfl ?_
  refine k_iload_n C dX1_refresh_1 rfl 1 rfl ?_
  refine k_iload_n C dX1_refresh_2 rfl 2 rfl ?_
  refine k_callV C mv_1_56 (c_tableOfN  h_mo h_tb (by first | assumption | omega) (by first | assumption | omega) (by first | assumption | omega)) h_mo rfl rfl (by simp [Value.category]) ⟨by decide, by decide⟩ ⟨(by decide), (by decide)⟩ dX1_refresh_3 (fun zv zV zh => ?_)
  obtain ⟨t_w1, q_w1, rfl, rfl, ht1_w1, hq_w1, htq_w1⟩ := zh
  refine k_pc (pc' := 6) (st' := .ref t_w1 :: []) rfl rfl ?_
  have ne2 : nq mo t_w1 := gv_nf ht1_w1 h_mo
  have ne3 : nq tr t_w1 := gv_nf ht1_w1 h_tr
  have ne4 : nq tga t_w1 := gv_nf ht1_w1 h_tga
  have ne5 : nq tsa t_w1 := gv_nf ht1_w1 h_tsa
  have ne6 : nq tpa t_w1 := gv_nf ht1_w1 h_tpa
  have ne7 : nq tqa t_w1 := gv_nf ht1_w1 h_tqa
  have ne8 : nq nd t_w1 := gv_nf ht1_w1 h_nd
  have ne9 : nq nl t_w1 := gv_nf ht1_w1 h_nl
  have ne10 : nq no t_w1 := gv_nf ht1_w1 h_no
  have ne11 : nq xe t_w1 := gv_nf ht1_w1 h_xe
  have ne12 : nq ak t_w1 := gv_nf ht1_w1 h_ak
  have ne13 : nq af t_w1 := gv_nf ht1_w1 h_af
  have ne14 : nq as t_w1 := gv_nf ht1_w1 h_as
  have ne15 : nq ap t_w1 := gv_nf ht1_w1 h_ap
  have ne16 : nq av t_w1 := gv_nf ht1_w1 h_av
  have ne17 : nq ky t_w1 := gv_nf ht1_w1 h_ky
  have ne18 : nq pl t_w1 := gv_nf ht1_w1 h_pl
  have ne19 : nq tb t_w1 := gv_nf ht1_w1 h_tb
  have ne20 : nq a t_w1 := gv_nf ht1_w1 h_a
  have ne21 : nq c t_w1 := gv_nf ht1_w1 h_c
  have ne22 : nq b t_w1 := gv_nf ht1_w1 h_b
  have ne23 : nq c2 t_w1 := gv_nf ht1_w1 h_c2
  have ne24 : nq mo q_w1 := gv_nf hq_w1 h_mo
  have ne25 : nq tr q_w1 := gv_nf hq_w1 h_tr
  have ne26 : nq tga q_w1 := gv_nf hq_w1 h_tga
  have ne27 : nq tsa q_w1 := gv_nf hq_w1 h_tsa
  have ne28 : nq tpa q_w1 := gv_nf hq_w1 h_tpa
  have ne29 : nq tqa q_w1 := gv_nf hq_w1 h_tqa
  have ne30 : nq nd q_w1 := gv_nf hq_w1 h_nd
  have ne31 : nq nl q_w1 := gv_nf hq_w1 h_nl
  have ne32 : nq no q_w1 := gv_nf hq_w1 h_no
  have ne33 : nq xe q_w1 := gv_nf hq_w1 h_xe
  have ne34 : nq ak q_w1 := gv_nf hq_w1 h_ak
  have ne35 : nq af q_w1 := gv_nf hq_w1 h_af
  have ne36 : nq as q_w1 := gv_nf hq_w1 h_as
  have ne37 : nq ap q_w1 := gv_nf hq_w1 h_ap
  have ne38 : nq av q_w1 := gv_nf hq_w1 h_av
  have ne39 : nq ky q_w1 := gv_nf hq_w1 h_ky
  have ne40 : nq pl q_w1 := gv_nf hq_w1 h_pl
  have ne41 : nq tb q_w1 := gv_nf hq_w1 h_tb
  have ne42 : nq a q_w1 := gv_nf hq_w1 h_a
  have ne43 : nq c q_w1 := gv_nf hq_w1 h_c
  have ne44 : nq b q_w1 := gv_nf hq_w1 h_b
  have ne45 : nq c2 q_w1 := gv_nf hq_w1 h_c2
  refine k_astore_n (lv' := [(3, .ref t_w1), (0, .ref mo), (1, .int (nI i)), (2, .int (nI g))]) C dX1_refresh_6 rfl (by decide) rfl ?_
  refine k_aload_n C dX1_refresh_7 rfl 0 rfl ?_
  refine k_get (ci := 4) (k := 3) C fl_1_84 ((gv_up_n (Ne.symm ne19)).trans ((gv_up_n htq_w1).trans gv_up_s)) rfl dX1_refresh_8 ?_
  refine k_aload_n C dX1_refresh_11 rfl 1 rfl ?_
  have ne46 : nq mo tb := gv_ne h_tb h_mo (by simp)
  refine k_get (ci := 1) (k := 0) C fl_1_12 ((gv_up_n ne46).trans ((gv_up_n ne24).trans ((gv_up_n ne2).trans h_mo))) rfl dX1_refresh_12 ?_
  have ne47 : nq tr tb := gv_ne h_tb h_tr (by simp)
  refine k_get (ci := 5) (k := 4) C fl_1_87 ((gv_up_n ne47).trans ((gv_up_n ne25).trans ((gv_up_n ne3).trans h_tr))) rfl dX1_refresh_15 ?_
  refine k_icmp_ne (tgt := 22) C dX1_refresh_18 (by decide) (fun c18 => ?_) (fun c18 => ?_)
  · skip
    refine k_aload_n C dX1_refresh_22 rfl 0 rfl ?_
    refine k_callV_pv C mv_1_90 (c_X4_clear  ((gv_up_n (Ne.symm ne19)).trans ((gv_up_n htq_w1).trans gv_up_s)) ((gv_up_n (Ne.symm ne41)).trans gv_up_s) ) ((gv_up_n (Ne.symm ne19)).trans ((gv_up_n htq_w1).trans gv_up_s)) rfl rfl (by simp [Value.category]) ⟨by decide, by decide⟩ ⟨(by decide), (by decide)⟩ dX1_refresh_23 ?_
    refine k_view (V1 := gv_up (gv_up (gv_up V t_w1 (.inr (4, [.ref q_w1, .int (nI 0), .int (nI 0), .int (-1 : Int32)]))) q_w1 (.inl (cI, 486, .inl (fun _ => 0)))) tb (.inl (cR, 120, .inr (.inr (.inr (.inr (va_up tf (i * 4 + g) (some t_w1)))))))) ((gv_uc (Ne.symm ne19)).trans (congrArg (fun W => gv_up W tb (.inl (cR, 120, .inr (.inr (.inr (.inr (va_up tf (i * 4 + g) (some t_w1)))))))) ((gv_uc htq_w1).trans (congrArg (fun W => gv_up W q_w1 (.inl (cI, 486, .inl (fun _ => 0)))) gv_uu)))) ?_
    refine k_aload_n C dX1_refresh_26 rfl 0 rfl ?_
    refine k_aload_n C dX1_refresh_27 rfl 1 rfl ?_
    refine k_get (ci := 1) (k := 0) C fl_1_12 ((gv_up_n ne46).trans ((gv_up_n ne24).trans ((gv_up_n ne2).trans h_mo))) rfl dX1_refresh_28 ?_
    refine k_get (ci := 5) (k := 4) C fl_1_87 ((gv_up_n ne47).trans ((gv_up_n ne25).trans ((gv_up_n ne3).trans h_tr))) rfl dX1_refresh_31 ?_
    refine k_put (ci := 4) (k := 3) (fs' := [.ref q_w1, .int (nI 0), .int (nI 0), .int (nI nt)]) C fl_1_84 pf_4_3 ((gv_up_n (Ne.symm ne19)).trans ((gv_up_n htq_w1).trans gv_up_s)) rfl rfl (Nat.le_of_ble_eq_true rfl) rfl dX1_refresh_34 ?_
    refine k_view (V1 := gv_up (gv_up (gv_up V t_w1 (.inr (4, [.ref q_w1, .int (nI 0), .int (nI 0), .int (nI nt)]))) q_w1 (.inl (cI, 486, .inl (fun _ => 0)))) tb (.inl (cR, 120, .inr (.inr (.inr (.inr (va_up tf (i * 4 + g) (some t_w1)))))))) ((gv_uc (Ne.symm ne19)).trans (congrArg (fun W => gv_up W tb (.inl (cR, 120, .inr (.inr (.inr (.inr (va_up tf (i * 4 + g) (some t_w1)))))))) ((gv_uc htq_w1).trans (congrArg (fun W => gv_up W q_w1 (.inl (cI, 486, .inl (fun _ => 0)))) gv_uu)))) ?_
    refine k_aload_n C dX1_refresh_37 rfl 1 rfl ?_
    refine k_get (ci := 1) (k := 2) C fl_1_28 ((gv_up_n ne46).trans ((gv_up_n ne24).trans ((gv_up_n ne2).trans h_mo))) rfl dX1_refresh_38 ?_
    refine k_iload_n C dX1_refresh_41 rfl 2 rfl ?_
    have ne48 : nq nd tb := gv_ne h_tb h_nd (by simp)
    have ne49 : nq nl tb := gv_ne h_tb h_nl (by simp)
    refine k_callV_pr C mv_1_60 (c_X3_at  ((gv_up_n ne48).trans ((gv_up_n ne30).trans ((gv_up_n ne8).trans h_nd))) ((gv_up_n ne49).trans ((gv_up_n ne31).trans ((gv_up_n ne9).trans h_nl))) (by first | assumption | omega) hnf) ((gv_up_n ne48).trans ((gv_up_n ne30).trans ((gv_up_n ne8).trans h_nd))) rfl rfl (by simp [Value.category]) ⟨by decide, by decide⟩ ⟨(by decide), (by decide)⟩ dX1_refresh_42 ?_
    refine k_astore (lv' := [(4, .ref no), (3, .ref t_w1), (0, .ref mo), (1, .int (nI i)), (2, .int (nI g))]) C dX1_refresh_45 (by decide) rfl ?_
    refine k_aload C dX1_refresh_47 0 rfl ?_
    have ne50 : nq no tb := gv_ne h_tb h_no (by simp)
    refine k_get (ci := 2) (k := 0) C fl_1_77 ((gv_up_n ne50).trans ((gv_up_n ne32).trans ((gv_up_n ne10).trans h_no))) rfl dX1_refresh_49 ?_
    refine k_bipush (v := nI 12) C dX1_refresh_52 rfl ?_
    refine k_icmp_ne (tgt := 65) C dX1_refresh_54 (by decide) (fun c54 => ?_) (fun c54 => ?_)
    · skip
      have b54 : ¬ 2 = 12 := fun z => c54 ((nI_eq (a := 2) (b := 12) (by omega) (by omega)).mpr z)
      refine k_iload_n C dX1_refresh_65 rfl 4 rfl ?_
      refine k_istore (lv' := [(5, .int (nI g)), (4, .ref no), (3, .ref t_w1), (0, .ref mo), (1, .int (nI i)), (2, .int (nI g))]) C dX1_refresh_66 (by decide) rfl ?_
      refine k_aload C dX1_refresh_68 1 rfl ?_
      refine k_get (ci := 2) (k := 0) C fl_1_77 ((gv_up_n ne50).trans ((gv_up_n ne32).trans ((gv_up_n ne10).trans h_no))) rfl dX1_refresh_70 ?_
      refine k_if_ne (tgt := 87) C dX1_refresh_73 (by decide) (fun c73 => ?_) (fun c73 => ?_)
      · skip
        have b73 : ¬ 2 = 0 := fun z => c73 ((nI_eq (a := 2) (b := 0) (by omega) (by omega)).mpr z)
        refine k_aload C dX1_refresh_87 1 rfl ?_
        refine k_get (ci := 2) (k := 0) C fl_1_77 ((gv_up_n ne50).trans ((gv_up_n ne32).trans ((gv_up_n ne10).trans h_no))) rfl dX1_refresh_89 ?_
        refine k_bipush (v := nI 13) C dX1_refresh_92 rfl ?_
        refine k_icmp_ne (tgt := 107) C dX1_refresh_94 (by decide) (fun c94 => ?_) (fun c94 => ?_)
        · skip
          have b94 : ¬ 2 = 13 := fun z => c94 ((nI_eq (a := 2) (b := 13) (by omega) (by omega)).mpr z)
          refine k_aload C dX1_refresh_107 1 rfl ?_
          refine k_get (ci := 2) (k := 2) C fl_1_74 ((gv_up_n ne50).trans ((gv_up_n ne32).trans ((gv_up_n ne10).trans h_no))) rfl dX1_refresh_109 ?_
          refine k_iconst (v := (-1 : Int32)) C dX1_refresh_112 (by decide) ?_
          refine k_icmp_ne (tgt := 137) C dX1_refresh_113 (by decide) (fun c113 => ?_) (fun c113 => ?_)
          · skip
            refine k_aload_n C dX1_refresh_137 rfl 3 rfl ?_
            refine k_aload C dX1_refresh_138 1 rfl ?_
            refine k_aload_n C dX1_refresh_140 rfl 3 rfl ?_
            refine k_aload C dX1_refresh_141 1 rfl ?_
            refine k_get (ci := 2) (k := 1) C fl_1_68 ((gv_up_n ne50).trans ((gv_up_n ne32).trans ((gv_up_n ne10).trans h_no))) rfl dX1_refresh_143 ?_
            refine k_iload C dX1_refresh_146 0 rfl ?_
            refine k_callV_pr C mv_1_56 (c_tableOf  ((gv_up_n ne46).trans ((gv_up_n ne24).trans ((gv_up_n ne2).trans h_mo))) gv_up_s (by first | assumption | omega) (by first | assumption | omega) (by simp only [va_up]; rw [if_neg (by omega)]; exact hta)) ((gv_up_n ne46).trans ((gv_up_n ne24).trans ((gv_up_n ne2).trans h_mo))) rfl rfl (by simp [Value.category]) ⟨by decide, by decide⟩ ⟨(by decide), (by decide)⟩ dX1_refresh_148 ?_
            refine k_aload_n C dX1_refresh_151 rfl 3 rfl ?_
            refine k_aload C dX1_refresh_152 1 rfl ?_
            refine k_get (ci := 2) (k := 2) C fl_1_74 ((gv_up_n ne50).trans ((gv_up_n ne32).trans ((gv_up_n ne10).trans h_no))) rfl dX1_refresh_154 ?_
            refine k_iload C dX1_refresh_157 0 rfl ?_
            refine k_callV_pr C mv_1_56 (c_tableOf  ((gv_up_n ne46).trans ((gv_up_n ne24).trans ((gv_up_n ne2).trans h_mo))) gv_up_s (by first | assumption | omega) (by first | assumption | omega) (by simp only [va_up]; rw [if_neg (by omega)]; exact htb)) ((gv_up_n ne46).trans ((gv_up_n ne24).trans ((gv_up_n ne2).trans h_mo))) rfl rfl (by simp [Value.category]) ⟨by decide, by decide⟩ ⟨(by decide), (by decide)⟩ dX1_refresh_159 ?_
            refine k_aload_n C dX1_refresh_162 rfl 2 rfl ?_
            rcases SA with _ | A
            · skip
              have ne51 : nq xe tb := gv_ne h_tb h_xe (by simp)
              have ne52 : nq ak tb := gv_ne h_tb h_ak (by simp)
              have ne53 : nq af tb := gv_ne h_tb h_af (by simp)
              have ne54 : nq as tb := gv_ne h_tb h_as (by simp)
              have ne55 : nq ap tb := gv_ne h_tb h_ap (by simp)
              have ne56 : nq av tb := gv_ne h_tb h_av (by simp)
              have ne57 : nq a tb := gv_ne h_tb h_a (by simp)
              have ne58 : nq c tb := gv_ne h_tb h_c (by simp)
              have ne59 : nq b tb := gv_ne h_tb h_b (by simp)
              have ne60 : nq c2 tb := gv_ne h_tb h_c2 (by simp)
              have ne61 : nq ky tb := gv_ne h_tb h_ky (by simp)
              have ne62 : nq pl tb := gv_ne h_tb h_pl (by simp)
              refine k_callV C mv_1_105 (c_overL2  ((gv_up_n ne46).trans ((gv_up_n ne24).trans ((gv_up_n ne2).trans h_mo))) ((gv_up_n ne50).trans ((gv_up_n ne32).trans ((gv_up_n ne10).trans h_no))) ((gv_up_n ne51).trans ((gv_up_n ne33).trans ((gv_up_n ne11).trans h_xe))) ((gv_up_n ne52).trans ((gv_up_n ne34).trans ((gv_up_n ne12).trans h_ak))) ((gv_up_n ne53).trans ((gv_up_n ne35).trans ((gv_up_n ne13).trans h_af))) ((gv_up_n ne54).trans ((gv_up_n ne36).trans ((gv_up_n ne14).trans h_as))) ((gv_up_n ne55).trans ((gv_up_n ne37).trans ((gv_up_n ne15).trans h_ap))) ((gv_up_n ne56).trans ((gv_up_n ne38).trans ((gv_up_n ne16).trans h_av))) ((gv_up_n ne57).trans ((gv_up_n ne42).trans ((gv_up_n ne20).trans h_a))) ((gv_up_n ne58).trans ((gv_up_n ne43).trans ((gv_up_n ne21).trans h_c))) ((gv_up_n ne59).trans ((gv_up_n ne44).trans ((gv_up_n ne22).trans h_b))) ((gv_up_n ne60).trans ((gv_up_n ne45).trans ((gv_up_n ne23).trans h_c2))) ((gv_up_n (Ne.symm ne19)).trans ((gv_up_n htq_w1).trans gv_up_s)) ((gv_up_n (Ne.symm ne41)).trans gv_up_s) ((gv_up_n ne61).trans ((gv_up_n ne39).trans ((gv_up_n ne17).trans h_ky))) ((gv_up_n ne62).trans ((gv_up_n ne40).trans ((gv_up_n ne18).trans h_pl))) (Or.inl hSa) (by first | assumption | omega) (Ne.symm ne20) (Ne.symm ne43) (Ne.symm ne22) (Ne.symm ne45) hky) ((gv_up_n ne46).trans ((gv_up_n ne24).trans ((gv_up_n ne2).trans h_mo))) rfl rfl (by simp [Value.category]) ⟨by decide, by decide⟩ ⟨(by decide), (by decide)⟩ dX1_refresh_163 (fun zv zV zh => ?_)
              obtain ⟨vl1_w63, kf1_w63, pf1_w63, n1_w63, tl1_w63, f1_w63, rfl, rfl, ht1_w63⟩ := zh
              refine k_pc (pc' := 166) (st' := []) rfl rfl ?_
              refine k_view (V1 := gv_up (gv_up (gv_up (gv_up (gv_up (gv_up (gv_up V t_w1 (.inr (4, [.ref q_w1, .int (nI 0), .int (nI 0), .int (nI nt)]))) q_w1 (.inl (cI, 486, .inl f1_w63))) tb (.inl (cR, 120, .inr (.inr (.inr (.inr (va_up tf (i * 4 + g) (some t_w1)))))))) av (.inl (cI, 30, .inl vl1_w63))) ky (.inl (cI, 80, .inl kf1_w63))) pl (.inl (cI, 80, .inl pf1_w63))) t_w1 (.inr (4, [.ref q_w1, .int (nI n1_w63), .int tl1_w63, .int (nI nt)]))) (congrArg (fun W => gv_up W t_w1 (.inr (4, [.ref q_w1, .int (nI n1_w63), .int tl1_w63, .int (nI nt)]))) ((gv_uc (Ne.symm ne40)).trans (congrArg (fun W => gv_up W pl (.inl (cI, 80, .inl pf1_w63))) ((gv_uc (Ne.symm ne39)).trans (congrArg (fun W => gv_up W ky (.inl (cI, 80, .inl kf1_w63))) ((gv_uc (Ne.symm ne38)).trans (congrArg (fun W => gv_up W av (.inl (cI, 30, .inl vl1_w63))) ((gv_uc (Ne.symm ne41)).trans (congrArg (fun W => gv_up W tb (.inl (cR, 120, .inr (.inr (.inr (.inr (va_up tf (i * 4 + g) (some t_w1)))))))) gv_uu))))))))) ?_
              refine k_view (V1 := gv_up (gv_up (gv_up (gv_up (gv_up (gv_up V t_w1 (.inr (4, [.ref q_w1, .int (nI n1_w63), .int tl1_w63, .int (nI nt)]))) q_w1 (.inl (cI, 486, .inl f1_w63))) tb (.inl (cR, 120, .inr (.inr (.inr (.inr (va_up tf (i * 4 + g) (some t_w1)))))))) av (.inl (cI, 30, .inl vl1_w63))) ky (.inl (cI, 80, .inl kf1_w63))) pl (.inl (cI, 80, .inl pf1_w63))) ((gv_uc (Ne.symm ne18)).trans (congrArg (fun W => gv_up W pl (.inl (cI, 80, .inl pf1_w63))) ((gv_uc (Ne.symm ne17)).trans (congrArg (fun W => gv_up W ky (.inl (cI, 80, .inl kf1_w63))) ((gv_uc (Ne.symm ne16)).trans (congrArg (fun W => gv_up W av (.inl (cI, 30, .inl vl1_w63))) ((gv_uc (Ne.symm ne19)).trans (congrArg (fun W => gv_up W tb (.inl (cR, 120, .inr (.inr (.inr (.inr (va_up tf (i * 4 + g) (some t_w1)))))))) ((gv_uc htq_w1).trans (congrArg (fun W => gv_up W q_w1 (.inl (cI, 486, .inl f1_w63))) gv_uu)))))))))) ?_
              refine k_view (V1 := gv_up (gv_up (gv_up (gv_up (gv_up (gv_up V t_w1 (.inr (4, [.ref q_w1, .int (nI n1_w63), .int tl1_w63, .int (nI nt)]))) q_w1 (.inl (cI, 486, .inl f1_w63))) av (.inl (cI, 30, .inl vl1_w63))) tb (.inl (cR, 120, .inr (.inr (.inr (.inr (va_up tf (i * 4 + g) (some t_w1)))))))) ky (.inl (cI, 80, .inl kf1_w63))) pl (.inl (cI, 80, .inl pf1_w63))) (congrArg (fun W => gv_up W pl (.inl (cI, 80, .inl pf1_w63))) (congrArg (fun W => gv_up W ky (.inl (cI, 80, .inl kf1_w63))) (gv_uc ne56))) ?_
              refine k_view (V1 := gv_up (gv_up (gv_up (gv_up (gv_up (gv_up V t_w1 (.inr (4, [.ref q_w1, .int (nI n1_w63), .int tl1_w63, .int (nI nt)]))) av (.inl (cI, 30, .inl vl1_w63))) q_w1 (.inl (cI, 486, .inl f1_w63))) tb (.inl (cR, 120, .inr (.inr (.inr (.inr (va_up tf (i * 4 + g) (some t_w1)))))))) ky (.inl (cI, 80, .inl kf1_w63))) pl (.inl (cI, 80, .inl pf1_w63))) (congrArg (fun W => gv_up W pl (.inl (cI, 80, .inl pf1_w63))) (congrArg (fun W => gv_up W ky (.inl (cI, 80, .inl kf1_w63))) (congrArg (fun W => gv_up W tb (.inl (cR, 120, .inr (.inr (.inr (.inr (va_up tf (i * 4 + g) (some t_w1)))))))) (gv_uc ne38)))) ?_
              refine k_view (V1 := gv_up (gv_up (gv_up (gv_up (gv_up (gv_up V av (.inl (cI, 30, .inl vl1_w63))) t_w1 (.inr (4, [.ref q_w1, .int (nI n1_w63), .int tl1_w63, .int (nI nt)]))) q_w1 (.inl (cI, 486, .inl f1_w63))) tb (.inl (cR, 120, .inr (.inr (.inr (.inr (va_up tf (i * 4 + g) (some t_w1)))))))) ky (.inl (cI, 80, .inl kf1_w63))) pl (.inl (cI, 80, .inl pf1_w63))) (congrArg (fun W => gv_up W pl (.inl (cI, 80, .inl pf1_w63))) (congrArg (fun W => gv_up W ky (.inl (cI, 80, .inl kf1_w63))) (congrArg (fun W => gv_up W tb (.inl (cR, 120, .inr (.inr (.inr (.inr (va_up tf (i * 4 + g) (some t_w1)))))))) (congrArg (fun W => gv_up W q_w1 (.inl (cI, 486, .inl f1_w63))) (gv_uc ne16))))) ?_
              refine k_view (V1 := gv_up (gv_up (gv_up (gv_up (gv_up (gv_up V av (.inl (cI, 30, .inl vl1_w63))) t_w1 (.inr (4, [.ref q_w1, .int (nI n1_w63), .int tl1_w63, .int (nI nt)]))) q_w1 (.inl (cI, 486, .inl f1_w63))) ky (.inl (cI, 80, .inl kf1_w63))) tb (.inl (cR, 120, .inr (.inr (.inr (.inr (va_up tf (i * 4 + g) (some t_w1)))))))) pl (.inl (cI, 80, .inl pf1_w63))) (congrArg (fun W => gv_up W pl (.inl (cI, 80, .inl pf1_w63))) (gv_uc ne61)) ?_
              refine k_view (V1 := gv_up (gv_up (gv_up (gv_up (gv_up (gv_up V av (.inl (cI, 30, .inl vl1_w63))) t_w1 (.inr (4, [.ref q_w1, .int (nI n1_w63), .int tl1_w63, .int (nI nt)]))) ky (.inl (cI, 80, .inl kf1_w63))) q_w1 (.inl (cI, 486, .inl f1_w63))) tb (.inl (cR, 120, .inr (.inr (.inr (.inr (va_up tf (i * 4 + g) (some t_w1)))))))) pl (.inl (cI, 80, .inl pf1_w63))) (congrArg (fun W => gv_up W pl (.inl (cI, 80, .inl pf1_w63))) (congrArg (fun W => gv_up W tb (.inl (cR, 120, .inr (.inr (.inr (.inr (va_up tf (i * 4 + g) (some t_w1)))))))) (gv_uc ne39))) ?_
              refine k_view (V1 := gv_up (gv_up (gv_up (gv_up (gv_up (gv_up V av (.inl (cI, 30, .inl vl1_w63))) ky (.inl (cI, 80, .inl kf1_w63))) t_w1 (.inr (4, [.ref q_w1, .int (nI n1_w63), .int tl1_w63, .int (nI nt)]))) q_w1 (.inl (cI, 486, .inl f1_w63))) tb (.inl (cR, 120, .inr (.inr (.inr (.inr (va_up tf (i * 4 + g) (some t_w1)))))))) pl (.inl (cI, 80, .inl pf1_w63))) (congrArg (fun W => gv_up W pl (.inl (cI, 80, .inl pf1_w63))) (congrArg (fun W => gv_up W tb (.inl (cR, 120, .inr (.inr (.inr (.inr (va_up tf (i * 4 + g) (some t_w1)))))))) (congrArg (fun W => gv_up W q_w1 (.inl (cI, 486, .inl f1_w63))) (gv_uc ne17)))) ?_
              refine k_view (V1 := gv_up (gv_up (gv_up (gv_up (gv_up (gv_up V av (.inl (cI, 30, .inl vl1_w63))) ky (.inl (cI, 80, .inl kf1_w63))) t_w1 (.inr (4, [.ref q_w1, .int (nI n1_w63), .int tl1_w63, .int (nI nt)]))) q_w1 (.inl (cI, 486, .inl f1_w63))) pl (.inl (cI, 80, .inl pf1_w63))) tb (.inl (cR, 120, .inr (.inr (.inr (.inr (va_up tf (i * 4 + g) (some t_w1)))))))) (gv_uc ne62) ?_
              refine k_view (V1 := gv_up (gv_up (gv_up (gv_up (gv_up (gv_up V av (.inl (cI, 30, .inl vl1_w63))) ky (.inl (cI, 80, .inl kf1_w63))) t_w1 (.inr (4, [.ref q_w1, .int (nI n1_w63), .int tl1_w63, .int (nI nt)]))) pl (.inl (cI, 80, .inl pf1_w63))) q_w1 (.inl (cI, 486, .inl f1_w63))) tb (.inl (cR, 120, .inr (.inr (.inr (.inr (va_up tf (i * 4 + g) (some t_w1)))))))) (congrArg (fun W => gv_up W tb (.inl (cR, 120, .inr (.inr (.inr (.inr (va_up tf (i * 4 + g) (some t_w1)))))))) (gv_uc ne40)) ?_
              refine k_view (V1 := gv_up (gv_up (gv_up (gv_up (gv_up (gv_up V av (.inl (cI, 30, .inl vl1_w63))) ky (.inl (cI, 80, .inl kf1_w63))) pl (.inl (cI, 80, .inl pf1_w63))) t_w1 (.inr (4, [.ref q_w1, .int (nI n1_w63), .int tl1_w63, .int (nI nt)]))) q_w1 (.inl (cI, 486, .inl f1_w63))) tb (.inl (cR, 120, .inr (.inr (.inr (.inr (va_up tf (i * 4 + g) (some t_w1)))))))) (congrArg (fun W => gv_up W tb (.inl (cR, 120, .inr (.inr (.inr (.inr (va_up tf (i * 4 + g) (some t_w1)))))))) (congrArg (fun W => gv_up W q_w1 (.inl (cI, 486, .inl f1_w63))) (gv_uc ne18))) ?_
              refine k_view (V1 := gv_up (gv_up (gv_up (gv_up (gv_up (gv_up V av (.inl (cI, 30, .inl vl1_w63))) ky (.inl (cI, 80, .inl kf1_w63))) pl (.inl (cI, 80, .inl pf1_w63))) q_w1 (.inl (cI, 486, .inl f1_w63))) t_w1 (.inr (4, [.ref q_w1, .int (nI n1_w63), .int tl1_w63, .int (nI nt)]))) tb (.inl (cR, 120, .inr (.inr (.inr (.inr (va_up tf (i * 4 + g) (some t_w1)))))))) (congrArg (fun W => gv_up W tb (.inl (cR, 120, .inr (.inr (.inr (.inr (va_up tf (i * 4 + g) (some t_w1)))))))) (gv_uc (Ne.symm htq_w1))) ?_
              exact k_vret C zr zlk ⟨t_w1, q_w1, vl1_w63, kf1_w63, pf1_w63, n1_w63, tl1_w63, f1_w63, rfl, rfl, ht1_w1, hq_w1, htq_w1, ht1_w63⟩ (Nat.le_refl _) (Nat.le_refl _) dX1_refresh_166
            · skip
              rcases SB with _ | B
              · skip
                have ne64 : nq xe tb := gv_ne h_tb h_xe (by simp)
                have ne65 : nq ak tb := gv_ne h_tb h_ak (by simp)
                have ne66 : nq af tb := gv_ne h_tb h_af (by simp)
                have ne67 : nq as tb := gv_ne h_tb h_as (by simp)
                have ne68 : nq ap tb := gv_ne h_tb h_ap (by simp)
                have ne69 : nq av tb := gv_ne h_tb h_av (by simp)
                have ne70 : nq a tb := gv_ne h_tb h_a (by simp)
                have ne71 : nq c tb := gv_ne h_tb h_c (by simp)
                have ne72 : nq b tb := gv_ne h_tb h_b (by simp)
                have ne73 : nq c2 tb := gv_ne h_tb h_c2 (by simp)
                have ne74 : nq ky tb := gv_ne h_tb h_ky (by simp)
                have ne75 : nq pl tb := gv_ne h_tb h_pl (by simp)
                refine k_callV C mv_1_105 (c_overL2  ((gv_up_n ne46).trans ((gv_up_n ne24).trans ((gv_up_n ne2).trans h_mo))) ((gv_up_n ne50).trans ((gv_up_n ne32).trans ((gv_up_n ne10).trans h_no))) ((gv_up_n ne64).trans ((gv_up_n ne33).trans ((gv_up_n ne11).trans h_xe))) ((gv_up_n ne65).trans ((gv_up_n ne34).trans ((gv_up_n ne12).trans h_ak))) ((gv_up_n ne66).trans ((gv_up_n ne35).trans ((gv_up_n ne13).trans h_af))) ((gv_up_n ne67).trans ((gv_up_n ne36).trans ((gv_up_n ne14).trans h_as))) ((gv_up_n ne68).trans ((gv_up_n ne37).trans ((gv_up_n ne15).trans h_ap))) ((gv_up_n ne69).trans ((gv_up_n ne38).trans ((gv_up_n ne16).trans h_av))) ((gv_up_n ne70).trans ((gv_up_n ne42).trans ((gv_up_n ne20).trans h_a))) ((gv_up_n ne71).trans ((gv_up_n ne43).trans ((gv_up_n ne21).trans h_c))) ((gv_up_n ne72).trans ((gv_up_n ne44).trans ((gv_up_n ne22).trans h_b))) ((gv_up_n ne73).trans ((gv_up_n ne45).trans ((gv_up_n ne23).trans h_c2))) ((gv_up_n (Ne.symm ne19)).trans ((gv_up_n htq_w1).trans gv_up_s)) ((gv_up_n (Ne.symm ne41)).trans gv_up_s) ((gv_up_n ne74).trans ((gv_up_n ne39).trans ((gv_up_n ne17).trans h_ky))) ((gv_up_n ne75).trans ((gv_up_n ne40).trans ((gv_up_n ne18).trans h_pl))) (Or.inr hSb) (by first | assumption | omega) (Ne.symm ne20) (Ne.symm ne43) (Ne.symm ne22) (Ne.symm ne45) hky) ((gv_up_n ne46).trans ((gv_up_n ne24).trans ((gv_up_n ne2).trans h_mo))) rfl rfl (by simp [Value.category]) ⟨by decide, by decide⟩ ⟨(by decide), (by decide)⟩ dX1_refresh_163 (fun zv zV zh => ?_)
                obtain ⟨vl1_w76, kf1_w76, pf1_w76, n1_w76, tl1_w76, f1_w76, rfl, rfl, ht1_w76⟩ := zh
                refine k_pc (pc' := 166) (st' := []) rfl rfl ?_
                refine k_view (V1 := gv_up (gv_up (gv_up (gv_up (gv_up (gv_up (gv_up V t_w1 (.inr (4, [.ref q_w1, .int (nI 0), .int (nI 0), .int (nI nt)]))) q_w1 (.inl (cI, 486, .inl f1_w76))) tb (.inl (cR, 120, .inr (.inr (.inr (.inr (va_up tf (i * 4 + g) (some t_w1)))))))) av (.inl (cI, 30, .inl vl1_w76))) ky (.inl (cI, 80, .inl kf1_w76))) pl (.inl (cI, 80, .inl pf1_w76))) t_w1 (.inr (4, [.ref q_w1, .int (nI n1_w76), .int tl1_w76, .int (nI nt)]))) (congrArg (fun W => gv_up W t_w1 (.inr (4, [.ref q_w1, .int (nI n1_w76), .int tl1_w76, .int (nI nt)]))) ((gv_uc (Ne.symm ne40)).trans (congrArg (fun W => gv_up W pl (.inl (cI, 80, .inl pf1_w76))) ((gv_uc (Ne.symm ne39)).trans (congrArg (fun W => gv_up W ky (.inl (cI, 80, .inl kf1_w76))) ((gv_uc (Ne.symm ne38)).trans (congrArg (fun W => gv_up W av (.inl (cI, 30, .inl vl1_w76))) ((gv_uc (Ne.symm ne41)).trans (congrArg (fun W => gv_up W tb (.inl (cR, 120, .inr (.inr (.inr (.inr (va_up tf (i * 4 + g) (some t_w1)))))))) gv_uu))))))))) ?_
                refine k_view (V1 := gv_up (gv_up (gv_up (gv_up (gv_up (gv_up V t_w1 (.inr (4, [.ref q_w1, .int (nI n1_w76), .int tl1_w76, .int (nI nt)]))) q_w1 (.inl (cI, 486, .inl f1_w76))) tb (.inl (cR, 120, .inr (.inr (.inr (.inr (va_up tf (i * 4 + g) (some t_w1)))))))) av (.inl (cI, 30, .inl vl1_w76))) ky (.inl (cI, 80, .inl kf1_w76))) pl (.inl (cI, 80, .inl pf1_w76))) ((gv_uc (Ne.symm ne18)).trans (congrArg (fun W => gv_up W pl (.inl (cI, 80, .inl pf1_w76))) ((gv_uc (Ne.symm ne17)).trans (congrArg (fun W => gv_up W ky (.inl (cI, 80, .inl kf1_w76))) ((gv_uc (Ne.symm ne16)).trans (congrArg (fun W => gv_up W av (.inl (cI, 30, .inl vl1_w76))) ((gv_uc (Ne.symm ne19)).trans (congrArg (fun W => gv_up W tb (.inl (cR, 120, .inr (.inr (.inr (.inr (va_up tf (i * 4 + g) (some t_w1)))))))) ((gv_uc htq_w1).trans (congrArg (fun W => gv_up W q_w1 (.inl (cI, 486, .inl f1_w76))) gv_uu)))))))))) ?_
                refine k_view (V1 := gv_up (gv_up (gv_up (gv_up (gv_up (gv_up V t_w1 (.inr (4, [.ref q_w1, .int (nI n1_w76), .int tl1_w76, .int (nI nt)]))) q_w1 (.inl (cI, 486, .inl f1_w76))) av (.inl (cI, 30, .inl vl1_w76))) tb (.inl (cR, 120, .inr (.inr (.inr (.inr (va_up tf (i * 4 + g) (some t_w1)))))))) ky (.inl (cI, 80, .inl kf1_w76))) pl (.inl (cI, 80, .inl pf1_w76))) (congrArg (fun W => gv_up W pl (.inl (cI, 80, .inl pf1_w76))) (congrArg (fun W => gv_up W ky (.inl (cI, 80, .inl kf1_w76))) (gv_uc ne69))) ?_
                refine k_view (V1 := gv_up (gv_up (gv_up (gv_up (gv_up (gv_up V t_w1 (.inr (4, [.ref q_w1, .int (nI n1_w76), .int tl1_w76, .int (nI nt)]))) av (.inl (cI, 30, .inl vl1_w76))) q_w1 (.inl (cI, 486, .inl f1_w76))) tb (.inl (cR, 120, .inr (.inr (.inr (.inr (va_up tf (i * 4 + g) (some t_w1)))))))) ky (.inl (cI, 80, .inl kf1_w76))) pl (.inl (cI, 80, .inl pf1_w76))) (congrArg (fun W => gv_up W pl (.inl (cI, 80, .inl pf1_w76))) (congrArg (fun W => gv_up W ky (.inl (cI, 80, .inl kf1_w76))) (congrArg (fun W => gv_up W tb (.inl (cR, 120, .inr (.inr (.inr (.inr (va_up tf (i * 4 + g) (some t_w1)))))))) (gv_uc ne38)))) ?_
                refine k_view (V1 := gv_up (gv_up (gv_up (gv_up (gv_up (gv_up V av (.inl (cI, 30, .inl vl1_w76))) t_w1 (.inr (4, [.ref q_w1, .int (nI n1_w76), .int tl1_w76, .int (nI nt)]))) q_w1 (.inl (cI, 486, .inl f1_w76))) tb (.inl (cR, 120, .inr (.inr (.inr (.inr (va_up tf (i * 4 + g) (some t_w1)))))))) ky (.inl (cI, 80, .inl kf1_w76))) pl (.inl (cI, 80, .inl pf1_w76))) (congrArg (fun W => gv_up W pl (.inl (cI, 80, .inl pf1_w76))) (congrArg (fun W => gv_up W ky (.inl (cI, 80, .inl kf1_w76))) (congrArg (fun W => gv_up W tb (.inl (cR, 120, .inr (.inr (.inr (.inr (va_up tf (i * 4 + g) (some t_w1)))))))) (congrArg (fun W => gv_up W q_w1 (.inl (cI, 486, .inl f1_w76))) (gv_uc ne16))))) ?_
                refine k_view (V1 := gv_up (gv_up (gv_up (gv_up (gv_up (gv_up V av (.inl (cI, 30, .inl vl1_w76))) t_w1 (.inr (4, [.ref q_w1, .int (nI n1_w76), .int tl1_w76, .int (nI nt)]))) q_w1 (.inl (cI, 486, .inl f1_w76))) ky (.inl (cI, 80, .inl kf1_w76))) tb (.inl (cR, 120, .inr (.inr (.inr (.inr (va_up tf (i * 4 + g) (some t_w1)))))))) pl (.inl (cI, 80, .inl pf1_w76))) (congrArg (fun W => gv_up W pl (.inl (cI, 80, .inl pf1_w76))) (gv_uc ne74)) ?_
                refine k_view (V1 := gv_up (gv_up (gv_up (gv_up (gv_up (gv_up V av (.inl (cI, 30, .inl vl1_w76))) t_w1 (.inr (4, [.ref q_w1, .int (nI n1_w76), .int tl1_w76, .int (nI nt)]))) ky (.inl (cI, 80, .inl kf1_w76))) q_w1 (.inl (cI, 486, .inl f1_w76))) tb (.inl (cR, 120, .inr (.inr (.inr (.inr (va_up tf (i * 4 + g) (some t_w1)))))))) pl (.inl (cI, 80, .inl pf1_w76))) (congrArg (fun W => gv_up W pl (.inl (cI, 80, .inl pf1_w76))) (congrArg (fun W => gv_up W tb (.inl (cR, 120, .inr (.inr (.inr (.inr (va_up tf (i * 4 + g) (some t_w1)))))))) (gv_uc ne39))) ?_
                refine k_view (V1 := gv_up (gv_up (gv_up (gv_up (gv_up (gv_up V av (.inl (cI, 30, .inl vl1_w76))) ky (.inl (cI, 80, .inl kf1_w76))) t_w1 (.inr (4, [.ref q_w1, .int (nI n1_w76), .int tl1_w76, .int (nI nt)]))) q_w1 (.inl (cI, 486, .inl f1_w76))) tb (.inl (cR, 120, .inr (.inr (.inr (.inr (va_up tf (i * 4 + g) (some t_w1)))))))) pl (.inl (cI, 80, .inl pf1_w76))) (congrArg (fun W => gv_up W pl (.inl (cI, 80, .inl pf1_w76))) (congrArg (fun W => gv_up W tb (.inl (cR, 120, .inr (.inr (.inr (.inr (va_up tf (i * 4 + g) (some t_w1)))))))) (congrArg (fun W => gv_up W q_w1 (.inl (cI, 486, .inl f1_w76))) (gv_uc ne17)))) ?_
                refine k_view (V1 := gv_up (gv_up (gv_up (gv_up (gv_up (gv_up V av (.inl (cI, 30, .inl vl1_w76))) ky (.inl (cI, 80, .inl kf1_w76))) t_w1 (.inr (4, [.ref q_w1, .int (nI n1_w76), .int tl1_w76, .int (nI nt)]))) q_w1 (.inl (cI, 486, .inl f1_w76))) pl (.inl (cI, 80, .inl pf1_w76))) tb (.inl (cR, 120, .inr (.inr (.inr (.inr (va_up tf (i * 4 + g) (some t_w1)))))))) (gv_uc ne75) ?_
                refine k_view (V1 := gv_up (gv_up (gv_up (gv_up (gv_up (gv_up V av (.inl (cI, 30, .inl vl1_w76))) ky (.inl (cI, 80, .inl kf1_w76))) t_w1 (.inr (4, [.ref q_w1, .int (nI n1_w76), .int tl1_w76, .int (nI nt)]))) pl (.inl (cI, 80, .inl pf1_w76))) q_w1 (.inl (cI, 486, .inl f1_w76))) tb (.inl (cR, 120, .inr (.inr (.inr (.inr (va_up tf (i * 4 + g) (some t_w1)))))))) (congrArg (fun W => gv_up W tb (.inl (cR, 120, .inr (.inr (.inr (.inr (va_up tf (i * 4 + g) (some t_w1)))))))) (gv_uc ne40)) ?_
                refine k_view (V1 := gv_up (gv_up (gv_up (gv_up (gv_up (gv_up V av (.inl (cI, 30, .inl vl1_w76))) ky (.inl (cI, 80, .inl kf1_w76))) pl (.inl (cI, 80, .inl pf1_w76))) t_w1 (.inr (4, [.ref q_w1, .int (nI n1_w76), .int tl1_w76, .int (nI nt)]))) q_w1 (.inl (cI, 486, .inl f1_w76))) tb (.inl (cR, 120, .inr (.inr (.inr (.inr (va_up tf (i * 4 + g) (some t_w1)))))))) (congrArg (fun W => gv_up W tb (.inl (cR, 120, .inr (.inr (.inr (.inr (va_up tf (i * 4 + g) (some t_w1)))))))) (congrArg (fun W => gv_up W q_w1 (.inl (cI, 486, .inl f1_w76))) (gv_uc ne18))) ?_
                refine k_view (V1 := gv_up (gv_up (gv_up (gv_up (gv_up (gv_up V av (.inl (cI, 30, .inl vl1_w76))) ky (.inl (cI, 80, .inl kf1_w76))) pl (.inl (cI, 80, .inl pf1_w76))) q_w1 (.inl (cI, 486, .inl f1_w76))) t_w1 (.inr (4, [.ref q_w1, .int (nI n1_w76), .int tl1_w76, .int (nI nt)]))) tb (.inl (cR, 120, .inr (.inr (.inr (.inr (va_up tf (i * 4 + g) (some t_w1)))))))) (congrArg (fun W => gv_up W tb (.inl (cR, 120, .inr (.inr (.inr (.inr (va_up tf (i * 4 + g) (some t_w1)))))))) (gv_uc (Ne.symm htq_w1))) ?_
                exact k_vret C zr zlk ⟨t_w1, q_w1, vl1_w76, kf1_w76, pf1_w76, n1_w76, tl1_w76, f1_w76, rfl, rfl, ht1_w1, hq_w1, htq_w1, ht1_w76⟩ (Nat.le_refl _) (Nat.le_refl _) dX1_refresh_166
              · skip
                have ne77 : nq xe tb := gv_ne h_tb h_xe (by simp)
                have ne78 : nq ak tb := gv_ne h_tb h_ak (by simp)
                have ne79 : nq af tb := gv_ne h_tb h_af (by simp)
                have ne80 : nq as tb := gv_ne h_tb h_as (by simp)
                have ne81 : nq ap tb := gv_ne h_tb h_ap (by simp)
                have ne82 : nq av tb := gv_ne h_tb h_av (by simp)
                have ne83 : nq a tb := gv_ne h_tb h_a (by simp)
                have ne84 : nq c tb := gv_ne h_tb h_c (by simp)
                have ne85 : nq b tb := gv_ne h_tb h_b (by simp)
                have ne86 : nq c2 tb := gv_ne h_tb h_c2 (by simp)
                have ne87 : nq ky tb := gv_ne h_tb h_ky (by simp)
                have ne88 : nq pl tb := gv_ne h_tb h_pl (by simp)
                refine k_callV C mv_1_105 (c_over2  ((gv_up_n ne46).trans ((gv_up_n ne24).trans ((gv_up_n ne2).trans h_mo))) ((gv_up_n ne50).trans ((gv_up_n ne32).trans ((gv_up_n ne10).trans h_no))) ((gv_up_n ne77).trans ((gv_up_n ne33).trans ((gv_up_n ne11).trans h_xe))) ((gv_up_n ne78).trans ((gv_up_n ne34).trans ((gv_up_n ne12).trans h_ak))) ((gv_up_n ne79).trans ((gv_up_n ne35).trans ((gv_up_n ne13).trans h_af))) ((gv_up_n ne80).trans ((gv_up_n ne36).trans ((gv_up_n ne14).trans h_as))) ((gv_up_n ne81).trans ((gv_up_n ne37).trans ((gv_up_n ne15).trans h_ap))) ((gv_up_n ne82).trans ((gv_up_n ne38).trans ((gv_up_n ne16).trans h_av))) ((gv_up_n ne83).trans ((gv_up_n ne42).trans ((gv_up_n ne20).trans h_a))) ((gv_up_n ne84).trans ((gv_up_n ne43).trans ((gv_up_n ne21).trans h_c))) ((gv_up_n ne85).trans ((gv_up_n ne44).trans ((gv_up_n ne22).trans h_b))) ((gv_up_n ne86).trans ((gv_up_n ne45).trans ((gv_up_n ne23).trans h_c2))) ((gv_up_n (Ne.symm ne19)).trans ((gv_up_n htq_w1).trans gv_up_s)) ((gv_up_n (Ne.symm ne41)).trans gv_up_s) ((gv_up_n ne87).trans ((gv_up_n ne39).trans ((gv_up_n ne17).trans h_ky))) ((gv_up_n ne88).trans ((gv_up_n ne40).trans ((gv_up_n ne18).trans h_pl))) (by first | assumption | omega) (by first | assumption | omega) hSa.2 (Ne.symm ne20) (Ne.symm ne43) hSb.2 (Ne.symm ne22) (Ne.symm ne45) hSa.1 hSb.1 hky) ((gv_up_n ne46).trans ((gv_up_n ne24).trans ((gv_up_n ne2).trans h_mo))) rfl rfl (by simp [Value.category]) ⟨by decide, by decide⟩ ⟨(by decide), (by decide)⟩ dX1_refresh_163 (fun zv zV zh => ?_)
                obtain ⟨vl1_w89, kf1_w89, pf1_w89, n1_w89, tl1_w89, f1_w89, rfl, rfl, ht1_w89⟩ := zh
                refine k_pc (pc' := 166) (st' := []) rfl rfl ?_
                refine k_view (V1 := gv_up (gv_up (gv_up (gv_up (gv_up (gv_up (gv_up V t_w1 (.inr (4, [.ref q_w1, .int (nI 0), .int (nI 0), .int (nI nt)]))) q_w1 (.inl (cI, 486, .inl f1_w89))) tb (.inl (cR, 120, .inr (.inr (.inr (.inr (va_up tf (i * 4 + g) (some t_w1)))))))) av (.inl (cI, 30, .inl vl1_w89))) ky (.inl (cI, 80, .inl kf1_w89))) pl (.inl (cI, 80, .inl pf1_w89))) t_w1 (.inr (4, [.ref q_w1, .int (nI n1_w89), .int tl1_w89, .int (nI nt)]))) (congrArg (fun W => gv_up W t_w1 (.inr (4, [.ref q_w1, .int (nI n1_w89), .int tl1_w89, .int (nI nt)]))) ((gv_uc (Ne.symm ne40)).trans (congrArg (fun W => gv_up W pl (.inl (cI, 80, .inl pf1_w89))) ((gv_uc (Ne.symm ne39)).trans (congrArg (fun W => gv_up W ky (.inl (cI, 80, .inl kf1_w89))) ((gv_uc (Ne.symm ne38)).trans (congrArg (fun W => gv_up W av (.inl (cI, 30, .inl vl1_w89))) ((gv_uc (Ne.symm ne41)).trans (congrArg (fun W => gv_up W tb (.inl (cR, 120, .inr (.inr (.inr (.inr (va_up tf (i * 4 + g) (some t_w1)))))))) gv_uu))))))))) ?_
                refine k_view (V1 := gv_up (gv_up (gv_up (gv_up (gv_up (gv_up V t_w1 (.inr (4, [.ref q_w1, .int (nI n1_w89), .int tl1_w89, .int (nI nt)]))) q_w1 (.inl (cI, 486, .inl f1_w89))) tb (.inl (cR, 120, .inr (.inr (.inr (.inr (va_up tf (i * 4 + g) (some t_w1)))))))) av (.inl (cI, 30, .inl vl1_w89))) ky (.inl (cI, 80, .inl kf1_w89))) pl (.inl (cI, 80, .inl pf1_w89))) ((gv_uc (Ne.symm ne18)).trans (congrArg (fun W => gv_up W pl (.inl (cI, 80, .inl pf1_w89))) ((gv_uc (Ne.symm ne17)).trans (congrArg (fun W => gv_up W ky (.inl (cI, 80, .inl kf1_w89))) ((gv_uc (Ne.symm ne16)).trans (congrArg (fun W => gv_up W av (.inl (cI, 30, .inl vl1_w89))) ((gv_uc (Ne.symm ne19)).trans (congrArg (fun W => gv_up W tb (.inl (cR, 120, .inr (.inr (.inr (.inr (va_up tf (i * 4 + g) (some t_w1)))))))) ((gv_uc htq_w1).trans (congrArg (fun W => gv_up W q_w1 (.inl (cI, 486, .inl f1_w89))) gv_uu)))))))))) ?_
                refine k_view (V1 := gv_up (gv_up (gv_up (gv_up (gv_up (gv_up V t_w1 (.inr (4, [.ref q_w1, .int (nI n1_w89), .int tl1_w89, .int (nI nt)]))) q_w1 (.inl (cI, 486, .inl f1_w89))) av (.inl (cI, 30, .inl vl1_w89))) tb (.inl (cR, 120, .inr (.inr (.inr (.inr (va_up tf (i * 4 + g) (some t_w1)))))))) ky (.inl (cI, 80, .inl kf1_w89))) pl (.inl (cI, 80, .inl pf1_w89))) (congrArg (fun W => gv_up W pl (.inl (cI, 80, .inl pf1_w89))) (congrArg (fun W => gv_up W ky (.inl (cI, 80, .inl kf1_w89))) (gv_uc ne82))) ?_
                refine k_view (V1 := gv_up (gv_up (gv_up (gv_up (gv_up (gv_up V t_w1 (.inr (4, [.ref q_w1, .int (nI n1_w89), .int tl1_w89, .int (nI nt)]))) av (.inl (cI, 30, .inl vl1_w89))) q_w1 (.inl (cI, 486, .inl f1_w89))) tb (.inl (cR, 120, .inr (.inr (.inr (.inr (va_up tf (i * 4 + g) (some t_w1)))))))) ky (.inl (cI, 80, .inl kf1_w89))) pl (.inl (cI, 80, .inl pf1_w89))) (congrArg (fun W => gv_up W pl (.inl (cI, 80, .inl pf1_w89))) (congrArg (fun W => gv_up W ky (.inl (cI, 80, .inl kf1_w89))) (congrArg (fun W => gv_up W tb (.inl (cR, 120, .inr (.inr (.inr (.inr (va_up tf (i * 4 + g) (some t_w1)))))))) (gv_uc ne38)))) ?_
                refine k_view (V1 := gv_up (gv_up (gv_up (gv_up (gv_up (gv_up V av (.inl (cI, 30, .inl vl1_w89))) t_w1 (.inr (4, [.ref q_w1, .int (nI n1_w89), .int tl1_w89, .int (nI nt)]))) q_w1 (.inl (cI, 486, .inl f1_w89))) tb (.inl (cR, 120, .inr (.inr (.inr (.inr (va_up tf (i * 4 + g) (some t_w1)))))))) ky (.inl (cI, 80, .inl kf1_w89))) pl (.inl (cI, 80, .inl pf1_w89))) (congrArg (fun W => gv_up W pl (.inl (cI, 80, .inl pf1_w89))) (congrArg (fun W => gv_up W ky (.inl (cI, 80, .inl kf1_w89))) (congrArg (fun W => gv_up W tb (.inl (cR, 120, .inr (.inr (.inr (.inr (va_up tf (i * 4 + g) (some t_w1)))))))) (congrArg (fun W => gv_up W q_w1 (.inl (cI, 486, .inl f1_w89))) (gv_uc ne16))))) ?_
                refine k_view (V1 := gv_up (gv_up (gv_up (gv_up (gv_up (gv_up V av (.inl (cI, 30, .inl vl1_w89))) t_w1 (.inr (4, [.ref q_w1, .int (nI n1_w89), .int tl1_w89, .int (nI nt)]))) q_w1 (.inl (cI, 486, .inl f1_w89))) ky (.inl (cI, 80, .inl kf1_w89))) tb (.inl (cR, 120, .inr (.inr (.inr (.inr (va_up tf (i * 4 + g) (some t_w1)))))))) pl (.inl (cI, 80, .inl pf1_w89))) (congrArg (fun W => gv_up W pl (.inl (cI, 80, .inl pf1_w89))) (gv_uc ne87)) ?_
                refine k_view (V1 := gv_up (gv_up (gv_up (gv_up (gv_up (gv_up V av (.inl (cI, 30, .inl vl1_w89))) t_w1 (.inr (4, [.ref q_w1, .int (nI n1_w89), .int tl1_w89, .int (nI nt)]))) ky (.inl (cI, 80, .inl kf1_w89))) q_w1 (.inl (cI, 486, .inl f1_w89))) tb (.inl (cR, 120, .inr (.inr (.inr (.inr (va_up tf (i * 4 + g) (some t_w1)))))))) pl (.inl (cI, 80, .inl pf1_w89))) (congrArg (fun W => gv_up W pl (.inl (cI, 80, .inl pf1_w89))) (congrArg (fun W => gv_up W tb (.inl (cR, 120, .inr (.inr (.inr (.inr (va_up tf (i * 4 + g) (some t_w1)))))))) (gv_uc ne39))) ?_
                refine k_view (V1 := gv_up (gv_up (gv_up (gv_up (gv_up (gv_up V av (.inl (cI, 30, .inl vl1_w89))) ky (.inl (cI, 80, .inl kf1_w89))) t_w1 (.inr (4, [.ref q_w1, .int (nI n1_w89), .int tl1_w89, .int (nI nt)]))) q_w1 (.inl (cI, 486, .inl f1_w89))) tb (.inl (cR, 120, .inr (.inr (.inr (.inr (va_up tf (i * 4 + g) (some t_w1)))))))) pl (.inl (cI, 80, .inl pf1_w89))) (congrArg (fun W => gv_up W pl (.inl (cI, 80, .inl pf1_w89))) (congrArg (fun W => gv_up W tb (.inl (cR, 120, .inr (.inr (.inr (.inr (va_up tf (i * 4 + g) (some t_w1)))))))) (congrArg (fun W => gv_up W q_w1 (.inl (cI, 486, .inl f1_w89))) (gv_uc ne17)))) ?_
                refine k_view (V1 := gv_up (gv_up (gv_up (gv_up (gv_up (gv_up V av (.inl (cI, 30, .inl vl1_w89))) ky (.inl (cI, 80, .inl kf1_w89))) t_w1 (.inr (4, [.ref q_w1, .int (nI n1_w89), .int tl1_w89, .int (nI nt)]))) q_w1 (.inl (cI, 486, .inl f1_w89))) pl (.inl (cI, 80, .inl pf1_w89))) tb (.inl (cR, 120, .inr (.inr (.inr (.inr (va_up tf (i * 4 + g) (some t_w1)))))))) (gv_uc ne88) ?_
                refine k_view (V1 := gv_up (gv_up (gv_up (gv_up (gv_up (gv_up V av (.inl (cI, 30, .inl vl1_w89))) ky (.inl (cI, 80, .inl kf1_w89))) t_w1 (.inr (4, [.ref q_w1, .int (nI n1_w89), .int tl1_w89, .int (nI nt)]))) pl (.inl (cI, 80, .inl pf1_w89))) q_w1 (.inl (cI, 486, .inl f1_w89))) tb (.inl (cR, 120, .inr (.inr (.inr (.inr (va_up tf (i * 4 + g) (some t_w1)))))))) (congrArg (fun W => gv_up W tb (.inl (cR, 120, .inr (.inr (.inr (.inr (va_up tf (i * 4 + g) (some t_w1)))))))) (gv_uc ne40)) ?_
                refine k_view (V1 := gv_up (gv_up (gv_up (gv_up (gv_up (gv_up V av (.inl (cI, 30, .inl vl1_w89))) ky (.inl (cI, 80, .inl kf1_w89))) pl (.inl (cI, 80, .inl pf1_w89))) t_w1 (.inr (4, [.ref q_w1, .int (nI n1_w89), .int tl1_w89, .int (nI nt)]))) q_w1 (.inl (cI, 486, .inl f1_w89))) tb (.inl (cR, 120, .inr (.inr (.inr (.inr (va_up tf (i * 4 + g) (some t_w1)))))))) (congrArg (fun W => gv_up W tb (.inl (cR, 120, .inr (.inr (.inr (.inr (va_up tf (i * 4 + g) (some t_w1)))))))) (congrArg (fun W => gv_up W q_w1 (.inl (cI, 486, .inl f1_w89))) (gv_uc ne18))) ?_
                refine k_view (V1 := gv_up (gv_up (gv_up (gv_up (gv_up (gv_up V av (.inl (cI, 30, .inl vl1_w89))) ky (.inl (cI, 80, .inl kf1_w89))) pl (.inl (cI, 80, .inl pf1_w89))) q_w1 (.inl (cI, 486, .inl f1_w89))) t_w1 (.inr (4, [.ref q_w1, .int (nI n1_w89), .int tl1_w89, .int (nI nt)]))) tb (.inl (cR, 120, .inr (.inr (.inr (.inr (va_up tf (i * 4 + g) (some t_w1)))))))) (congrArg (fun W => gv_up W tb (.inl (cR, 120, .inr (.inr (.inr (.inr (va_up tf (i * 4 + g) (some t_w1)))))))) (gv_uc (Ne.symm htq_w1))) ?_
                exact k_vret C zr zlk ⟨t_w1, q_w1, vl1_w89, kf1_w89, pf1_w89, n1_w89, tl1_w89, f1_w89, rfl, rfl, ht1_w1, hq_w1, htq_w1, ht1_w89⟩ (Nat.le_refl _) (Nat.le_refl _) dX1_refresh_166
          · skip
            exact absurd c113 (nI_n1 (by omega))
        · skip
          exact absurd c94 (by decide)
      · skip
        exact absurd c73 (by decide)
    · skip
      exact absurd c54 (by decide)
  · skip
    exact absurd c18.symm (nI_n1 (by omega))
set_option maxHeartbeats 4000000 in
set_option maxRecDepth 100000 in
theorem c_ref3N {zl : Launch} {D : va_G} {cI cN cR : ClassId} {base : Nat} {V : gv_V} {mo tr nd tb wg ky pl : Nat} {tga tsa tpa tqa nt : Nat} {tg ts tp tq : Nat → Int32} {nl nn : Nat} {nf : Nat → Option Nat} {no : Nat} {ps pp po ex va st fr ln dn ag gr : Int32} {xe ak af as ap av ne : Nat} {kd fs sc pt vl : Nat → Int32} {kf pf : Nat → Int32} {tf : Nat → Option Nat} {i g a0 b0 : Nat} {E : Nat → Ex} {a c n : Nat} {tl mk : Int32} {f : Nat → Int32} {SA : Option (List Row)} {b c2 n2 : Nat} {tl2 mk2 : Int32} {g2 : Nat → Int32} {SB : Option (List Row)}  (h_mo : V mo = some (.inr (1, [.ref tr, .ref xe, .ref nd, .ref tb, .ref wg, .ref ky, .ref pl]))) (h_tr : V tr = some (.inr (5, [.ref tga, .ref tsa, .ref tpa, .ref tqa, .int (nI nt)]))) (h_tga : V tga = some (.inl (cI, 60, .inl tg))) (h_tsa : V tsa = some (.inl (cI, 60, .inl ts))) (h_tpa : V tpa = some (.inl (cI, 60, .inl tp))) (h_tqa : V tqa = some (.inl (cI, 60, .inl tq))) (h_nd : V nd = some (.inr (3, [.ref nl, .int (nI nn)]))) (h_nl : V nl = some (.inl (cN, 30, .inr (.inr (.inr (.inr nf)))))) (h_no : V no = some (.inr (2, [.int (nI 3), .int (nI a0), .int (nI b0), .int ps, .int pp, .int po, .int ex, .int va, .int st, .int fr, .int ln, .int dn, .int ag, .int gr]))) (h_xe : V xe = some (.inr (0, [.ref ak, .ref af, .ref as, .ref ap, .ref av, .int (nI ne)]))) (h_ak : V ak = some (.inl (cI, 30, .inl kd))) (h_af : V af = some (.inl (cI, 30, .inl fs))) (h_as : V as = some (.inl (cI, 30, .inl sc))) (h_ap : V ap = some (.inl (cI, 30, .inl pt))) (h_av : V av = some (.inl (cI, 30, .inl vl))) (h_ky : V ky = some (.inl (cI, 80, .inl kf))) (h_pl : V pl = some (.inl (cI, 80, .inl pf))) (h_tb : V tb = some (.inl (cR, 120, .inr (.inr (.inr (.inr tf)))))) (h_a : V a = some (.inr (4, [.ref c, .int (nI n), .int tl, .int mk]))) (h_c : V c = some (.inl (cI, 486, .inl f))) (h_b : V b = some (.inr (4, [.ref c2, .int (nI n2), .int tl2, .int mk2]))) (h_c2 : V c2 = some (.inl (cI, 486, .inl g2))) (hX : ExR E ne kd fs sc pt) (hd : [ak, af, as, ap, av].Nodup) (hi : i < 30) (hg : g < 4) (hnf : nf i = some no) (hky : nq ky pl) (hnt : nt ≤ 60) (ht : tf (i * 4 + g) = none) (ha0 : a0 < i) (hta : tf (a0 * 4 + g) = some a) (hSa : TRep SA n tl f) (hb0 : b0 < i) (htb : tf (b0 * 4 + g) = some b) (hSb : TRep SB n2 tl2 g2) : ct zl D [(cI, .int), (cN, .object "AlgebraTree$Node"), (cR, .object "AlgebraTree$Rows")] base yX1_refresh cX1_refresh 6 none 5 2 490 [.ref mo, .int (nI i), .int (nI g)] V (fun zv zV => ∃ t : Nat, ∃ q : Nat, ∃ vl1 : Nat → Int32, ∃ kf1 : Nat → Int32, ∃ pf1 : Nat → Int32, ∃ n1 : Nat, ∃ tl1 : Int32, ∃ f1 : Nat → Int32, zv = none ∧ zV = gv_up (gv_up (gv_up (gv_up (gv_up (gv_up V av (.inl (cI, 30, .inl vl1))) ky (.inl (cI, 80, .inl kf1))) pl (.inl (cI, 80, .inl pf1))) q (.inl (cI, 486, .inl f1))) t (.inr (4, [.ref q, .int (nI n1), .int tl1, .int (nI nt)]))) tb (.inl (cR, 120, .inr (.inr (.inr (.inr (va_up tf (i * 4 + g) (some t))))))) ∧ (V t = none) ∧ (V q = none) ∧ (nq t q) ∧ (TRep (SA.bind (fun A => SB.bind (fun B => cap (minusL A B)))) n1 tl1 f1)) := by
  refine ct_of "AlgebraTree$Maker" rfl (by decide) (Nat.le_of_ble_eq_true rfl) ?_
  intro zp ze zs zm zargs zbelow zmeth zc C zr zlk znm
  refine k_pc (pc' := 0) (st' := []) rfl rfl ?_
  show K zp zl ze (gv_rm 5 2 490) zs zm zargs zbelow zmeth zc D base 6 (gv_E D [(cI, .int), (cN, .object "AlgebraTree$Node"), (cR, .object "AlgebraTree$Rows")] base zbelow zargs zs 2 490 (fun zv zV => ∃ t : Nat, ∃ q : Nat, ∃ vl1 : Nat → Int32, ∃ kf1 : Nat → Int32, ∃ pf1 : Nat → Int32, ∃ n1 : Nat, ∃ tl1 : Int32, ∃ f1 : Nat → Int32, zv = none ∧ zV = gv_up (gv_up (gv_up (gv_up (gv_up (gv_up V av (.inl (cI, 30, .inl vl1))) ky (.inl (cI, 80, .inl kf1))) pl (.inl (cI, 80, .inl pf1))) q (.inl (cI, 486, .inl f1))) t (.inr (4, [.ref q, .int (nI n1), .int tl1, .int (nI nt)]))) tb (.inl (cR, 120, .inr (.inr (.inr (.inr (va_up tf (i * 4 + g) (some t))))))) ∧ (V t = none) ∧ (V q = none) ∧ (nq t q) ∧ (TRep (SA.bind (fun A => SB.bind (fun B => cap (minusL A B)))) n1 tl1 f1))) V 0 0 [(0, .ref mo), (1, .int (nI i)), (2, .int (nI g))] 0 []
  refine k_aload_n C dX1_refresh_0 rfl 0 rfl ?_
  refine k_iload_n C dX1_refresh_1 rfl 1 rfl ?_
  refine k_iload_n C dX1_refresh_2 rfl 2 rfl ?_
  refine k_callV C mv_1_56 (c_tableOfN  h_mo h_tb (by first | assumption | omega) (by first | assumption | omega) (by first | assumption | omega)) h_mo rfl rfl (by simp [Value.category]) ⟨by decide, by decide⟩ ⟨(by decide), (by decide)⟩ dX1_refresh_3 (fun zv zV zh => ?_)
  obtain ⟨t_w1, q_w1, rfl, rfl, ht1_w1, hq_w1, htq_w1⟩ := zh
  refine k_pc (pc' := 6) (st' := .ref t_w1 :: []) rfl rfl ?_
  have ne2 : nq mo t_w1 := gv_nf ht1_w1 h_mo
  have ne3 : nq tr t_w1 := gv_nf ht1_w1 h_tr
  have ne4 : nq tga t_w1 := gv_nf ht1_w1 h_tga
  have ne5 : nq tsa t_w1 := gv_nf ht1_w1 h_tsa
  have ne6 : nq tpa t_w1 := gv_nf ht1_w1 h_tpa
  have ne7 : nq tqa t_w1 := gv_nf ht1_w1 h_tqa
  have ne8 : nq nd t_w1 := gv_nf ht1_w1 h_nd
  have ne9 : nq nl t_w1 := gv_nf ht1_w1 h_nl
  have ne10 : nq no t_w1 := gv_nf ht1_w1 h_no
  have ne11 : nq xe t_w1 := gv_nf ht1_w1 h_xe
  have ne12 : nq ak t_w1 := gv_nf ht1_w1 h_ak
  have ne13 : nq af t_w1 := gv_nf ht1_w1 h_af
  have ne14 : nq as t_w1 := gv_nf ht1_w1 h_as
  have ne15 : nq ap t_w1 := gv_nf ht1_w1 h_ap
  have ne16 : nq av t_w1 := gv_nf ht1_w1 h_av
  have ne17 : nq ky t_w1 := gv_nf ht1_w1 h_ky
  have ne18 : nq pl t_w1 := gv_nf ht1_w1 h_pl
  have ne19 : nq tb t_w1 := gv_nf ht1_w1 h_tb
  have ne20 : nq a t_w1 := gv_nf ht1_w1 h_a
  have ne21 : nq c t_w1 := gv_nf ht1_w1 h_c
  have ne22 : nq b t_w1 := gv_nf ht1_w1 h_b
  have ne23 : nq c2 t_w1 := gv_nf ht1_w1 h_c2
  have ne24 : nq mo q_w1 := gv_nf hq_w1 h_mo
  have ne25 : nq tr q_w1 := gv_nf hq_w1 h_tr
  have ne26 : nq tga q_w1 := gv_nf hq_w1 h_tga
  have ne27 : nq tsa q_w1 := gv_nf hq_w1 h_tsa
  have ne28 : nq tpa q_w1 := gv_nf hq_w1 h_tpa
  have ne29 : nq tqa q_w1 := gv_nf hq_w1 h_tqa
  have ne30 : nq nd q_w1 := gv_nf hq_w1 h_nd
  have ne31 : nq nl q_w1 := gv_nf hq_w1 h_nl
  have ne32 : nq no q_w1 := gv_nf hq_w1 h_no
  have ne33 : nq xe q_w1 := gv_nf hq_w1 h_xe
  have ne34 : nq ak q_w1 := gv_nf hq_w1 h_ak
  have ne35 : nq af q_w1 := gv_nf hq_w1 h_af
  have ne36 : nq as q_w1 := gv_nf hq_w1 h_as
  have ne37 : nq ap q_w1 := gv_nf hq_w1 h_ap
  have ne38 : nq av q_w1 := gv_nf hq_w1 h_av
  have ne39 : nq ky q_w1 := gv_nf hq_w1 h_ky
  have ne40 : nq pl q_w1 := gv_nf hq_w1 h_pl
  have ne41 : nq tb q_w1 := gv_nf hq_w1 h_tb
  have ne42 : nq a q_w1 := gv_nf hq_w1 h_a
  have ne43 : nq c q_w1 := gv_nf hq_w1 h_c
  have ne44 : nq b q_w1 := gv_nf hq_w1 h_b
  have ne45 : nq c2 q_w1 := gv_nf hq_w1 h_c2
  refine k_astore_n (lv' := [(3, .ref t_w1), (0, .ref mo), (1, .int (nI i)), (2, .int (nI g))]) C dX1_refresh_6 rfl (by decide) rfl ?_
  refine k_aload_n C dX1_refresh_7 rfl 0 rfl ?_
  refine k_get (ci := 4) (k := 3) C fl_1_84 ((gv_up_n (Ne.symm ne19)).trans ((gv_up_n htq_w1).trans gv_up_s)) rfl dX1_refresh_8 ?_
  refine k_aload_n C dX1_refresh_11 rfl 1 rfl ?_
  have ne46 : nq mo tb := gv_ne h_tb h_mo (by simp)
  refine k_get (ci := 1) (k := 0) C fl_1_12 ((gv_up_n ne46).trans ((gv_up_n ne24).trans ((gv_up_n ne2).trans h_mo))) rfl dX1_refresh_12 ?_
  have ne47 : nq tr tb := gv_ne h_tb h_tr (by simp)
  refine k_get (ci := 5) (k := 4) C fl_1_87 ((gv_up_n ne47).trans ((gv_up_n ne25).trans ((gv_up_n ne3).trans h_tr))) rfl dX1_refresh_15 ?_
  refine k_icmp_ne (tgt := 22) C dX1_refresh_18 (by decide) (fun c18 => ?_) (fun c18 => ?_)
  · skip
    refine k_aload_n C dX1_refresh_22 rfl 0 rfl ?_
    refine k_callV_pv C mv_1_90 (c_X4_clear  ((gv_up_n (Ne.symm ne19)).trans ((gv_up_n htq_w1).trans gv_up_s)) ((gv_up_n (Ne.symm ne41)).trans gv_up_s) ) ((gv_up_n (Ne.symm ne19)).trans ((gv_up_n htq_w1).trans gv_up_s)) rfl rfl (by simp [Value.category]) ⟨by decide, by decide⟩ ⟨(by decide), (by decide)⟩ dX1_refresh_23 ?_
    refine k_view (V1 := gv_up (gv_up (gv_up V t_w1 (.inr (4, [.ref q_w1, .int (nI 0), .int (nI 0), .int (-1 : Int32)]))) q_w1 (.inl (cI, 486, .inl (fun _ => 0)))) tb (.inl (cR, 120, .inr (.inr (.inr (.inr (va_up tf (i * 4 + g) (some t_w1)))))))) ((gv_uc (Ne.symm ne19)).trans (congrArg (fun W => gv_up W tb (.inl (cR, 120, .inr (.inr (.inr (.inr (va_up tf (i * 4 + g) (some t_w1)))))))) ((gv_uc htq_w1).trans (congrArg (fun W => gv_up W q_w1 (.inl (cI, 486, .inl (fun _ => 0)))) gv_uu)))) ?_
    refine k_aload_n C dX1_refresh_26 rfl 0 rfl ?_
    refine k_aload_n C dX1_refresh_27 rfl 1 rfl ?_
    refine k_get (ci := 1) (k := 0) C fl_1_12 ((gv_up_n ne46).trans ((gv_up_n ne24).trans ((gv_up_n ne2).trans h_mo))) rfl dX1_refresh_28 ?_
    refine k_get (ci := 5) (k := 4) C fl_1_87 ((gv_up_n ne47).trans ((gv_up_n ne25).trans ((gv_up_n ne3).trans h_tr))) rfl dX1_refresh_31 ?_
    refine k_put (ci := 4) (k := 3) (fs' := [.ref q_w1, .int (nI 0), .int (nI 0), .int (nI nt)]) C fl_1_84 pf_4_3 ((gv_up_n (Ne.symm ne19)).trans ((gv_up_n htq_w1).trans gv_up_s)) rfl rfl (Nat.le_of_ble_eq_true rfl) rfl dX1_refresh_34 ?_
    refine k_view (V1 := gv_up (gv_up (gv_up V t_w1 (.inr (4, [.ref q_w1, .int (nI 0), .int (nI 0), .int (nI nt)]))) q_w1 (.inl (cI, 486, .inl (fun _ => 0)))) tb (.inl (cR, 120, .inr (.inr (.inr (.inr (va_up tf (i * 4 + g) (some t_w1)))))))) ((gv_uc (Ne.symm ne19)).trans (congrArg (fun W => gv_up W tb (.inl (cR, 120, .inr (.inr (.inr (.inr (va_up tf (i * 4 + g) (some t_w1)))))))) ((gv_uc htq_w1).trans (congrArg (fun W => gv_up W q_w1 (.inl (cI, 486, .inl (fun _ => 0)))) gv_uu)))) ?_
    refine k_aload_n C dX1_refresh_37 rfl 1 rfl ?_
    refine k_get (ci := 1) (k := 2) C fl_1_28 ((gv_up_n ne46).trans ((gv_up_n ne24).trans ((gv_up_n ne2).trans h_mo))) rfl dX1_refresh_38 ?_
    refine k_iload_n C dX1_refresh_41 rfl 2 rfl ?_
    have ne48 : nq nd tb := gv_ne h_tb h_nd (by simp)
    have ne49 : nq nl tb := gv_ne h_tb h_nl (by simp)
    refine k_callV_pr C mv_1_60 (c_X3_at  ((gv_up_n ne48).trans ((gv_up_n ne30).trans ((gv_up_n ne8).trans h_nd))) ((gv_up_n ne49).trans ((gv_up_n ne31).trans ((gv_up_n ne9).trans h_nl))) (by first | assumption | omega) hnf) ((gv_up_n ne48).trans ((gv_up_n ne30).trans ((gv_up_n ne8).trans h_nd))) rfl rfl (by simp [Value.category]) ⟨by decide, by decide⟩ ⟨(by decide), (by decide)⟩ dX1_refresh_42 ?_
    refine k_astore (lv' := [(4, .ref no), (3, .ref t_w1), (0, .ref mo), (1, .int (nI i)), (2, .int (nI g))]) C dX1_refresh_45 (by decide) rfl ?_
    refine k_aload C dX1_refresh_47 0 rfl ?_
    have ne50 : nq no tb := gv_ne h_tb h_no (by simp)
    refine k_get (ci := 2) (k := 0) C fl_1_77 ((gv_up_n ne50).trans ((gv_up_n ne32).trans ((gv_up_n ne10).trans h_no))) rfl dX1_refresh_49 ?_
    refine k_bipush (v := nI 12) C dX1_refresh_52 rfl ?_
    refine k_icmp_ne (tgt := 65) C dX1_refresh_54 (by decide) (fun c54 => ?_) (fun c54 => ?_)
    · skip
      have b54 : ¬ 3 = 12 := fun z => c54 ((nI_eq (a := 3) (b := 12) (by omega) (by omega)).mpr z)
      refine k_iload_n C dX1_refresh_65 rfl 4 rfl ?_
      refine k_istore (lv' := [(5, .int (nI g)), (4, .ref no), (3, .ref t_w1), (0, .ref mo), (1, .int (nI i)), (2, .int (nI g))]) C dX1_refresh_66 (by decide) rfl ?_
      refine k_aload C dX1_refresh_68 1 rfl ?_
      refine k_get (ci := 2) (k := 0) C fl_1_77 ((gv_up_n ne50).trans ((gv_up_n ne32).trans ((gv_up_n ne10).trans h_no))) rfl dX1_refresh_70 ?_
      refine k_if_ne (tgt := 87) C dX1_refresh_73 (by decide) (fun c73 => ?_) (fun c73 => ?_)
      · skip
        have b73 : ¬ 3 = 0 := fun z => c73 ((nI_eq (a := 3) (b := 0) (by omega) (by omega)).mpr z)
        refine k_aload C dX1_refresh_87 1 rfl ?_
        refine k_get (ci := 2) (k := 0) C fl_1_77 ((gv_up_n ne50).trans ((gv_up_n ne32).trans ((gv_up_n ne10).trans h_no))) rfl dX1_refresh_89 ?_
        refine k_bipush (v := nI 13) C dX1_refresh_92 rfl ?_
        refine k_icmp_ne (tgt := 107) C dX1_refresh_94 (by decide) (fun c94 => ?_) (fun c94 => ?_)
        · skip
          have b94 : ¬ 3 = 13 := fun z => c94 ((nI_eq (a := 3) (b := 13) (by omega) (by omega)).mpr z)
          refine k_aload C dX1_refresh_107 1 rfl ?_
          refine k_get (ci := 2) (k := 2) C fl_1_74 ((gv_up_n ne50).trans ((gv_up_n ne32).trans ((gv_up_n ne10).trans h_no))) rfl dX1_refresh_109 ?_
          refine k_iconst (v := (-1 : Int32)) C dX1_refresh_112 (by decide) ?_
          refine k_icmp_ne (tgt := 137) C dX1_refresh_113 (by decide) (fun c113 => ?_) (fun c113 => ?_)
          · skip
            refine k_aload_n C dX1_refresh_137 rfl 3 rfl ?_
            refine k_aload C dX1_refresh_138 1 rfl ?_
            refine k_aload_n C dX1_refresh_140 rfl 3 rfl ?_
            refine k_aload C dX1_refresh_141 1 rfl ?_
            refine k_get (ci := 2) (k := 1) C fl_1_68 ((gv_up_n ne50).trans ((gv_up_n ne32).trans ((gv_up_n ne10).trans h_no))) rfl dX1_refresh_143 ?_
            refine k_iload C dX1_refresh_146 0 rfl ?_
            refine k_callV_pr C mv_1_56 (c_tableOf  ((gv_up_n ne46).trans ((gv_up_n ne24).trans ((gv_up_n ne2).trans h_mo))) gv_up_s (by first | assumption | omega) (by first | assumption | omega) (by simp only [va_up]; rw [if_neg (by omega)]; exact hta)) ((gv_up_n ne46).trans ((gv_up_n ne24).trans ((gv_up_n ne2).trans h_mo))) rfl rfl (by simp [Value.category]) ⟨by decide, by decide⟩ ⟨(by decide), (by decide)⟩ dX1_refresh_148 ?_
            refine k_aload_n C dX1_refresh_151 rfl 3 rfl ?_
            refine k_aload C dX1_refresh_152 1 rfl ?_
            refine k_get (ci := 2) (k := 2) C fl_1_74 ((gv_up_n ne50).trans ((gv_up_n ne32).trans ((gv_up_n ne10).trans h_no))) rfl dX1_refresh_154 ?_
            refine k_iload C dX1_refresh_157 0 rfl ?_
            refine k_callV_pr C mv_1_56 (c_tableOf  ((gv_up_n ne46).trans ((gv_up_n ne24).trans ((gv_up_n ne2).trans h_mo))) gv_up_s (by first | assumption | omega) (by first | assumption | omega) (by simp only [va_up]; rw [if_neg (by omega)]; exact htb)) ((gv_up_n ne46).trans ((gv_up_n ne24).trans ((gv_up_n ne2).trans h_mo))) rfl rfl (by simp [Value.category]) ⟨by decide, by decide⟩ ⟨(by decide), (by decide)⟩ dX1_refresh_159 ?_
            refine k_aload_n C dX1_refresh_162 rfl 2 rfl ?_
            rcases SA with _ | A
            · skip
              have ne51 : nq xe tb := gv_ne h_tb h_xe (by simp)
              have ne52 : nq ak tb := gv_ne h_tb h_ak (by simp)
              have ne53 : nq af tb := gv_ne h_tb h_af (by simp)
              have ne54 : nq as tb := gv_ne h_tb h_as (by simp)
              have ne55 : nq ap tb := gv_ne h_tb h_ap (by simp)
              have ne56 : nq av tb := gv_ne h_tb h_av (by simp)
              have ne57 : nq a tb := gv_ne h_tb h_a (by simp)
              have ne58 : nq c tb := gv_ne h_tb h_c (by simp)
              have ne59 : nq b tb := gv_ne h_tb h_b (by simp)
              have ne60 : nq c2 tb := gv_ne h_tb h_c2 (by simp)
              have ne61 : nq ky tb := gv_ne h_tb h_ky (by simp)
              have ne62 : nq pl tb := gv_ne h_tb h_pl (by simp)
              refine k_callV C mv_1_105 (c_overL2  ((gv_up_n ne46).trans ((gv_up_n ne24).trans ((gv_up_n ne2).trans h_mo))) ((gv_up_n ne50).trans ((gv_up_n ne32).trans ((gv_up_n ne10).trans h_no))) ((gv_up_n ne51).trans ((gv_up_n ne33).trans ((gv_up_n ne11).trans h_xe))) ((gv_up_n ne52).trans ((gv_up_n ne34).trans ((gv_up_n ne12).trans h_ak))) ((gv_up_n ne53).trans ((gv_up_n ne35).trans ((gv_up_n ne13).trans h_af))) ((gv_up_n ne54).trans ((gv_up_n ne36).trans ((gv_up_n ne14).trans h_as))) ((gv_up_n ne55).trans ((gv_up_n ne37).trans ((gv_up_n ne15).trans h_ap))) ((gv_up_n ne56).trans ((gv_up_n ne38).trans ((gv_up_n ne16).trans h_av))) ((gv_up_n ne57).trans ((gv_up_n ne42).trans ((gv_up_n ne20).trans h_a))) ((gv_up_n ne58).trans ((gv_up_n ne43).trans ((gv_up_n ne21).trans h_c))) ((gv_up_n ne59).trans ((gv_up_n ne44).trans ((gv_up_n ne22).trans h_b))) ((gv_up_n ne60).trans ((gv_up_n ne45).trans ((gv_up_n ne23).trans h_c2))) ((gv_up_n (Ne.symm ne19)).trans ((gv_up_n htq_w1).trans gv_up_s)) ((gv_up_n (Ne.symm ne41)).trans gv_up_s) ((gv_up_n ne61).trans ((gv_up_n ne39).trans ((gv_up_n ne17).trans h_ky))) ((gv_up_n ne62).trans ((gv_up_n ne40).trans ((gv_up_n ne18).trans h_pl))) (Or.inl hSa) (by first | assumption | omega) (Ne.symm ne20) (Ne.symm ne43) (Ne.symm ne22) (Ne.symm ne45) hky) ((gv_up_n ne46).trans ((gv_up_n ne24).trans ((gv_up_n ne2).trans h_mo))) rfl rfl (by simp [Value.category]) ⟨by decide, by decide⟩ ⟨(by decide), (by decide)⟩ dX1_refresh_163 (fun zv zV zh => ?_)
              obtain ⟨vl1_w63, kf1_w63, pf1_w63, n1_w63, tl1_w63, f1_w63, rfl, rfl, ht1_w63⟩ := zh
              refine k_pc (pc' := 166) (st' := []) rfl rfl ?_
              refine k_view (V1 := gv_up (gv_up (gv_up (gv_up (gv_up (gv_up (gv_up V t_w1 (.inr (4, [.ref q_w1, .int (nI 0), .int (nI 0), .int (nI nt)]))) q_w1 (.inl (cI, 486, .inl f1_w63))) tb (.inl (cR, 120, .inr (.inr (.inr (.inr (va_up tf (i * 4 + g) (some t_w1)))))))) av (.inl (cI, 30, .inl vl1_w63))) ky (.inl (cI, 80, .inl kf1_w63))) pl (.inl (cI, 80, .inl pf1_w63))) t_w1 (.inr (4, [.ref q_w1, .int (nI n1_w63), .int tl1_w63, .int (nI nt)]))) (congrArg (fun W => gv_up W t_w1 (.inr (4, [.ref q_w1, .int (nI n1_w63), .int tl1_w63, .int (nI nt)]))) ((gv_uc (Ne.symm ne40)).trans (congrArg (fun W => gv_up W pl (.inl (cI, 80, .inl pf1_w63))) ((gv_uc (Ne.symm ne39)).trans (congrArg (fun W => gv_up W ky (.inl (cI, 80, .inl kf1_w63))) ((gv_uc (Ne.symm ne38)).trans (congrArg (fun W => gv_up W av (.inl (cI, 30, .inl vl1_w63))) ((gv_uc (Ne.symm ne41)).trans (congrArg (fun W => gv_up W tb (.inl (cR, 120, .inr (.inr (.inr (.inr (va_up tf (i * 4 + g) (some t_w1)))))))) gv_uu))))))))) ?_
              refine k_view (V1 := gv_up (gv_up (gv_up (gv_up (gv_up (gv_up V t_w1 (.inr (4, [.ref q_w1, .int (nI n1_w63), .int tl1_w63, .int (nI nt)]))) q_w1 (.inl (cI, 486, .inl f1_w63))) tb (.inl (cR, 120, .inr (.inr (.inr (.inr (va_up tf (i * 4 + g) (some t_w1)))))))) av (.inl (cI, 30, .inl vl1_w63))) ky (.inl (cI, 80, .inl kf1_w63))) pl (.inl (cI, 80, .inl pf1_w63))) ((gv_uc (Ne.symm ne18)).trans (congrArg (fun W => gv_up W pl (.inl (cI, 80, .inl pf1_w63))) ((gv_uc (Ne.symm ne17)).trans (congrArg (fun W => gv_up W ky (.inl (cI, 80, .inl kf1_w63))) ((gv_uc (Ne.symm ne16)).trans (congrArg (fun W => gv_up W av (.inl (cI, 30, .inl vl1_w63))) ((gv_uc (Ne.symm ne19)).trans (congrArg (fun W => gv_up W tb (.inl (cR, 120, .inr (.inr (.inr (.inr (va_up tf (i * 4 + g) (some t_w1)))))))) ((gv_uc htq_w1).trans (congrArg (fun W => gv_up W q_w1 (.inl (cI, 486, .inl f1_w63))) gv_uu)))))))))) ?_
              refine k_view (V1 := gv_up (gv_up (gv_up (gv_up (gv_up (gv_up V t_w1 (.inr (4, [.ref q_w1, .int (nI n1_w63), .int tl1_w63, .int (nI nt)]))) q_w1 (.inl (cI, 486, .inl f1_w63))) av (.inl (cI, 30, .inl vl1_w63))) tb (.inl (cR, 120, .inr (.inr (.inr (.inr (va_up tf (i * 4 + g) (some t_w1)))))))) ky (.inl (cI, 80, .inl kf1_w63))) pl (.inl (cI, 80, .inl pf1_w63))) (congrArg (fun W => gv_up W pl (.inl (cI, 80, .inl pf1_w63))) (congrArg (fun W => gv_up W ky (.inl (cI, 80, .inl kf1_w63))) (gv_uc ne56))) ?_
              refine k_view (V1 := gv_up (gv_up (gv_up (gv_up (gv_up (gv_up V t_w1 (.inr (4, [.ref q_w1, .int (nI n1_w63), .int tl1_w63, .int (nI nt)]))) av (.inl (cI, 30, .inl vl1_w63))) q_w1 (.inl (cI, 486, .inl f1_w63))) tb (.inl (cR, 120, .inr (.inr (.inr (.inr (va_up tf (i * 4 + g) (some t_w1)))))))) ky (.inl (cI, 80, .inl kf1_w63))) pl (.inl (cI, 80, .inl pf1_w63))) (congrArg (fun W => gv_up W pl (.inl (cI, 80, .inl pf1_w63))) (congrArg (fun W => gv_up W ky (.inl (cI, 80, .inl kf1_w63))) (congrArg (fun W => gv_up W tb (.inl (cR, 120, .inr (.inr (.inr (.inr (va_up tf (i * 4 + g) (some t_w1)))))))) (gv_uc ne38)))) ?_
              refine k_view (V1 := gv_up (gv_up (gv_up (gv_up (gv_up (gv_up V av (.inl (cI, 30, .inl vl1_w63))) t_w1 (.inr (4, [.ref q_w1, .int (nI n1_w63), .int tl1_w63, .int (nI nt)]))) q_w1 (.inl (cI, 486, .inl f1_w63))) tb (.inl (cR, 120, .inr (.inr (.inr (.inr (va_up tf (i * 4 + g) (some t_w1)))))))) ky (.inl (cI, 80, .inl kf1_w63))) pl (.inl (cI, 80, .inl pf1_w63))) (congrArg (fun W => gv_up W pl (.inl (cI, 80, .inl pf1_w63))) (congrArg (fun W => gv_up W ky (.inl (cI, 80, .inl kf1_w63))) (congrArg (fun W => gv_up W tb (.inl (cR, 120, .inr (.inr (.inr (.inr (va_up tf (i * 4 + g) (some t_w1)))))))) (congrArg (fun W => gv_up W q_w1 (.inl (cI, 486, .inl f1_w63))) (gv_uc ne16))))) ?_
              refine k_view (V1 := gv_up (gv_up (gv_up (gv_up (gv_up (gv_up V av (.inl (cI, 30, .inl vl1_w63))) t_w1 (.inr (4, [.ref q_w1, .int (nI n1_w63), .int tl1_w63, .int (nI nt)]))) q_w1 (.inl (cI, 486, .inl f1_w63))) ky (.inl (cI, 80, .inl kf1_w63))) tb (.inl (cR, 120, .inr (.inr (.inr (.inr (va_up tf (i * 4 + g) (some t_w1)))))))) pl (.inl (cI, 80, .inl pf1_w63))) (congrArg (fun W => gv_up W pl (.inl (cI, 80, .inl pf1_w63))) (gv_uc ne61)) ?_
              refine k_view (V1 := gv_up (gv_up (gv_up (gv_up (gv_up (gv_up V av (.inl (cI, 30, .inl vl1_w63))) t_w1 (.inr (4, [.ref q_w1, .int (nI n1_w63), .int tl1_w63, .int (nI nt)]))) ky (.inl (cI, 80, .inl kf1_w63))) q_w1 (.inl (cI, 486, .inl f1_w63))) tb (.inl (cR, 120, .inr (.inr (.inr (.inr (va_up tf (i * 4 + g) (some t_w1)))))))) pl (.inl (cI, 80, .inl pf1_w63))) (congrArg (fun W => gv_up W pl (.inl (cI, 80, .inl pf1_w63))) (congrArg (fun W => gv_up W tb (.inl (cR, 120, .inr (.inr (.inr (.inr (va_up tf (i * 4 + g) (some t_w1)))))))) (gv_uc ne39))) ?_
              refine k_view (V1 := gv_up (gv_up (gv_up (gv_up (gv_up (gv_up V av (.inl (cI, 30, .inl vl1_w63))) ky (.inl (cI, 80, .inl kf1_w63))) t_w1 (.inr (4, [.ref q_w1, .int (nI n1_w63), .int tl1_w63, .int (nI nt)]))) q_w1 (.inl (cI, 486, .inl f1_w63))) tb (.inl (cR, 120, .inr (.inr (.inr (.inr (va_up tf (i * 4 + g) (some t_w1)))))))) pl (.inl (cI, 80, .inl pf1_w63))) (congrArg (fun W => gv_up W pl (.inl (cI, 80, .inl pf1_w63))) (congrArg (fun W => gv_up W tb (.inl (cR, 120, .inr (.inr (.inr (.inr (va_up tf (i * 4 + g) (some t_w1)))))))) (congrArg (fun W => gv_up W q_w1 (.inl (cI, 486, .inl f1_w63))) (gv_uc ne17)))) ?_
              refine k_view (V1 := gv_up (gv_up (gv_up (gv_up (gv_up (gv_up V av (.inl (cI, 30, .inl vl1_w63))) ky (.inl (cI, 80, .inl kf1_w63))) t_w1 (.inr (4, [.ref q_w1, .int (nI n1_w63), .int tl1_w63, .int (nI nt)]))) q_w1 (.inl (cI, 486, .inl f1_w63))) pl (.inl (cI, 80, .inl pf1_w63))) tb (.inl (cR, 120, .inr (.inr (.inr (.inr (va_up tf (i * 4 + g) (some t_w1)))))))) (gv_uc ne62) ?_
              refine k_view (V1 := gv_up (gv_up (gv_up (gv_up (gv_up (gv_up V av (.inl (cI, 30, .inl vl1_w63))) ky (.inl (cI, 80, .inl kf1_w63))) t_w1 (.inr (4, [.ref q_w1, .int (nI n1_w63), .int tl1_w63, .int (nI nt)]))) pl (.inl (cI, 80, .inl pf1_w63))) q_w1 (.inl (cI, 486, .inl f1_w63))) tb (.inl (cR, 120, .inr (.inr (.inr (.inr (va_up tf (i * 4 + g) (some t_w1)))))))) (congrArg (fun W => gv_up W tb (.inl (cR, 120, .inr (.inr (.inr (.inr (va_up tf (i * 4 + g) (some t_w1)))))))) (gv_uc ne40)) ?_
              refine k_view (V1 := gv_up (gv_up (gv_up (gv_up (gv_up (gv_up V av (.inl (cI, 30, .inl vl1_w63))) ky (.inl (cI, 80, .inl kf1_w63))) pl (.inl (cI, 80, .inl pf1_w63))) t_w1 (.inr (4, [.ref q_w1, .int (nI n1_w63), .int tl1_w63, .int (nI nt)]))) q_w1 (.inl (cI, 486, .inl f1_w63))) tb (.inl (cR, 120, .inr (.inr (.inr (.inr (va_up tf (i * 4 + g) (some t_w1)))))))) (congrArg (fun W => gv_up W tb (.inl (cR, 120, .inr (.inr (.inr (.inr (va_up tf (i * 4 + g) (some t_w1)))))))) (congrArg (fun W => gv_up W q_w1 (.inl (cI, 486, .inl f1_w63))) (gv_uc ne18))) ?_
              refine k_view (V1 := gv_up (gv_up (gv_up (gv_up (gv_up (gv_up V av (.inl (cI, 30, .inl vl1_w63))) ky (.inl (cI, 80, .inl kf1_w63))) pl (.inl (cI, 80, .inl pf1_w63))) q_w1 (.inl (cI, 486, .inl f1_w63))) t_w1 (.inr (4, [.ref q_w1, .int (nI n1_w63), .int tl1_w63, .int (nI nt)]))) tb (.inl (cR, 120, .inr (.inr (.inr (.inr (va_up tf (i * 4 + g) (some t_w1)))))))) (congrArg (fun W => gv_up W tb (.inl (cR, 120, .inr (.inr (.inr (.inr (va_up tf (i * 4 + g) (some t_w1)))))))) (gv_uc (Ne.symm htq_w1))) ?_
              exact k_vret C zr zlk ⟨t_w1, q_w1, vl1_w63, kf1_w63, pf1_w63, n1_w63, tl1_w63, f1_w63, rfl, rfl, ht1_w1, hq_w1, htq_w1, ht1_w63⟩ (Nat.le_refl _) (Nat.le_refl _) dX1_refresh_166
            · skip
              rcases SB with _ | B
              · skip
                have ne64 : nq xe tb := gv_ne h_tb h_xe (by simp)
                have ne65 : nq ak tb := gv_ne h_tb h_ak (by simp)
                have ne66 : nq af tb := gv_ne h_tb h_af (by simp)
                have ne67 : nq as tb := gv_ne h_tb h_as (by simp)
                have ne68 : nq ap tb := gv_ne h_tb h_ap (by simp)
                have ne69 : nq av tb := gv_ne h_tb h_av (by simp)
                have ne70 : nq a tb := gv_ne h_tb h_a (by simp)
                have ne71 : nq c tb := gv_ne h_tb h_c (by simp)
                have ne72 : nq b tb := gv_ne h_tb h_b (by simp)
                have ne73 : nq c2 tb := gv_ne h_tb h_c2 (by simp)
                have ne74 : nq ky tb := gv_ne h_tb h_ky (by simp)
                have ne75 : nq pl tb := gv_ne h_tb h_pl (by simp)
                refine k_callV C mv_1_105 (c_overL2  ((gv_up_n ne46).trans ((gv_up_n ne24).trans ((gv_up_n ne2).trans h_mo))) ((gv_up_n ne50).trans ((gv_up_n ne32).trans ((gv_up_n ne10).trans h_no))) ((gv_up_n ne64).trans ((gv_up_n ne33).trans ((gv_up_n ne11).trans h_xe))) ((gv_up_n ne65).trans ((gv_up_n ne34).trans ((gv_up_n ne12).trans h_ak))) ((gv_up_n ne66).trans ((gv_up_n ne35).trans ((gv_up_n ne13).trans h_af))) ((gv_up_n ne67).trans ((gv_up_n ne36).trans ((gv_up_n ne14).trans h_as))) ((gv_up_n ne68).trans ((gv_up_n ne37).trans ((gv_up_n ne15).trans h_ap))) ((gv_up_n ne69).trans ((gv_up_n ne38).trans ((gv_up_n ne16).trans h_av))) ((gv_up_n ne70).trans ((gv_up_n ne42).trans ((gv_up_n ne20).trans h_a))) ((gv_up_n ne71).trans ((gv_up_n ne43).trans ((gv_up_n ne21).trans h_c))) ((gv_up_n ne72).trans ((gv_up_n ne44).trans ((gv_up_n ne22).trans h_b))) ((gv_up_n ne73).trans ((gv_up_n ne45).trans ((gv_up_n ne23).trans h_c2))) ((gv_up_n (Ne.symm ne19)).trans ((gv_up_n htq_w1).trans gv_up_s)) ((gv_up_n (Ne.symm ne41)).trans gv_up_s) ((gv_up_n ne74).trans ((gv_up_n ne39).trans ((gv_up_n ne17).trans h_ky))) ((gv_up_n ne75).trans ((gv_up_n ne40).trans ((gv_up_n ne18).trans h_pl))) (Or.inr hSb) (by first | assumption | omega) (Ne.symm ne20) (Ne.symm ne43) (Ne.symm ne22) (Ne.symm ne45) hky) ((gv_up_n ne46).trans ((gv_up_n ne24).trans ((gv_up_n ne2).trans h_mo))) rfl rfl (by simp [Value.category]) ⟨by decide, by decide⟩ ⟨(by decide), (by decide)⟩ dX1_refresh_163 (fun zv zV zh => ?_)
                obtain ⟨vl1_w76, kf1_w76, pf1_w76, n1_w76, tl1_w76, f1_w76, rfl, rfl, ht1_w76⟩ := zh
                refine k_pc (pc' := 166) (st' := []) rfl rfl ?_
                refine k_view (V1 := gv_up (gv_up (gv_up (gv_up (gv_up (gv_up (gv_up V t_w1 (.inr (4, [.ref q_w1, .int (nI 0), .int (nI 0), .int (nI nt)]))) q_w1 (.inl (cI, 486, .inl f1_w76))) tb (.inl (cR, 120, .inr (.inr (.inr (.inr (va_up tf (i * 4 + g) (some t_w1)))))))) av (.inl (cI, 30, .inl vl1_w76))) ky (.inl (cI, 80, .inl kf1_w76))) pl (.inl (cI, 80, .inl pf1_w76))) t_w1 (.inr (4, [.ref q_w1, .int (nI n1_w76), .int tl1_w76, .int (nI nt)]))) (congrArg (fun W => gv_up W t_w1 (.inr (4, [.ref q_w1, .int (nI n1_w76), .int tl1_w76, .int (nI nt)]))) ((gv_uc (Ne.symm ne40)).trans (congrArg (fun W => gv_up W pl (.inl (cI, 80, .inl pf1_w76))) ((gv_uc (Ne.symm ne39)).trans (congrArg (fun W => gv_up W ky (.inl (cI, 80, .inl kf1_w76))) ((gv_uc (Ne.symm ne38)).trans (congrArg (fun W => gv_up W av (.inl (cI, 30, .inl vl1_w76))) ((gv_uc (Ne.symm ne41)).trans (congrArg (fun W => gv_up W tb (.inl (cR, 120, .inr (.inr (.inr (.inr (va_up tf (i * 4 + g) (some t_w1)))))))) gv_uu))))))))) ?_
                refine k_view (V1 := gv_up (gv_up (gv_up (gv_up (gv_up (gv_up V t_w1 (.inr (4, [.ref q_w1, .int (nI n1_w76), .int tl1_w76, .int (nI nt)]))) q_w1 (.inl (cI, 486, .inl f1_w76))) tb (.inl (cR, 120, .inr (.inr (.inr (.inr (va_up tf (i * 4 + g) (some t_w1)))))))) av (.inl (cI, 30, .inl vl1_w76))) ky (.inl (cI, 80, .inl kf1_w76))) pl (.inl (cI, 80, .inl pf1_w76))) ((gv_uc (Ne.symm ne18)).trans (congrArg (fun W => gv_up W pl (.inl (cI, 80, .inl pf1_w76))) ((gv_uc (Ne.symm ne17)).trans (congrArg (fun W => gv_up W ky (.inl (cI, 80, .inl kf1_w76))) ((gv_uc (Ne.symm ne16)).trans (congrArg (fun W => gv_up W av (.inl (cI, 30, .inl vl1_w76))) ((gv_uc (Ne.symm ne19)).trans (congrArg (fun W => gv_up W tb (.inl (cR, 120, .inr (.inr (.inr (.inr (va_up tf (i * 4 + g) (some t_w1)))))))) ((gv_uc htq_w1).trans (congrArg (fun W => gv_up W q_w1 (.inl (cI, 486, .inl f1_w76))) gv_uu)))))))))) ?_
                refine k_view (V1 := gv_up (gv_up (gv_up (gv_up (gv_up (gv_up V t_w1 (.inr (4, [.ref q_w1, .int (nI n1_w76), .int tl1_w76, .int (nI nt)]))) q_w1 (.inl (cI, 486, .inl f1_w76))) av (.inl (cI, 30, .inl vl1_w76))) tb (.inl (cR, 120, .inr (.inr (.inr (.inr (va_up tf (i * 4 + g) (some t_w1)))))))) ky (.inl (cI, 80, .inl kf1_w76))) pl (.inl (cI, 80, .inl pf1_w76))) (congrArg (fun W => gv_up W pl (.inl (cI, 80, .inl pf1_w76))) (congrArg (fun W => gv_up W ky (.inl (cI, 80, .inl kf1_w76))) (gv_uc ne69))) ?_
                refine k_view (V1 := gv_up (gv_up (gv_up (gv_up (gv_up (gv_up V t_w1 (.inr (4, [.ref q_w1, .int (nI n1_w76), .int tl1_w76, .int (nI nt)]))) av (.inl (cI, 30, .inl vl1_w76))) q_w1 (.inl (cI, 486, .inl f1_w76))) tb (.inl (cR, 120, .inr (.inr (.inr (.inr (va_up tf (i * 4 + g) (some t_w1)))))))) ky (.inl (cI, 80, .inl kf1_w76))) pl (.inl (cI, 80, .inl pf1_w76))) (congrArg (fun W => gv_up W pl (.inl (cI, 80, .inl pf1_w76))) (congrArg (fun W => gv_up W ky (.inl (cI, 80, .inl kf1_w76))) (congrArg (fun W => gv_up W tb (.inl (cR, 120, .inr (.inr (.inr (.inr (va_up tf (i * 4 + g) (some t_w1)))))))) (gv_uc ne38)))) ?_
                refine k_view (V1 := gv_up (gv_up (gv_up (gv_up (gv_up (gv_up V av (.inl (cI, 30, .inl vl1_w76))) t_w1 (.inr (4, [.ref q_w1, .int (nI n1_w76), .int tl1_w76, .int (nI nt)]))) q_w1 (.inl (cI, 486, .inl f1_w76))) tb (.inl (cR, 120, .inr (.inr (.inr (.inr (va_up tf (i * 4 + g) (some t_w1)))))))) ky (.inl (cI, 80, .inl kf1_w76))) pl (.inl (cI, 80, .inl pf1_w76))) (congrArg (fun W => gv_up W pl (.inl (cI, 80, .inl pf1_w76))) (congrArg (fun W => gv_up W ky (.inl (cI, 80, .inl kf1_w76))) (congrArg (fun W => gv_up W tb (.inl (cR, 120, .inr (.inr (.inr (.inr (va_up tf (i * 4 + g) (some t_w1)))))))) (congrArg (fun W => gv_up W q_w1 (.inl (cI, 486, .inl f1_w76))) (gv_uc ne16))))) ?_
                refine k_view (V1 := gv_up (gv_up (gv_up (gv_up (gv_up (gv_up V av (.inl (cI, 30, .inl vl1_w76))) t_w1 (.inr (4, [.ref q_w1, .int (nI n1_w76), .int tl1_w76, .int (nI nt)]))) q_w1 (.inl (cI, 486, .inl f1_w76))) ky (.inl (cI, 80, .inl kf1_w76))) tb (.inl (cR, 120, .inr (.inr (.inr (.inr (va_up tf (i * 4 + g) (some t_w1)))))))) pl (.inl (cI, 80, .inl pf1_w76))) (congrArg (fun W => gv_up W pl (.inl (cI, 80, .inl pf1_w76))) (gv_uc ne74)) ?_
                refine k_view (V1 := gv_up (gv_up (gv_up (gv_up (gv_up (gv_up V av (.inl (cI, 30, .inl vl1_w76))) t_w1 (.inr (4, [.ref q_w1, .int (nI n1_w76), .int tl1_w76, .int (nI nt)]))) ky (.inl (cI, 80, .inl kf1_w76))) q_w1 (.inl (cI, 486, .inl f1_w76))) tb (.inl (cR, 120, .inr (.inr (.inr (.inr (va_up tf (i * 4 + g) (some t_w1)))))))) pl (.inl (cI, 80, .inl pf1_w76))) (congrArg (fun W => gv_up W pl (.inl (cI, 80, .inl pf1_w76))) (congrArg (fun W => gv_up W tb (.inl (cR, 120, .inr (.inr (.inr (.inr (va_up tf (i * 4 + g) (some t_w1)))))))) (gv_uc ne39))) ?_
                refine k_view (V1 := gv_up (gv_up (gv_up (gv_up (gv_up (gv_up V av (.inl (cI, 30, .inl vl1_w76))) ky (.inl (cI, 80, .inl kf1_w76))) t_w1 (.inr (4, [.ref q_w1, .int (nI n1_w76), .int tl1_w76, .int (nI nt)]))) q_w1 (.inl (cI, 486, .inl f1_w76))) tb (.inl (cR, 120, .inr (.inr (.inr (.inr (va_up tf (i * 4 + g) (some t_w1)))))))) pl (.inl (cI, 80, .inl pf1_w76))) (congrArg (fun W => gv_up W pl (.inl (cI, 80, .inl pf1_w76))) (congrArg (fun W => gv_up W tb (.inl (cR, 120, .inr (.inr (.inr (.inr (va_up tf (i * 4 + g) (some t_w1)))))))) (congrArg (fun W => gv_up W q_w1 (.inl (cI, 486, .inl f1_w76))) (gv_uc ne17)))) ?_
                refine k_view (V1 := gv_up (gv_up (gv_up (gv_up (gv_up (gv_up V av (.inl (cI, 30, .inl vl1_w76))) ky (.inl (cI, 80, .inl kf1_w76))) t_w1 (.inr (4, [.ref q_w1, .int (nI n1_w76), .int tl1_w76, .int (nI nt)]))) q_w1 (.inl (cI, 486, .inl f1_w76))) pl (.inl (cI, 80, .inl pf1_w76))) tb (.inl (cR, 120, .inr (.inr (.inr (.inr (va_up tf (i * 4 + g) (some t_w1)))))))) (gv_uc ne75) ?_
                refine k_view (V1 := gv_up (gv_up (gv_up (gv_up (gv_up (gv_up V av (.inl (cI, 30, .inl vl1_w76))) ky (.inl (cI, 80, .inl kf1_w76))) t_w1 (.inr (4, [.ref q_w1, .int (nI n1_w76), .int tl1_w76, .int (nI nt)]))) pl (.inl (cI, 80, .inl pf1_w76))) q_w1 (.inl (cI, 486, .inl f1_w76))) tb (.inl (cR, 120, .inr (.inr (.inr (.inr (va_up tf (i * 4 + g) (some t_w1)))))))) (congrArg (fun W => gv_up W tb (.inl (cR, 120, .inr (.inr (.inr (.inr (va_up tf (i * 4 + g) (some t_w1)))))))) (gv_uc ne40)) ?_
                refine k_view (V1 := gv_up (gv_up (gv_up (gv_up (gv_up (gv_up V av (.inl (cI, 30, .inl vl1_w76))) ky (.inl (cI, 80, .inl kf1_w76))) pl (.inl (cI, 80, .inl pf1_w76))) t_w1 (.inr (4, [.ref q_w1, .int (nI n1_w76), .int tl1_w76, .int (nI nt)]))) q_w1 (.inl (cI, 486, .inl f1_w76))) tb (.inl (cR, 120, .inr (.inr (.inr (.inr (va_up tf (i * 4 + g) (some t_w1)))))))) (congrArg (fun W => gv_up W tb (.inl (cR, 120, .inr (.inr (.inr (.inr (va_up tf (i * 4 + g) (some t_w1)))))))) (congrArg (fun W => gv_up W q_w1 (.inl (cI, 486, .inl f1_w76))) (gv_uc ne18))) ?_
                refine k_view (V1 := gv_up (gv_up (gv_up (gv_up (gv_up (gv_up V av (.inl (cI, 30, .inl vl1_w76))) ky (.inl (cI, 80, .inl kf1_w76))) pl (.inl (cI, 80, .inl pf1_w76))) q_w1 (.inl (cI, 486, .inl f1_w76))) t_w1 (.inr (4, [.ref q_w1, .int (nI n1_w76), .int tl1_w76, .int (nI nt)]))) tb (.inl (cR, 120, .inr (.inr (.inr (.inr (va_up tf (i * 4 + g) (some t_w1)))))))) (congrArg (fun W => gv_up W tb (.inl (cR, 120, .inr (.inr (.inr (.inr (va_up tf (i * 4 + g) (some t_w1)))))))) (gv_uc (Ne.symm htq_w1))) ?_
                exact k_vret C zr zlk ⟨t_w1, q_w1, vl1_w76, kf1_w76, pf1_w76, n1_w76, tl1_w76, f1_w76, rfl, rfl, ht1_w1, hq_w1, htq_w1, ht1_w76⟩ (Nat.le_refl _) (Nat.le_refl _) dX1_refresh_166
              · skip
                have ne77 : nq xe tb := gv_ne h_tb h_xe (by simp)
                have ne78 : nq ak tb := gv_ne h_tb h_ak (by simp)
                have ne79 : nq af tb := gv_ne h_tb h_af (by simp)
                have ne80 : nq as tb := gv_ne h_tb h_as (by simp)
                have ne81 : nq ap tb := gv_ne h_tb h_ap (by simp)
                have ne82 : nq av tb := gv_ne h_tb h_av (by simp)
                have ne83 : nq a tb := gv_ne h_tb h_a (by simp)
                have ne84 : nq c tb := gv_ne h_tb h_c (by simp)
                have ne85 : nq b tb := gv_ne h_tb h_b (by simp)
                have ne86 : nq c2 tb := gv_ne h_tb h_c2 (by simp)
                have ne87 : nq ky tb := gv_ne h_tb h_ky (by simp)
                have ne88 : nq pl tb := gv_ne h_tb h_pl (by simp)
                refine k_callV C mv_1_105 (c_over3  ((gv_up_n ne46).trans ((gv_up_n ne24).trans ((gv_up_n ne2).trans h_mo))) ((gv_up_n ne50).trans ((gv_up_n ne32).trans ((gv_up_n ne10).trans h_no))) ((gv_up_n ne77).trans ((gv_up_n ne33).trans ((gv_up_n ne11).trans h_xe))) ((gv_up_n ne78).trans ((gv_up_n ne34).trans ((gv_up_n ne12).trans h_ak))) ((gv_up_n ne79).trans ((gv_up_n ne35).trans ((gv_up_n ne13).trans h_af))) ((gv_up_n ne80).trans ((gv_up_n ne36).trans ((gv_up_n ne14).trans h_as))) ((gv_up_n ne81).trans ((gv_up_n ne37).trans ((gv_up_n ne15).trans h_ap))) ((gv_up_n ne82).trans ((gv_up_n ne38).trans ((gv_up_n ne16).trans h_av))) ((gv_up_n ne83).trans ((gv_up_n ne42).trans ((gv_up_n ne20).trans h_a))) ((gv_up_n ne84).trans ((gv_up_n ne43).trans ((gv_up_n ne21).trans h_c))) ((gv_up_n ne85).trans ((gv_up_n ne44).trans ((gv_up_n ne22).trans h_b))) ((gv_up_n ne86).trans ((gv_up_n ne45).trans ((gv_up_n ne23).trans h_c2))) ((gv_up_n (Ne.symm ne19)).trans ((gv_up_n htq_w1).trans gv_up_s)) ((gv_up_n (Ne.symm ne41)).trans gv_up_s) ((gv_up_n ne87).trans ((gv_up_n ne39).trans ((gv_up_n ne17).trans h_ky))) ((gv_up_n ne88).trans ((gv_up_n ne40).trans ((gv_up_n ne18).trans h_pl))) (by first | assumption | omega) (by first | assumption | omega) hSa.2 (Ne.symm ne20) (Ne.symm ne43) hSb.2 (Ne.symm ne22) (Ne.symm ne45) hSa.1 hSb.1 hky) ((gv_up_n ne46).trans ((gv_up_n ne24).trans ((gv_up_n ne2).trans h_mo))) rfl rfl (by simp [Value.category]) ⟨by decide, by decide⟩ ⟨(by decide), (by decide)⟩ dX1_refresh_163 (fun zv zV zh => ?_)
                obtain ⟨vl1_w89, kf1_w89, pf1_w89, n1_w89, tl1_w89, f1_w89, rfl, rfl, ht1_w89⟩ := zh
                refine k_pc (pc' := 166) (st' := []) rfl rfl ?_
                refine k_view (V1 := gv_up (gv_up (gv_up (gv_up (gv_up (gv_up (gv_up V t_w1 (.inr (4, [.ref q_w1, .int (nI 0), .int (nI 0), .int (nI nt)]))) q_w1 (.inl (cI, 486, .inl f1_w89))) tb (.inl (cR, 120, .inr (.inr (.inr (.inr (va_up tf (i * 4 + g) (some t_w1)))))))) av (.inl (cI, 30, .inl vl1_w89))) ky (.inl (cI, 80, .inl kf1_w89))) pl (.inl (cI, 80, .inl pf1_w89))) t_w1 (.inr (4, [.ref q_w1, .int (nI n1_w89), .int tl1_w89, .int (nI nt)]))) (congrArg (fun W => gv_up W t_w1 (.inr (4, [.ref q_w1, .int (nI n1_w89), .int tl1_w89, .int (nI nt)]))) ((gv_uc (Ne.symm ne40)).trans (congrArg (fun W => gv_up W pl (.inl (cI, 80, .inl pf1_w89))) ((gv_uc (Ne.symm ne39)).trans (congrArg (fun W => gv_up W ky (.inl (cI, 80, .inl kf1_w89))) ((gv_uc (Ne.symm ne38)).trans (congrArg (fun W => gv_up W av (.inl (cI, 30, .inl vl1_w89))) ((gv_uc (Ne.symm ne41)).trans (congrArg (fun W => gv_up W tb (.inl (cR, 120, .inr (.inr (.inr (.inr (va_up tf (i * 4 + g) (some t_w1)))))))) gv_uu))))))))) ?_
                refine k_view (V1 := gv_up (gv_up (gv_up (gv_up (gv_up (gv_up V t_w1 (.inr (4, [.ref q_w1, .int (nI n1_w89), .int tl1_w89, .int (nI nt)]))) q_w1 (.inl (cI, 486, .inl f1_w89))) tb (.inl (cR, 120, .inr (.inr (.inr (.inr (va_up tf (i * 4 + g) (some t_w1)))))))) av (.inl (cI, 30, .inl vl1_w89))) ky (.inl (cI, 80, .inl kf1_w89))) pl (.inl (cI, 80, .inl pf1_w89))) ((gv_uc (Ne.symm ne18)).trans (congrArg (fun W => gv_up W pl (.inl (cI, 80, .inl pf1_w89))) ((gv_uc (Ne.symm ne17)).trans (congrArg (fun W => gv_up W ky (.inl (cI, 80, .inl kf1_w89))) ((gv_uc (Ne.symm ne16)).trans (congrArg (fun W => gv_up W av (.inl (cI, 30, .inl vl1_w89))) ((gv_uc (Ne.symm ne19)).trans (congrArg (fun W => gv_up W tb (.inl (cR, 120, .inr (.inr (.inr (.inr (va_up tf (i * 4 + g) (some t_w1)))))))) ((gv_uc htq_w1).trans (congrArg (fun W => gv_up W q_w1 (.inl (cI, 486, .inl f1_w89))) gv_uu)))))))))) ?_
                refine k_view (V1 := gv_up (gv_up (gv_up (gv_up (gv_up (gv_up V t_w1 (.inr (4, [.ref q_w1, .int (nI n1_w89), .int tl1_w89, .int (nI nt)]))) q_w1 (.inl (cI, 486, .inl f1_w89))) av (.inl (cI, 30, .inl vl1_w89))) tb (.inl (cR, 120, .inr (.inr (.inr (.inr (va_up tf (i * 4 + g) (some t_w1)))))))) ky (.inl (cI, 80, .inl kf1_w89))) pl (.inl (cI, 80, .inl pf1_w89))) (congrArg (fun W => gv_up W pl (.inl (cI, 80, .inl pf1_w89))) (congrArg (fun W => gv_up W ky (.inl (cI, 80, .inl kf1_w89))) (gv_uc ne82))) ?_
                refine k_view (V1 := gv_up (gv_up (gv_up (gv_up (gv_up (gv_up V t_w1 (.inr (4, [.ref q_w1, .int (nI n1_w89), .int tl1_w89, .int (nI nt)]))) av (.inl (cI, 30, .inl vl1_w89))) q_w1 (.inl (cI, 486, .inl f1_w89))) tb (.inl (cR, 120, .inr (.inr (.inr (.inr (va_up tf (i * 4 + g) (some t_w1)))))))) ky (.inl (cI, 80, .inl kf1_w89))) pl (.inl (cI, 80, .inl pf1_w89))) (congrArg (fun W => gv_up W pl (.inl (cI, 80, .inl pf1_w89))) (congrArg (fun W => gv_up W ky (.inl (cI, 80, .inl kf1_w89))) (congrArg (fun W => gv_up W tb (.inl (cR, 120, .inr (.inr (.inr (.inr (va_up tf (i * 4 + g) (some t_w1)))))))) (gv_uc ne38)))) ?_
                refine k_view (V1 := gv_up (gv_up (gv_up (gv_up (gv_up (gv_up V av (.inl (cI, 30, .inl vl1_w89))) t_w1 (.inr (4, [.ref q_w1, .int (nI n1_w89), .int tl1_w89, .int (nI nt)]))) q_w1 (.inl (cI, 486, .inl f1_w89))) tb (.inl (cR, 120, .inr (.inr (.inr (.inr (va_up tf (i * 4 + g) (some t_w1)))))))) ky (.inl (cI, 80, .inl kf1_w89))) pl (.inl (cI, 80, .inl pf1_w89))) (congrArg (fun W => gv_up W pl (.inl (cI, 80, .inl pf1_w89))) (congrArg (fun W => gv_up W ky (.inl (cI, 80, .inl kf1_w89))) (congrArg (fun W => gv_up W tb (.inl (cR, 120, .inr (.inr (.inr (.inr (va_up tf (i * 4 + g) (some t_w1)))))))) (congrArg (fun W => gv_up W q_w1 (.inl (cI, 486, .inl f1_w89))) (gv_uc ne16))))) ?_
                refine k_view (V1 := gv_up (gv_up (gv_up (gv_up (gv_up (gv_up V av (.inl (cI, 30, .inl vl1_w89))) t_w1 (.inr (4, [.ref q_w1, .int (nI n1_w89), .int tl1_w89, .int (nI nt)]))) q_w1 (.inl (cI, 486, .inl f1_w89))) ky (.inl (cI, 80, .inl kf1_w89))) tb (.inl (cR, 120, .inr (.inr (.inr (.inr (va_up tf (i * 4 + g) (some t_w1)))))))) pl (.inl (cI, 80, .inl pf1_w89))) (congrArg (fun W => gv_up W pl (.inl (cI, 80, .inl pf1_w89))) (gv_uc ne87)) ?_
                refine k_view (V1 := gv_up (gv_up (gv_up (gv_up (gv_up (gv_up V av (.inl (cI, 30, .inl vl1_w89))) t_w1 (.inr (4, [.ref q_w1, .int (nI n1_w89), .int tl1_w89, .int (nI nt)]))) ky (.inl (cI, 80, .inl kf1_w89))) q_w1 (.inl (cI, 486, .inl f1_w89))) tb (.inl (cR, 120, .inr (.inr (.inr (.inr (va_up tf (i * 4 + g) (some t_w1)))))))) pl (.inl (cI, 80, .inl pf1_w89))) (congrArg (fun W => gv_up W pl (.inl (cI, 80, .inl pf1_w89))) (congrArg (fun W => gv_up W tb (.inl (cR, 120, .inr (.inr (.inr (.inr (va_up tf (i * 4 + g) (some t_w1)))))))) (gv_uc ne39))) ?_
                refine k_view (V1 := gv_up (gv_up (gv_up (gv_up (gv_up (gv_up V av (.inl (cI, 30, .inl vl1_w89))) ky (.inl (cI, 80, .inl kf1_w89))) t_w1 (.inr (4, [.ref q_w1, .int (nI n1_w89), .int tl1_w89, .int (nI nt)]))) q_w1 (.inl (cI, 486, .inl f1_w89))) tb (.inl (cR, 120, .inr (.inr (.inr (.inr (va_up tf (i * 4 + g) (some t_w1)))))))) pl (.inl (cI, 80, .inl pf1_w89))) (congrArg (fun W => gv_up W pl (.inl (cI, 80, .inl pf1_w89))) (congrArg (fun W => gv_up W tb (.inl (cR, 120, .inr (.inr (.inr (.inr (va_up tf (i * 4 + g) (some t_w1)))))))) (congrArg (fun W => gv_up W q_w1 (.inl (cI, 486, .inl f1_w89))) (gv_uc ne17)))) ?_
                refine k_view (V1 := gv_up (gv_up (gv_up (gv_up (gv_up (gv_up V av (.inl (cI, 30, .inl vl1_w89))) ky (.inl (cI, 80, .inl kf1_w89))) t_w1 (.inr (4, [.ref q_w1, .int (nI n1_w89), .int tl1_w89, .int (nI nt)]))) q_w1 (.inl (cI, 486, .inl f1_w89))) pl (.inl (cI, 80, .inl pf1_w89))) tb (.inl (cR, 120, .inr (.inr (.inr (.inr (va_up tf (i * 4 + g) (some t_w1)))))))) (gv_uc ne88) ?_
                refine k_view (V1 := gv_up (gv_up (gv_up (gv_up (gv_up (gv_up V av (.inl (cI, 30, .inl vl1_w89))) ky (.inl (cI, 80, .inl kf1_w89))) t_w1 (.inr (4, [.ref q_w1, .int (nI n1_w89), .int tl1_w89, .int (nI nt)]))) pl (.inl (cI, 80, .inl pf1_w89))) q_w1 (.inl (cI, 486, .inl f1_w89))) tb (.inl (cR, 120, .inr (.inr (.inr (.inr (va_up tf (i * 4 + g) (some t_w1)))))))) (congrArg (fun W => gv_up W tb (.inl (cR, 120, .inr (.inr (.inr (.inr (va_up tf (i * 4 + g) (some t_w1)))))))) (gv_uc ne40)) ?_
                refine k_view (V1 := gv_up (gv_up (gv_up (gv_up (gv_up (gv_up V av (.inl (cI, 30, .inl vl1_w89))) ky (.inl (cI, 80, .inl kf1_w89))) pl (.inl (cI, 80, .inl pf1_w89))) t_w1 (.inr (4, [.ref q_w1, .int (nI n1_w89), .int tl1_w89, .int (nI nt)]))) q_w1 (.inl (cI, 486, .inl f1_w89))) tb (.inl (cR, 120, .inr (.inr (.inr (.inr (va_up tf (i * 4 + g) (some t_w1)))))))) (congrArg (fun W => gv_up W tb (.inl (cR, 120, .inr (.inr (.inr (.inr (va_up tf (i * 4 + g) (some t_w1)))))))) (congrArg (fun W => gv_up W q_w1 (.inl (cI, 486, .inl f1_w89))) (gv_uc ne18))) ?_
                refine k_view (V1 := gv_up (gv_up (gv_up (gv_up (gv_up (gv_up V av (.inl (cI, 30, .inl vl1_w89))) ky (.inl (cI, 80, .inl kf1_w89))) pl (.inl (cI, 80, .inl pf1_w89))) q_w1 (.inl (cI, 486, .inl f1_w89))) t_w1 (.inr (4, [.ref q_w1, .int (nI n1_w89), .int tl1_w89, .int (nI nt)]))) tb (.inl (cR, 120, .inr (.inr (.inr (.inr (va_up tf (i * 4 + g) (some t_w1)))))))) (congrArg (fun W => gv_up W tb (.inl (cR, 120, .inr (.inr (.inr (.inr (va_up tf (i * 4 + g) (some t_w1)))))))) (gv_uc (Ne.symm htq_w1))) ?_
                exact k_vret C zr zlk ⟨t_w1, q_w1, vl1_w89, kf1_w89, pf1_w89, n1_w89, tl1_w89, f1_w89, rfl, rfl, ht1_w1, hq_w1, htq_w1, ht1_w89⟩ (Nat.le_refl _) (Nat.le_refl _) dX1_refresh_166
          · skip
            exact absurd c113 (nI_n1 (by omega))
        · skip
          exact absurd c94 (by decide)
      · skip
        exact absurd c73 (by decide)
    · skip
      exact absurd c54 (by decide)
  · skip
    exact absurd c18.symm (nI_n1 (by omega))
set_option maxHeartbeats 4000000 in
set_option maxRecDepth 100000 in
theorem c_ref4NN {zl : Launch} {D : va_G} {cI cN cR : ClassId} {base : Nat} {V : gv_V} {mo tr nd tb wg ky pl : Nat} {tga tsa tpa tqa nt : Nat} {tg ts tp tq : Nat → Int32} {nl nn : Nat} {nf : Nat → Option Nat} {no : Nat} {ps pp po va st fr ln dn ag gr : Int32} {xe ak af as ap av ne : Nat} {kd fs sc pt vl : Nat → Int32} {kf pf : Nat → Int32} {tf : Nat → Option Nat} {i g a0 b0 : Nat} {E : Nat → Ex} {a c n : Nat} {tl mk : Int32} {f : Nat → Int32} {SA : Option (List Row)} {b c2 n2 : Nat} {tl2 mk2 : Int32} {g2 : Nat → Int32} {SB : Option (List Row)}  (h_mo : V mo = some (.inr (1, [.ref tr, .ref xe, .ref nd, .ref tb, .ref wg, .ref ky, .ref pl]))) (h_tr : V tr = some (.inr (5, [.ref tga, .ref tsa, .ref tpa, .ref tqa, .int (nI nt)]))) (h_tga : V tga = some (.inl (cI, 60, .inl tg))) (h_tsa : V tsa = some (.inl (cI, 60, .inl ts))) (h_tpa : V tpa = some (.inl (cI, 60, .inl tp))) (h_tqa : V tqa = some (.inl (cI, 60, .inl tq))) (h_nd : V nd = some (.inr (3, [.ref nl, .int (nI nn)]))) (h_nl : V nl = some (.inl (cN, 30, .inr (.inr (.inr (.inr nf)))))) (h_no : V no = some (.inr (2, [.int (nI 4), .int (nI a0), .int (nI b0), .int ps, .int pp, .int po, .int (-1 : Int32), .int va, .int st, .int fr, .int ln, .int dn, .int ag, .int gr]))) (h_xe : V xe = some (.inr (0, [.ref ak, .ref af, .ref as, .ref ap, .ref av, .int (nI ne)]))) (h_ak : V ak = some (.inl (cI, 30, .inl kd))) (h_af : V af = some (.inl (cI, 30, .inl fs))) (h_as : V as = some (.inl (cI, 30, .inl sc))) (h_ap : V ap = some (.inl (cI, 30, .inl pt))) (h_av : V av = some (.inl (cI, 30, .inl vl))) (h_ky : V ky = some (.inl (cI, 80, .inl kf))) (h_pl : V pl = some (.inl (cI, 80, .inl pf))) (h_tb : V tb = some (.inl (cR, 120, .inr (.inr (.inr (.inr tf)))))) (h_a : V a = some (.inr (4, [.ref c, .int (nI n), .int tl, .int mk]))) (h_c : V c = some (.inl (cI, 486, .inl f))) (h_b : V b = some (.inr (4, [.ref c2, .int (nI n2), .int tl2, .int mk2]))) (h_c2 : V c2 = some (.inl (cI, 486, .inl g2))) (hX : ExR E ne kd fs sc pt) (hd : [ak, af, as, ap, av].Nodup) (hi : i < 30) (hg : g < 4) (hnf : nf i = some no) (hky : nq ky pl) (hnt : nt ≤ 60) (ht : tf (i * 4 + g) = none) (ha0 : a0 < i) (hta : tf (a0 * 4 + g) = some a) (hSa : TRep SA n tl f) (hb0 : b0 < i) (htb : tf (b0 * 4 + g) = some b) (hSb : TRep SB n2 tl2 g2) : ct zl D [(cI, .int), (cN, .object "AlgebraTree$Node"), (cR, .object "AlgebraTree$Rows")] base yX1_refresh cX1_refresh 6 none 5 2 490 [.ref mo, .int (nI i), .int (nI g)] V (fun zv zV => ∃ t : Nat, ∃ q : Nat, ∃ vl1 : Nat → Int32, ∃ kf1 : Nat → Int32, ∃ pf1 : Nat → Int32, ∃ n1 : Nat, ∃ tl1 : Int32, ∃ f1 : Nat → Int32, zv = none ∧ zV = gv_up (gv_up (gv_up (gv_up (gv_up (gv_up V av (.inl (cI, 30, .inl vl1))) ky (.inl (cI, 80, .inl kf1))) pl (.inl (cI, 80, .inl pf1))) q (.inl (cI, 486, .inl f1))) t (.inr (4, [.ref q, .int (nI n1), .int tl1, .int (nI nt)]))) tb (.inl (cR, 120, .inr (.inr (.inr (.inr (va_up tf (i * 4 + g) (some t))))))) ∧ (V t = none) ∧ (V q = none) ∧ (nq t q) ∧ (TRep (SA.bind (fun A => SB.bind (fun B => cap (leftL (fun _ => true) A B)))) n1 tl1 f1)) := by
  refine ct_of "AlgebraTree$Maker" rfl (by decide) (Nat.le_of_ble_eq_true rfl) ?_
  intro zp ze zs zm zargs zbelow zmeth zc C zr zlk znm
  refine k_pc (pc' := 0) (st' := []) rfl rfl ?_
  show K zp zl ze (gv_rm 5 2 490) zs zm zargs zbelow zmeth zc D base 6 (gv_E D [(cI, .int), (cN, .object "AlgebraTree$Node"), (cR, .object "AlgebraTree$Rows")] base zbelow zargs zs 2 490 (fun zv zV => ∃ t : Nat, ∃ q : Nat, ∃ vl1 : Nat → Int32, ∃ kf1 : Nat → Int32, ∃ pf1 : Nat → Int32, ∃ n1 : Nat, ∃ tl1 : Int32, ∃ f1 : Nat → Int32, zv = none ∧ zV = gv_up (gv_up (gv_up (gv_up (gv_up (gv_up V av (.inl (cI, 30, .inl vl1))) ky (.inl (cI, 80, .inl kf1))) pl (.inl (cI, 80, .inl pf1))) q (.inl (cI, 486, .inl f1))) t (.inr (4, [.ref q, .int (nI n1), .int tl1, .int (nI nt)]))) tb (.inl (cR, 120, .inr (.inr (.inr (.inr (va_up tf (i * 4 + g) (some t))))))) ∧ (V t = none) ∧ (V q = none) ∧ (nq t q) ∧ (TRep (SA.bind (fun A => SB.bind (fun B => cap (leftL (fun _ => true) A B)))) n1 tl1 f1))) V 0 0 [(0, .ref mo), (1, .int (nI i)), (2, .int (nI g))] 0 []
  refine k_aload_n C dX1_refresh_0 rfl 0 rfl ?_
  refine k_iload_n C dX1_refresh_1 rfl 1 rfl ?_
  refine k_iload_n C dX1_refresh_2 rfl 2 rfl ?_
  refine k_callV C mv_1_56 (c_tableOfN  h_mo h_tb (by first | assumption | omega) (by first | assumption | omega) (by first | assumption | omega)) h_mo rfl rfl (by simp [Value.category]) ⟨by decide, by decide⟩ ⟨(by decide), (by decide)⟩ dX1_refresh_3 (fun zv zV zh => ?_)
  obtain ⟨t_w1, q_w1, rfl, rfl, ht1_w1, hq_w1, htq_w1⟩ := zh
  refine k_pc (pc' := 6) (st' := .ref t_w1 :: []) rfl rfl ?_
  have ne2 : nq mo t_w1 := gv_nf ht1_w1 h_mo
  have ne3 : nq tr t_w1 := gv_nf ht1_w1 h_tr
  have ne4 : nq tga t_w1 := gv_nf ht1_w1 h_tga
  have ne5 : nq tsa t_w1 := gv_nf ht1_w1 h_tsa
  have ne6 : nq tpa t_w1 := gv_nf ht1_w1 h_tpa
  have ne7 : nq tqa t_w1 := gv_nf ht1_w1 h_tqa
  have ne8 : nq nd t_w1 := gv_nf ht1_w1 h_nd
  have ne9 : nq nl t_w1 := gv_nf ht1_w1 h_nl
  have ne10 : nq no t_w1 := gv_nf ht1_w1 h_no
  have ne11 : nq xe t_w1 := gv_nf ht1_w1 h_xe
  have ne12 : nq ak t_w1 := gv_nf ht1_w1 h_ak
  have ne13 : nq af t_w1 := gv_nf ht1_w1 h_af
  have ne14 : nq as t_w1 := gv_nf ht1_w1 h_as
  have ne15 : nq ap t_w1 := gv_nf ht1_w1 h_ap
  have ne16 : nq av t_w1 := gv_nf ht1_w1 h_av
  have ne17 : nq ky t_w1 := gv_nf ht1_w1 h_ky
  have ne18 : nq pl t_w1 := gv_nf ht1_w1 h_pl
  have ne19 : nq tb t_w1 := gv_nf ht1_w1 h_tb
  have ne20 : nq a t_w1 := gv_nf ht1_w1 h_a
  have ne21 : nq c t_w1 := gv_nf ht1_w1 h_c
  have ne22 : nq b t_w1 := gv_nf ht1_w1 h_b
  have ne23 : nq c2 t_w1 := gv_nf ht1_w1 h_c2
  have ne24 : nq mo q_w1 := gv_nf hq_w1 h_mo
  have ne25 : nq tr q_w1 := gv_nf hq_w1 h_tr
  have ne26 : nq tga q_w1 := gv_nf hq_w1 h_tga
  have ne27 : nq tsa q_w1 := gv_nf hq_w1 h_tsa
  have ne28 : nq tpa q_w1 := gv_nf hq_w1 h_tpa
  have ne29 : nq tqa q_w1 := gv_nf hq_w1 h_tqa
  have ne30 : nq nd q_w1 := gv_nf hq_w1 h_nd
  have ne31 : nq nl q_w1 := gv_nf hq_w1 h_nl
  have ne32 : nq no q_w1 := gv_nf hq_w1 h_no
  have ne33 : nq xe q_w1 := gv_nf hq_w1 h_xe
  have ne34 : nq ak q_w1 := gv_nf hq_w1 h_ak
  have ne35 : nq af q_w1 := gv_nf hq_w1 h_af
  have ne36 : nq as q_w1 := gv_nf hq_w1 h_as
  have ne37 : nq ap q_w1 := gv_nf hq_w1 h_ap
  have ne38 : nq av q_w1 := gv_nf hq_w1 h_av
  have ne39 : nq ky q_w1 := gv_nf hq_w1 h_ky
  have ne40 : nq pl q_w1 := gv_nf hq_w1 h_pl
  have ne41 : nq tb q_w1 := gv_nf hq_w1 h_tb
  have ne42 : nq a q_w1 := gv_nf hq_w1 h_a
  have ne43 : nq c q_w1 := gv_nf hq_w1 h_c
  have ne44 : nq b q_w1 := gv_nf hq_w1 h_b
  have ne45 : nq c2 q_w1 := gv_nf hq_w1 h_c2
  refine k_astore_n (lv' := [(3, .ref t_w1), (0, .ref mo), (1, .int (nI i)), (2, .int (nI g))]) C dX1_refresh_6 rfl (by decide) rfl ?_
  refine k_aload_n C dX1_refresh_7 rfl 0 rfl ?_
  refine k_get (ci := 4) (k := 3) C fl_1_84 ((gv_up_n (Ne.symm ne19)).trans ((gv_up_n htq_w1).trans gv_up_s)) rfl dX1_refresh_8 ?_
  refine k_aload_n C dX1_refresh_11 rfl 1 rfl ?_
  have ne46 : nq mo tb := gv_ne h_tb h_mo (by simp)
  refine k_get (ci := 1) (k := 0) C fl_1_12 ((gv_up_n ne46).trans ((gv_up_n ne24).trans ((gv_up_n ne2).trans h_mo))) rfl dX1_refresh_12 ?_
  have ne47 : nq tr tb := gv_ne h_tb h_tr (by simp)
  refine k_get (ci := 5) (k := 4) C fl_1_87 ((gv_up_n ne47).trans ((gv_up_n ne25).trans ((gv_up_n ne3).trans h_tr))) rfl dX1_refresh_15 ?_
  refine k_icmp_ne (tgt := 22) C dX1_refresh_18 (by decide) (fun c18 => ?_) (fun c18 => ?_)
  · skip
    refine k_aload_n C dX1_refresh_22 rfl 0 rfl ?_
    refine k_callV_pv C mv_1_90 (c_X4_clear  ((gv_up_n (Ne.symm ne19)).trans ((gv_up_n htq_w1).trans gv_up_s)) ((gv_up_n (Ne.symm ne41)).trans gv_up_s) ) ((gv_up_n (Ne.symm ne19)).trans ((gv_up_n htq_w1).trans gv_up_s)) rfl rfl (by simp [Value.category]) ⟨by decide, by decide⟩ ⟨(by decide), (by decide)⟩ dX1_refresh_23 ?_
    refine k_view (V1 := gv_up (gv_up (gv_up V t_w1 (.inr (4, [.ref q_w1, .int (nI 0), .int (nI 0), .int (-1 : Int32)]))) q_w1 (.inl (cI, 486, .inl (fun _ => 0)))) tb (.inl (cR, 120, .inr (.inr (.inr (.inr (va_up tf (i * 4 + g) (some t_w1)))))))) ((gv_uc (Ne.symm ne19)).trans (congrArg (fun W => gv_up W tb (.inl (cR, 120, .inr (.inr (.inr (.inr (va_up tf (i * 4 + g) (some t_w1)))))))) ((gv_uc htq_w1).trans (congrArg (fun W => gv_up W q_w1 (.inl (cI, 486, .inl (fun _ => 0)))) gv_uu)))) ?_
    refine k_aload_n C dX1_refresh_26 rfl 0 rfl ?_
    refine k_aload_n C dX1_refresh_27 rfl 1 rfl ?_
    refine k_get (ci := 1) (k := 0) C fl_1_12 ((gv_up_n ne46).trans ((gv_up_n ne24).trans ((gv_up_n ne2).trans h_mo))) rfl dX1_refresh_28 ?_
    refine k_get (ci := 5) (k := 4) C fl_1_87 ((gv_up_n ne47).trans ((gv_up_n ne25).trans ((gv_up_n ne3).trans h_tr))) rfl dX1_refresh_31 ?_
    refine k_put (ci := 4) (k := 3) (fs' := [.ref q_w1, .int (nI 0), .int (nI 0), .int (nI nt)]) C fl_1_84 pf_4_3 ((gv_up_n (Ne.symm ne19)).trans ((gv_up_n htq_w1).trans gv_up_s)) rfl rfl (Nat.le_of_ble_eq_true rfl) rfl dX1_refresh_34 ?_
    refine k_view (V1 := gv_up (gv_up (gv_up V t_w1 (.inr (4, [.ref q_w1, .int (nI 0), .int (nI 0), .int (nI nt)]))) q_w1 (.inl (cI, 486, .inl (fun _ => 0)))) tb (.inl (cR, 120, .inr (.inr (.inr (.inr (va_up tf (i * 4 + g) (some t_w1)))))))) ((gv_uc (Ne.symm ne19)).trans (congrArg (fun W => gv_up W tb (.inl (cR, 120, .inr (.inr (.inr (.inr (va_up tf (i * 4 + g) (some t_w1)))))))) ((gv_uc htq_w1).trans (congrArg (fun W => gv_up W q_w1 (.inl (cI, 486, .inl (fun _ => 0)))) gv_uu)))) ?_
    refine k_aload_n C dX1_refresh_37 rfl 1 rfl ?_
    refine k_get (ci := 1) (k := 2) C fl_1_28 ((gv_up_n ne46).trans ((gv_up_n ne24).trans ((gv_up_n ne2).trans h_mo))) rfl dX1_refresh_38 ?_
    refine k_iload_n C dX1_refresh_41 rfl 2 rfl ?_
    have ne48 : nq nd tb := gv_ne h_tb h_nd (by simp)
    have ne49 : nq nl tb := gv_ne h_tb h_nl (by simp)
    refine k_callV_pr C mv_1_60 (c_X3_at  ((gv_up_n ne48).trans ((gv_up_n ne30).trans ((gv_up_n ne8).trans h_nd))) ((gv_up_n ne49).trans ((gv_up_n ne31).trans ((gv_up_n ne9).trans h_nl))) (by first | assumption | omega) hnf) ((gv_up_n ne48).trans ((gv_up_n ne30).trans ((gv_up_n ne8).trans h_nd))) rfl rfl (by simp [Value.category]) ⟨by decide, by decide⟩ ⟨(by decide), (by decide)⟩ dX1_refresh_42 ?_
    refine k_astore (lv' := [(4, .ref no), (3, .ref t_w1), (0, .ref mo), (1, .int (nI i)), (2, .int (nI g))]) C dX1_refresh_45 (by decide) rfl ?_
    refine k_aload C dX1_refresh_47 0 rfl ?_
    have ne50 : nq no tb := gv_ne h_tb h_no (by simp)
    refine k_get (ci := 2) (k := 0) C fl_1_77 ((gv_up_n ne50).trans ((gv_up_n ne32).trans ((gv_up_n ne10).trans h_no))) rfl dX1_refresh_49 ?_
    refine k_bipush (v := nI 12) C dX1_refresh_52 rfl ?_
    refine k_icmp_ne (tgt := 65) C dX1_refresh_54 (by decide) (fun c54 => ?_) (fun c54 => ?_)
    · skip
      have b54 : ¬ 4 = 12 := fun z => c54 ((nI_eq (a := 4) (b := 12) (by omega) (by omega)).mpr z)
      refine k_iload_n C dX1_refresh_65 rfl 4 rfl ?_
      refine k_istore (lv' := [(5, .int (nI g)), (4, .ref no), (3, .ref t_w1), (0, .ref mo), (1, .int (nI i)), (2, .int (nI g))]) C dX1_refresh_66 (by decide) rfl ?_
      refine k_aload C dX1_refresh_68 1 rfl ?_
      refine k_get (ci := 2) (k := 0) C fl_1_77 ((gv_up_n ne50).trans ((gv_up_n ne32).trans ((gv_up_n ne10).trans h_no))) rfl dX1_refresh_70 ?_
      refine k_if_ne (tgt := 87) C dX1_refresh_73 (by decide) (fun c73 => ?_) (fun c73 => ?_)
      · skip
        have b73 : ¬ 4 = 0 := fun z => c73 ((nI_eq (a := 4) (b := 0) (by omega) (by omega)).mpr z)
        refine k_aload C dX1_refresh_87 1 rfl ?_
        refine k_get (ci := 2) (k := 0) C fl_1_77 ((gv_up_n ne50).trans ((gv_up_n ne32).trans ((gv_up_n ne10).trans h_no))) rfl dX1_refresh_89 ?_
        refine k_bipush (v := nI 13) C dX1_refresh_92 rfl ?_
        refine k_icmp_ne (tgt := 107) C dX1_refresh_94 (by decide) (fun c94 => ?_) (fun c94 => ?_)
        · skip
          have b94 : ¬ 4 = 13 := fun z => c94 ((nI_eq (a := 4) (b := 13) (by omega) (by omega)).mpr z)
          refine k_aload C dX1_refresh_107 1 rfl ?_
          refine k_get (ci := 2) (k := 2) C fl_1_74 ((gv_up_n ne50).trans ((gv_up_n ne32).trans ((gv_up_n ne10).trans h_no))) rfl dX1_refresh_109 ?_
          refine k_iconst (v := (-1 : Int32)) C dX1_refresh_112 (by decide) ?_
          refine k_icmp_ne (tgt := 137) C dX1_refresh_113 (by decide) (fun c113 => ?_) (fun c113 => ?_)
          · skip
            refine k_aload_n C dX1_refresh_137 rfl 3 rfl ?_
            refine k_aload C dX1_refresh_138 1 rfl ?_
            refine k_aload_n C dX1_refresh_140 rfl 3 rfl ?_
            refine k_aload C dX1_refresh_141 1 rfl ?_
            refine k_get (ci := 2) (k := 1) C fl_1_68 ((gv_up_n ne50).trans ((gv_up_n ne32).trans ((gv_up_n ne10).trans h_no))) rfl dX1_refresh_143 ?_
            refine k_iload C dX1_refresh_146 0 rfl ?_
            refine k_callV_pr C mv_1_56 (c_tableOf  ((gv_up_n ne46).trans ((gv_up_n ne24).trans ((gv_up_n ne2).trans h_mo))) gv_up_s (by first | assumption | omega) (by first | assumption | omega) (by simp only [va_up]; rw [if_neg (by omega)]; exact hta)) ((gv_up_n ne46).trans ((gv_up_n ne24).trans ((gv_up_n ne2).trans h_mo))) rfl rfl (by simp [Value.category]) ⟨by decide, by decide⟩ ⟨(by decide), (by decide)⟩ dX1_refresh_148 ?_
            refine k_aload_n C dX1_refresh_151 rfl 3 rfl ?_
            refine k_aload C dX1_refresh_152 1 rfl ?_
            refine k_get (ci := 2) (k := 2) C fl_1_74 ((gv_up_n ne50).trans ((gv_up_n ne32).trans ((gv_up_n ne10).trans h_no))) rfl dX1_refresh_154 ?_
            refine k_iload C dX1_refresh_157 0 rfl ?_
            refine k_callV_pr C mv_1_56 (c_tableOf  ((gv_up_n ne46).trans ((gv_up_n ne24).trans ((gv_up_n ne2).trans h_mo))) gv_up_s (by first | assumption | omega) (by first | assumption | omega) (by simp only [va_up]; rw [if_neg (by omega)]; exact htb)) ((gv_up_n ne46).trans ((gv_up_n ne24).trans ((gv_up_n ne2).trans h_mo))) rfl rfl (by simp [Value.category]) ⟨by decide, by decide⟩ ⟨(by decide), (by decide)⟩ dX1_refresh_159 ?_
            refine k_aload_n C dX1_refresh_162 rfl 2 rfl ?_
            rcases SA with _ | A
            · skip
              have ne51 : nq xe tb := gv_ne h_tb h_xe (by simp)
              have ne52 : nq ak tb := gv_ne h_tb h_ak (by simp)
              have ne53 : nq af tb := gv_ne h_tb h_af (by simp)
              have ne54 : nq as tb := gv_ne h_tb h_as (by simp)
              have ne55 : nq ap tb := gv_ne h_tb h_ap (by simp)
              have ne56 : nq av tb := gv_ne h_tb h_av (by simp)
              have ne57 : nq a tb := gv_ne h_tb h_a (by simp)
              have ne58 : nq c tb := gv_ne h_tb h_c (by simp)
              have ne59 : nq b tb := gv_ne h_tb h_b (by simp)
              have ne60 : nq c2 tb := gv_ne h_tb h_c2 (by simp)
              have ne61 : nq ky tb := gv_ne h_tb h_ky (by simp)
              have ne62 : nq pl tb := gv_ne h_tb h_pl (by simp)
              refine k_callV C mv_1_105 (c_overL2  ((gv_up_n ne46).trans ((gv_up_n ne24).trans ((gv_up_n ne2).trans h_mo))) ((gv_up_n ne50).trans ((gv_up_n ne32).trans ((gv_up_n ne10).trans h_no))) ((gv_up_n ne51).trans ((gv_up_n ne33).trans ((gv_up_n ne11).trans h_xe))) ((gv_up_n ne52).trans ((gv_up_n ne34).trans ((gv_up_n ne12).trans h_ak))) ((gv_up_n ne53).trans ((gv_up_n ne35).trans ((gv_up_n ne13).trans h_af))) ((gv_up_n ne54).trans ((gv_up_n ne36).trans ((gv_up_n ne14).trans h_as))) ((gv_up_n ne55).trans ((gv_up_n ne37).trans ((gv_up_n ne15).trans h_ap))) ((gv_up_n ne56).trans ((gv_up_n ne38).trans ((gv_up_n ne16).trans h_av))) ((gv_up_n ne57).trans ((gv_up_n ne42).trans ((gv_up_n ne20).trans h_a))) ((gv_up_n ne58).trans ((gv_up_n ne43).trans ((gv_up_n ne21).trans h_c))) ((gv_up_n ne59).trans ((gv_up_n ne44).trans ((gv_up_n ne22).trans h_b))) ((gv_up_n ne60).trans ((gv_up_n ne45).trans ((gv_up_n ne23).trans h_c2))) ((gv_up_n (Ne.symm ne19)).trans ((gv_up_n htq_w1).trans gv_up_s)) ((gv_up_n (Ne.symm ne41)).trans gv_up_s) ((gv_up_n ne61).trans ((gv_up_n ne39).trans ((gv_up_n ne17).trans h_ky))) ((gv_up_n ne62).trans ((gv_up_n ne40).trans ((gv_up_n ne18).trans h_pl))) (Or.inl hSa) (by first | assumption | omega) (Ne.symm ne20) (Ne.symm ne43) (Ne.symm ne22) (Ne.symm ne45) hky) ((gv_up_n ne46).trans ((gv_up_n ne24).trans ((gv_up_n ne2).trans h_mo))) rfl rfl (by simp [Value.category]) ⟨by decide, by decide⟩ ⟨(by decide), (by decide)⟩ dX1_refresh_163 (fun zv zV zh => ?_)
              obtain ⟨vl1_w63, kf1_w63, pf1_w63, n1_w63, tl1_w63, f1_w63, rfl, rfl, ht1_w63⟩ := zh
              refine k_pc (pc' := 166) (st' := []) rfl rfl ?_
              refine k_view (V1 := gv_up (gv_up (gv_up (gv_up (gv_up (gv_up (gv_up V t_w1 (.inr (4, [.ref q_w1, .int (nI 0), .int (nI 0), .int (nI nt)]))) q_w1 (.inl (cI, 486, .inl f1_w63))) tb (.inl (cR, 120, .inr (.inr (.inr (.inr (va_up tf (i * 4 + g) (some t_w1)))))))) av (.inl (cI, 30, .inl vl1_w63))) ky (.inl (cI, 80, .inl kf1_w63))) pl (.inl (cI, 80, .inl pf1_w63))) t_w1 (.inr (4, [.ref q_w1, .int (nI n1_w63), .int tl1_w63, .int (nI nt)]))) (congrArg (fun W => gv_up W t_w1 (.inr (4, [.ref q_w1, .int (nI n1_w63), .int tl1_w63, .int (nI nt)]))) ((gv_uc (Ne.symm ne40)).trans (congrArg (fun W => gv_up W pl (.inl (cI, 80, .inl pf1_w63))) ((gv_uc (Ne.symm ne39)).trans (congrArg (fun W => gv_up W ky (.inl (cI, 80, .inl kf1_w63))) ((gv_uc (Ne.symm ne38)).trans (congrArg (fun W => gv_up W av (.inl (cI, 30, .inl vl1_w63))) ((gv_uc (Ne.symm ne41)).trans (congrArg (fun W => gv_up W tb (.inl (cR, 120, .inr (.inr (.inr (.inr (va_up tf (i * 4 + g) (some t_w1)))))))) gv_uu))))))))) ?_
              refine k_view (V1 := gv_up (gv_up (gv_up (gv_up (gv_up (gv_up V t_w1 (.inr (4, [.ref q_w1, .int (nI n1_w63), .int tl1_w63, .int (nI nt)]))) q_w1 (.inl (cI, 486, .inl f1_w63))) tb (.inl (cR, 120, .inr (.inr (.inr (.inr (va_up tf (i * 4 + g) (some t_w1)))))))) av (.inl (cI, 30, .inl vl1_w63))) ky (.inl (cI, 80, .inl kf1_w63))) pl (.inl (cI, 80, .inl pf1_w63))) ((gv_uc (Ne.symm ne18)).trans (congrArg (fun W => gv_up W pl (.inl (cI, 80, .inl pf1_w63))) ((gv_uc (Ne.symm ne17)).trans (congrArg (fun W => gv_up W ky (.inl (cI, 80, .inl kf1_w63))) ((gv_uc (Ne.symm ne16)).trans (congrArg (fun W => gv_up W av (.inl (cI, 30, .inl vl1_w63))) ((gv_uc (Ne.symm ne19)).trans (congrArg (fun W => gv_up W tb (.inl (cR, 120, .inr (.inr (.inr (.inr (va_up tf (i * 4 + g) (some t_w1)))))))) ((gv_uc htq_w1).trans (congrArg (fun W => gv_up W q_w1 (.inl (cI, 486, .inl f1_w63))) gv_uu)))))))))) ?_
              refine k_view (V1 := gv_up (gv_up (gv_up (gv_up (gv_up (gv_up V t_w1 (.inr (4, [.ref q_w1, .int (nI n1_w63), .int tl1_w63, .int (nI nt)]))) q_w1 (.inl (cI, 486, .inl f1_w63))) av (.inl (cI, 30, .inl vl1_w63))) tb (.inl (cR, 120, .inr (.inr (.inr (.inr (va_up tf (i * 4 + g) (some t_w1)))))))) ky (.inl (cI, 80, .inl kf1_w63))) pl (.inl (cI, 80, .inl pf1_w63))) (congrArg (fun W => gv_up W pl (.inl (cI, 80, .inl pf1_w63))) (congrArg (fun W => gv_up W ky (.inl (cI, 80, .inl kf1_w63))) (gv_uc ne56))) ?_
              refine k_view (V1 := gv_up (gv_up (gv_up (gv_up (gv_up (gv_up V t_w1 (.inr (4, [.ref q_w1, .int (nI n1_w63), .int tl1_w63, .int (nI nt)]))) av (.inl (cI, 30, .inl vl1_w63))) q_w1 (.inl (cI, 486, .inl f1_w63))) tb (.inl (cR, 120, .inr (.inr (.inr (.inr (va_up tf (i * 4 + g) (some t_w1)))))))) ky (.inl (cI, 80, .inl kf1_w63))) pl (.inl (cI, 80, .inl pf1_w63))) (congrArg (fun W => gv_up W pl (.inl (cI, 80, .inl pf1_w63))) (congrArg (fun W => gv_up W ky (.inl (cI, 80, .inl kf1_w63))) (congrArg (fun W => gv_up W tb (.inl (cR, 120, .inr (.inr (.inr (.inr (va_up tf (i * 4 + g) (some t_w1)))))))) (gv_uc ne38)))) ?_
              refine k_view (V1 := gv_up (gv_up (gv_up (gv_up (gv_up (gv_up V av (.inl (cI, 30, .inl vl1_w63))) t_w1 (.inr (4, [.ref q_w1, .int (nI n1_w63), .int tl1_w63, .int (nI nt)]))) q_w1 (.inl (cI, 486, .inl f1_w63))) tb (.inl (cR, 120, .inr (.inr (.inr (.inr (va_up tf (i * 4 + g) (some t_w1)))))))) ky (.inl (cI, 80, .inl kf1_w63))) pl (.inl (cI, 80, .inl pf1_w63))) (congrArg (fun W => gv_up W pl (.inl (cI, 80, .inl pf1_w63))) (congrArg (fun W => gv_up W ky (.inl (cI, 80, .inl kf1_w63))) (congrArg (fun W => gv_up W tb (.inl (cR, 120, .inr (.inr (.inr (.inr (va_up tf (i * 4 + g) (some t_w1)))))))) (congrArg (fun W => gv_up W q_w1 (.inl (cI, 486, .inl f1_w63))) (gv_uc ne16))))) ?_
              refine k_view (V1 := gv_up (gv_up (gv_up (gv_up (gv_up (gv_up V av (.inl (cI, 30, .inl vl1_w63))) t_w1 (.inr (4, [.ref q_w1, .int (nI n1_w63), .int tl1_w63, .int (nI nt)]))) q_w1 (.inl (cI, 486, .inl f1_w63))) ky (.inl (cI, 80, .inl kf1_w63))) tb (.inl (cR, 120, .inr (.inr (.inr (.inr (va_up tf (i * 4 + g) (some t_w1)))))))) pl (.inl (cI, 80, .inl pf1_w63))) (congrArg (fun W => gv_up W pl (.inl (cI, 80, .inl pf1_w63))) (gv_uc ne61)) ?_
              refine k_view (V1 := gv_up (gv_up (gv_up (gv_up (gv_up (gv_up V av (.inl (cI, 30, .inl vl1_w63))) t_w1 (.inr (4, [.ref q_w1, .int (nI n1_w63), .int tl1_w63, .int (nI nt)]))) ky (.inl (cI, 80, .inl kf1_w63))) q_w1 (.inl (cI, 486, .inl f1_w63))) tb (.inl (cR, 120, .inr (.inr (.inr (.inr (va_up tf (i * 4 + g) (some t_w1)))))))) pl (.inl (cI, 80, .inl pf1_w63))) (congrArg (fun W => gv_up W pl (.inl (cI, 80, .inl pf1_w63))) (congrArg (fun W => gv_up W tb (.inl (cR, 120, .inr (.inr (.inr (.inr (va_up tf (i * 4 + g) (some t_w1)))))))) (gv_uc ne39))) ?_
              refine k_view (V1 := gv_up (gv_up (gv_up (gv_up (gv_up (gv_up V av (.inl (cI, 30, .inl vl1_w63))) ky (.inl (cI, 80, .inl kf1_w63))) t_w1 (.inr (4, [.ref q_w1, .int (nI n1_w63), .int tl1_w63, .int (nI nt)]))) q_w1 (.inl (cI, 486, .inl f1_w63))) tb (.inl (cR, 120, .inr (.inr (.inr (.inr (va_up tf (i * 4 + g) (some t_w1)))))))) pl (.inl (cI, 80, .inl pf1_w63))) (congrArg (fun W => gv_up W pl (.inl (cI, 80, .inl pf1_w63))) (congrArg (fun W => gv_up W tb (.inl (cR, 120, .inr (.inr (.inr (.inr (va_up tf (i * 4 + g) (some t_w1)))))))) (congrArg (fun W => gv_up W q_w1 (.inl (cI, 486, .inl f1_w63))) (gv_uc ne17)))) ?_
              refine k_view (V1 := gv_up (gv_up (gv_up (gv_up (gv_up (gv_up V av (.inl (cI, 30, .inl vl1_w63))) ky (.inl (cI, 80, .inl kf1_w63))) t_w1 (.inr (4, [.ref q_w1, .int (nI n1_w63), .int tl1_w63, .int (nI nt)]))) q_w1 (.inl (cI, 486, .inl f1_w63))) pl (.inl (cI, 80, .inl pf1_w63))) tb (.inl (cR, 120, .inr (.inr (.inr (.inr (va_up tf (i * 4 + g) (some t_w1)))))))) (gv_uc ne62) ?_
              refine k_view (V1 := gv_up (gv_up (gv_up (gv_up (gv_up (gv_up V av (.inl (cI, 30, .inl vl1_w63))) ky (.inl (cI, 80, .inl kf1_w63))) t_w1 (.inr (4, [.ref q_w1, .int (nI n1_w63), .int tl1_w63, .int (nI nt)]))) pl (.inl (cI, 80, .inl pf1_w63))) q_w1 (.inl (cI, 486, .inl f1_w63))) tb (.inl (cR, 120, .inr (.inr (.inr (.inr (va_up tf (i * 4 + g) (some t_w1)))))))) (congrArg (fun W => gv_up W tb (.inl (cR, 120, .inr (.inr (.inr (.inr (va_up tf (i * 4 + g) (some t_w1)))))))) (gv_uc ne40)) ?_
              refine k_view (V1 := gv_up (gv_up (gv_up (gv_up (gv_up (gv_up V av (.inl (cI, 30, .inl vl1_w63))) ky (.inl (cI, 80, .inl kf1_w63))) pl (.inl (cI, 80, .inl pf1_w63))) t_w1 (.inr (4, [.ref q_w1, .int (nI n1_w63), .int tl1_w63, .int (nI nt)]))) q_w1 (.inl (cI, 486, .inl f1_w63))) tb (.inl (cR, 120, .inr (.inr (.inr (.inr (va_up tf (i * 4 + g) (some t_w1)))))))) (congrArg (fun W => gv_up W tb (.inl (cR, 120, .inr (.inr (.inr (.inr (va_up tf (i * 4 + g) (some t_w1)))))))) (congrArg (fun W => gv_up W q_w1 (.inl (cI, 486, .inl f1_w63))) (gv_uc ne18))) ?_
              refine k_view (V1 := gv_up (gv_up (gv_up (gv_up (gv_up (gv_up V av (.inl (cI, 30, .inl vl1_w63))) ky (.inl (cI, 80, .inl kf1_w63))) pl (.inl (cI, 80, .inl pf1_w63))) q_w1 (.inl (cI, 486, .inl f1_w63))) t_w1 (.inr (4, [.ref q_w1, .int (nI n1_w63), .int tl1_w63, .int (nI nt)]))) tb (.inl (cR, 120, .inr (.inr (.inr (.inr (va_up tf (i * 4 + g) (some t_w1)))))))) (congrArg (fun W => gv_up W tb (.inl (cR, 120, .inr (.inr (.inr (.inr (va_up tf (i * 4 + g) (some t_w1)))))))) (gv_uc (Ne.symm htq_w1))) ?_
              exact k_vret C zr zlk ⟨t_w1, q_w1, vl1_w63, kf1_w63, pf1_w63, n1_w63, tl1_w63, f1_w63, rfl, rfl, ht1_w1, hq_w1, htq_w1, ht1_w63⟩ (Nat.le_refl _) (Nat.le_refl _) dX1_refresh_166
            · skip
              rcases SB with _ | B
              · skip
                have ne64 : nq xe tb := gv_ne h_tb h_xe (by simp)
                have ne65 : nq ak tb := gv_ne h_tb h_ak (by simp)
                have ne66 : nq af tb := gv_ne h_tb h_af (by simp)
                have ne67 : nq as tb := gv_ne h_tb h_as (by simp)
                have ne68 : nq ap tb := gv_ne h_tb h_ap (by simp)
                have ne69 : nq av tb := gv_ne h_tb h_av (by simp)
                have ne70 : nq a tb := gv_ne h_tb h_a (by simp)
                have ne71 : nq c tb := gv_ne h_tb h_c (by simp)
                have ne72 : nq b tb := gv_ne h_tb h_b (by simp)
                have ne73 : nq c2 tb := gv_ne h_tb h_c2 (by simp)
                have ne74 : nq ky tb := gv_ne h_tb h_ky (by simp)
                have ne75 : nq pl tb := gv_ne h_tb h_pl (by simp)
                refine k_callV C mv_1_105 (c_overL2  ((gv_up_n ne46).trans ((gv_up_n ne24).trans ((gv_up_n ne2).trans h_mo))) ((gv_up_n ne50).trans ((gv_up_n ne32).trans ((gv_up_n ne10).trans h_no))) ((gv_up_n ne64).trans ((gv_up_n ne33).trans ((gv_up_n ne11).trans h_xe))) ((gv_up_n ne65).trans ((gv_up_n ne34).trans ((gv_up_n ne12).trans h_ak))) ((gv_up_n ne66).trans ((gv_up_n ne35).trans ((gv_up_n ne13).trans h_af))) ((gv_up_n ne67).trans ((gv_up_n ne36).trans ((gv_up_n ne14).trans h_as))) ((gv_up_n ne68).trans ((gv_up_n ne37).trans ((gv_up_n ne15).trans h_ap))) ((gv_up_n ne69).trans ((gv_up_n ne38).trans ((gv_up_n ne16).trans h_av))) ((gv_up_n ne70).trans ((gv_up_n ne42).trans ((gv_up_n ne20).trans h_a))) ((gv_up_n ne71).trans ((gv_up_n ne43).trans ((gv_up_n ne21).trans h_c))) ((gv_up_n ne72).trans ((gv_up_n ne44).trans ((gv_up_n ne22).trans h_b))) ((gv_up_n ne73).trans ((gv_up_n ne45).trans ((gv_up_n ne23).trans h_c2))) ((gv_up_n (Ne.symm ne19)).trans ((gv_up_n htq_w1).trans gv_up_s)) ((gv_up_n (Ne.symm ne41)).trans gv_up_s) ((gv_up_n ne74).trans ((gv_up_n ne39).trans ((gv_up_n ne17).trans h_ky))) ((gv_up_n ne75).trans ((gv_up_n ne40).trans ((gv_up_n ne18).trans h_pl))) (Or.inr hSb) (by first | assumption | omega) (Ne.symm ne20) (Ne.symm ne43) (Ne.symm ne22) (Ne.symm ne45) hky) ((gv_up_n ne46).trans ((gv_up_n ne24).trans ((gv_up_n ne2).trans h_mo))) rfl rfl (by simp [Value.category]) ⟨by decide, by decide⟩ ⟨(by decide), (by decide)⟩ dX1_refresh_163 (fun zv zV zh => ?_)
                obtain ⟨vl1_w76, kf1_w76, pf1_w76, n1_w76, tl1_w76, f1_w76, rfl, rfl, ht1_w76⟩ := zh
                refine k_pc (pc' := 166) (st' := []) rfl rfl ?_
                refine k_view (V1 := gv_up (gv_up (gv_up (gv_up (gv_up (gv_up (gv_up V t_w1 (.inr (4, [.ref q_w1, .int (nI 0), .int (nI 0), .int (nI nt)]))) q_w1 (.inl (cI, 486, .inl f1_w76))) tb (.inl (cR, 120, .inr (.inr (.inr (.inr (va_up tf (i * 4 + g) (some t_w1)))))))) av (.inl (cI, 30, .inl vl1_w76))) ky (.inl (cI, 80, .inl kf1_w76))) pl (.inl (cI, 80, .inl pf1_w76))) t_w1 (.inr (4, [.ref q_w1, .int (nI n1_w76), .int tl1_w76, .int (nI nt)]))) (congrArg (fun W => gv_up W t_w1 (.inr (4, [.ref q_w1, .int (nI n1_w76), .int tl1_w76, .int (nI nt)]))) ((gv_uc (Ne.symm ne40)).trans (congrArg (fun W => gv_up W pl (.inl (cI, 80, .inl pf1_w76))) ((gv_uc (Ne.symm ne39)).trans (congrArg (fun W => gv_up W ky (.inl (cI, 80, .inl kf1_w76))) ((gv_uc (Ne.symm ne38)).trans (congrArg (fun W => gv_up W av (.inl (cI, 30, .inl vl1_w76))) ((gv_uc (Ne.symm ne41)).trans (congrArg (fun W => gv_up W tb (.inl (cR, 120, .inr (.inr (.inr (.inr (va_up tf (i * 4 + g) (some t_w1)))))))) gv_uu))))))))) ?_
                refine k_view (V1 := gv_up (gv_up (gv_up (gv_up (gv_up (gv_up V t_w1 (.inr (4, [.ref q_w1, .int (nI n1_w76), .int tl1_w76, .int (nI nt)]))) q_w1 (.inl (cI, 486, .inl f1_w76))) tb (.inl (cR, 120, .inr (.inr (.inr (.inr (va_up tf (i * 4 + g) (some t_w1)))))))) av (.inl (cI, 30, .inl vl1_w76))) ky (.inl (cI, 80, .inl kf1_w76))) pl (.inl (cI, 80, .inl pf1_w76))) ((gv_uc (Ne.symm ne18)).trans (congrArg (fun W => gv_up W pl (.inl (cI, 80, .inl pf1_w76))) ((gv_uc (Ne.symm ne17)).trans (congrArg (fun W => gv_up W ky (.inl (cI, 80, .inl kf1_w76))) ((gv_uc (Ne.symm ne16)).trans (congrArg (fun W => gv_up W av (.inl (cI, 30, .inl vl1_w76))) ((gv_uc (Ne.symm ne19)).trans (congrArg (fun W => gv_up W tb (.inl (cR, 120, .inr (.inr (.inr (.inr (va_up tf (i * 4 + g) (some t_w1)))))))) ((gv_uc htq_w1).trans (congrArg (fun W => gv_up W q_w1 (.inl (cI, 486, .inl f1_w76))) gv_uu)))))))))) ?_
                refine k_view (V1 := gv_up (gv_up (gv_up (gv_up (gv_up (gv_up V t_w1 (.inr (4, [.ref q_w1, .int (nI n1_w76), .int tl1_w76, .int (nI nt)]))) q_w1 (.inl (cI, 486, .inl f1_w76))) av (.inl (cI, 30, .inl vl1_w76))) tb (.inl (cR, 120, .inr (.inr (.inr (.inr (va_up tf (i * 4 + g) (some t_w1)))))))) ky (.inl (cI, 80, .inl kf1_w76))) pl (.inl (cI, 80, .inl pf1_w76))) (congrArg (fun W => gv_up W pl (.inl (cI, 80, .inl pf1_w76))) (congrArg (fun W => gv_up W ky (.inl (cI, 80, .inl kf1_w76))) (gv_uc ne69))) ?_
                refine k_view (V1 := gv_up (gv_up (gv_up (gv_up (gv_up (gv_up V t_w1 (.inr (4, [.ref q_w1, .int (nI n1_w76), .int tl1_w76, .int (nI nt)]))) av (.inl (cI, 30, .inl vl1_w76))) q_w1 (.inl (cI, 486, .inl f1_w76))) tb (.inl (cR, 120, .inr (.inr (.inr (.inr (va_up tf (i * 4 + g) (some t_w1)))))))) ky (.inl (cI, 80, .inl kf1_w76))) pl (.inl (cI, 80, .inl pf1_w76))) (congrArg (fun W => gv_up W pl (.inl (cI, 80, .inl pf1_w76))) (congrArg (fun W => gv_up W ky (.inl (cI, 80, .inl kf1_w76))) (congrArg (fun W => gv_up W tb (.inl (cR, 120, .inr (.inr (.inr (.inr (va_up tf (i * 4 + g) (some t_w1)))))))) (gv_uc ne38)))) ?_
                refine k_view (V1 := gv_up (gv_up (gv_up (gv_up (gv_up (gv_up V av (.inl (cI, 30, .inl vl1_w76))) t_w1 (.inr (4, [.ref q_w1, .int (nI n1_w76), .int tl1_w76, .int (nI nt)]))) q_w1 (.inl (cI, 486, .inl f1_w76))) tb (.inl (cR, 120, .inr (.inr (.inr (.inr (va_up tf (i * 4 + g) (some t_w1)))))))) ky (.inl (cI, 80, .inl kf1_w76))) pl (.inl (cI, 80, .inl pf1_w76))) (congrArg (fun W => gv_up W pl (.inl (cI, 80, .inl pf1_w76))) (congrArg (fun W => gv_up W ky (.inl (cI, 80, .inl kf1_w76))) (congrArg (fun W => gv_up W tb (.inl (cR, 120, .inr (.inr (.inr (.inr (va_up tf (i * 4 + g) (some t_w1)))))))) (congrArg (fun W => gv_up W q_w1 (.inl (cI, 486, .inl f1_w76))) (gv_uc ne16))))) ?_
                refine k_view (V1 := gv_up (gv_up (gv_up (gv_up (gv_up (gv_up V av (.inl (cI, 30, .inl vl1_w76))) t_w1 (.inr (4, [.ref q_w1, .int (nI n1_w76), .int tl1_w76, .int (nI nt)]))) q_w1 (.inl (cI, 486, .inl f1_w76))) ky (.inl (cI, 80, .inl kf1_w76))) tb (.inl (cR, 120, .inr (.inr (.inr (.inr (va_up tf (i * 4 + g) (some t_w1)))))))) pl (.inl (cI, 80, .inl pf1_w76))) (congrArg (fun W => gv_up W pl (.inl (cI, 80, .inl pf1_w76))) (gv_uc ne74)) ?_
                refine k_view (V1 := gv_up (gv_up (gv_up (gv_up (gv_up (gv_up V av (.inl (cI, 30, .inl vl1_w76))) t_w1 (.inr (4, [.ref q_w1, .int (nI n1_w76), .int tl1_w76, .int (nI nt)]))) ky (.inl (cI, 80, .inl kf1_w76))) q_w1 (.inl (cI, 486, .inl f1_w76))) tb (.inl (cR, 120, .inr (.inr (.inr (.inr (va_up tf (i * 4 + g) (some t_w1)))))))) pl (.inl (cI, 80, .inl pf1_w76))) (congrArg (fun W => gv_up W pl (.inl (cI, 80, .inl pf1_w76))) (congrArg (fun W => gv_up W tb (.inl (cR, 120, .inr (.inr (.inr (.inr (va_up tf (i * 4 + g) (some t_w1)))))))) (gv_uc ne39))) ?_
                refine k_view (V1 := gv_up (gv_up (gv_up (gv_up (gv_up (gv_up V av (.inl (cI, 30, .inl vl1_w76))) ky (.inl (cI, 80, .inl kf1_w76))) t_w1 (.inr (4, [.ref q_w1, .int (nI n1_w76), .int tl1_w76, .int (nI nt)]))) q_w1 (.inl (cI, 486, .inl f1_w76))) tb (.inl (cR, 120, .inr (.inr (.inr (.inr (va_up tf (i * 4 + g) (some t_w1)))))))) pl (.inl (cI, 80, .inl pf1_w76))) (congrArg (fun W => gv_up W pl (.inl (cI, 80, .inl pf1_w76))) (congrArg (fun W => gv_up W tb (.inl (cR, 120, .inr (.inr (.inr (.inr (va_up tf (i * 4 + g) (some t_w1)))))))) (congrArg (fun W => gv_up W q_w1 (.inl (cI, 486, .inl f1_w76))) (gv_uc ne17)))) ?_
                refine k_view (V1 := gv_up (gv_up (gv_up (gv_up (gv_up (gv_up V av (.inl (cI, 30, .inl vl1_w76))) ky (.inl (cI, 80, .inl kf1_w76))) t_w1 (.inr (4, [.ref q_w1, .int (nI n1_w76), .int tl1_w76, .int (nI nt)]))) q_w1 (.inl (cI, 486, .inl f1_w76))) pl (.inl (cI, 80, .inl pf1_w76))) tb (.inl (cR, 120, .inr (.inr (.inr (.inr (va_up tf (i * 4 + g) (some t_w1)))))))) (gv_uc ne75) ?_
                refine k_view (V1 := gv_up (gv_up (gv_up (gv_up (gv_up (gv_up V av (.inl (cI, 30, .inl vl1_w76))) ky (.inl (cI, 80, .inl kf1_w76))) t_w1 (.inr (4, [.ref q_w1, .int (nI n1_w76), .int tl1_w76, .int (nI nt)]))) pl (.inl (cI, 80, .inl pf1_w76))) q_w1 (.inl (cI, 486, .inl f1_w76))) tb (.inl (cR, 120, .inr (.inr (.inr (.inr (va_up tf (i * 4 + g) (some t_w1)))))))) (congrArg (fun W => gv_up W tb (.inl (cR, 120, .inr (.inr (.inr (.inr (va_up tf (i * 4 + g) (some t_w1)))))))) (gv_uc ne40)) ?_
                refine k_view (V1 := gv_up (gv_up (gv_up (gv_up (gv_up (gv_up V av (.inl (cI, 30, .inl vl1_w76))) ky (.inl (cI, 80, .inl kf1_w76))) pl (.inl (cI, 80, .inl pf1_w76))) t_w1 (.inr (4, [.ref q_w1, .int (nI n1_w76), .int tl1_w76, .int (nI nt)]))) q_w1 (.inl (cI, 486, .inl f1_w76))) tb (.inl (cR, 120, .inr (.inr (.inr (.inr (va_up tf (i * 4 + g) (some t_w1)))))))) (congrArg (fun W => gv_up W tb (.inl (cR, 120, .inr (.inr (.inr (.inr (va_up tf (i * 4 + g) (some t_w1)))))))) (congrArg (fun W => gv_up W q_w1 (.inl (cI, 486, .inl f1_w76))) (gv_uc ne18))) ?_
                refine k_view (V1 := gv_up (gv_up (gv_up (gv_up (gv_up (gv_up V av (.inl (cI, 30, .inl vl1_w76))) ky (.inl (cI, 80, .inl kf1_w76))) pl (.inl (cI, 80, .inl pf1_w76))) q_w1 (.inl (cI, 486, .inl f1_w76))) t_w1 (.inr (4, [.ref q_w1, .int (nI n1_w76), .int tl1_w76, .int (nI nt)]))) tb (.inl (cR, 120, .inr (.inr (.inr (.inr (va_up tf (i * 4 + g) (some t_w1)))))))) (congrArg (fun W => gv_up W tb (.inl (cR, 120, .inr (.inr (.inr (.inr (va_up tf (i * 4 + g) (some t_w1)))))))) (gv_uc (Ne.symm htq_w1))) ?_
                exact k_vret C zr zlk ⟨t_w1, q_w1, vl1_w76, kf1_w76, pf1_w76, n1_w76, tl1_w76, f1_w76, rfl, rfl, ht1_w1, hq_w1, htq_w1, ht1_w76⟩ (Nat.le_refl _) (Nat.le_refl _) dX1_refresh_166
              · skip
                have ne77 : nq xe tb := gv_ne h_tb h_xe (by simp)
                have ne78 : nq ak tb := gv_ne h_tb h_ak (by simp)
                have ne79 : nq af tb := gv_ne h_tb h_af (by simp)
                have ne80 : nq as tb := gv_ne h_tb h_as (by simp)
                have ne81 : nq ap tb := gv_ne h_tb h_ap (by simp)
                have ne82 : nq av tb := gv_ne h_tb h_av (by simp)
                have ne83 : nq a tb := gv_ne h_tb h_a (by simp)
                have ne84 : nq c tb := gv_ne h_tb h_c (by simp)
                have ne85 : nq b tb := gv_ne h_tb h_b (by simp)
                have ne86 : nq c2 tb := gv_ne h_tb h_c2 (by simp)
                have ne87 : nq ky tb := gv_ne h_tb h_ky (by simp)
                have ne88 : nq pl tb := gv_ne h_tb h_pl (by simp)
                refine k_callV C mv_1_105 (c_over4N  ((gv_up_n ne46).trans ((gv_up_n ne24).trans ((gv_up_n ne2).trans h_mo))) ((gv_up_n ne50).trans ((gv_up_n ne32).trans ((gv_up_n ne10).trans h_no))) ((gv_up_n ne77).trans ((gv_up_n ne33).trans ((gv_up_n ne11).trans h_xe))) ((gv_up_n ne78).trans ((gv_up_n ne34).trans ((gv_up_n ne12).trans h_ak))) ((gv_up_n ne79).trans ((gv_up_n ne35).trans ((gv_up_n ne13).trans h_af))) ((gv_up_n ne80).trans ((gv_up_n ne36).trans ((gv_up_n ne14).trans h_as))) ((gv_up_n ne81).trans ((gv_up_n ne37).trans ((gv_up_n ne15).trans h_ap))) ((gv_up_n ne82).trans ((gv_up_n ne38).trans ((gv_up_n ne16).trans h_av))) ((gv_up_n ne83).trans ((gv_up_n ne42).trans ((gv_up_n ne20).trans h_a))) ((gv_up_n ne84).trans ((gv_up_n ne43).trans ((gv_up_n ne21).trans h_c))) ((gv_up_n ne85).trans ((gv_up_n ne44).trans ((gv_up_n ne22).trans h_b))) ((gv_up_n ne86).trans ((gv_up_n ne45).trans ((gv_up_n ne23).trans h_c2))) ((gv_up_n (Ne.symm ne19)).trans ((gv_up_n htq_w1).trans gv_up_s)) ((gv_up_n (Ne.symm ne41)).trans gv_up_s) ((gv_up_n ne87).trans ((gv_up_n ne39).trans ((gv_up_n ne17).trans h_ky))) ((gv_up_n ne88).trans ((gv_up_n ne40).trans ((gv_up_n ne18).trans h_pl))) (by first | assumption | omega) (by first | assumption | omega) hSa.2 (Ne.symm ne20) (Ne.symm ne43) hSb.2 (Ne.symm ne22) (Ne.symm ne45) hSa.1 hSb.1 hky) ((gv_up_n ne46).trans ((gv_up_n ne24).trans ((gv_up_n ne2).trans h_mo))) rfl rfl (by simp [Value.category]) ⟨by decide, by decide⟩ ⟨(by decide), (by decide)⟩ dX1_refresh_163 (fun zv zV zh => ?_)
                obtain ⟨vl1_w89, kf1_w89, pf1_w89, n1_w89, tl1_w89, f1_w89, rfl, rfl, ht1_w89⟩ := zh
                refine k_pc (pc' := 166) (st' := []) rfl rfl ?_
                refine k_view (V1 := gv_up (gv_up (gv_up (gv_up (gv_up (gv_up (gv_up V t_w1 (.inr (4, [.ref q_w1, .int (nI 0), .int (nI 0), .int (nI nt)]))) q_w1 (.inl (cI, 486, .inl f1_w89))) tb (.inl (cR, 120, .inr (.inr (.inr (.inr (va_up tf (i * 4 + g) (some t_w1)))))))) av (.inl (cI, 30, .inl vl1_w89))) ky (.inl (cI, 80, .inl kf1_w89))) pl (.inl (cI, 80, .inl pf1_w89))) t_w1 (.inr (4, [.ref q_w1, .int (nI n1_w89), .int tl1_w89, .int (nI nt)]))) (congrArg (fun W => gv_up W t_w1 (.inr (4, [.ref q_w1, .int (nI n1_w89), .int tl1_w89, .int (nI nt)]))) ((gv_uc (Ne.symm ne40)).trans (congrArg (fun W => gv_up W pl (.inl (cI, 80, .inl pf1_w89))) ((gv_uc (Ne.symm ne39)).trans (congrArg (fun W => gv_up W ky (.inl (cI, 80, .inl kf1_w89))) ((gv_uc (Ne.symm ne38)).trans (congrArg (fun W => gv_up W av (.inl (cI, 30, .inl vl1_w89))) ((gv_uc (Ne.symm ne41)).trans (congrArg (fun W => gv_up W tb (.inl (cR, 120, .inr (.inr (.inr (.inr (va_up tf (i * 4 + g) (some t_w1)))))))) gv_uu))))))))) ?_
                refine k_view (V1 := gv_up (gv_up (gv_up (gv_up (gv_up (gv_up V t_w1 (.inr (4, [.ref q_w1, .int (nI n1_w89), .int tl1_w89, .int (nI nt)]))) q_w1 (.inl (cI, 486, .inl f1_w89))) tb (.inl (cR, 120, .inr (.inr (.inr (.inr (va_up tf (i * 4 + g) (some t_w1)))))))) av (.inl (cI, 30, .inl vl1_w89))) ky (.inl (cI, 80, .inl kf1_w89))) pl (.inl (cI, 80, .inl pf1_w89))) ((gv_uc (Ne.symm ne18)).trans (congrArg (fun W => gv_up W pl (.inl (cI, 80, .inl pf1_w89))) ((gv_uc (Ne.symm ne17)).trans (congrArg (fun W => gv_up W ky (.inl (cI, 80, .inl kf1_w89))) ((gv_uc (Ne.symm ne16)).trans (congrArg (fun W => gv_up W av (.inl (cI, 30, .inl vl1_w89))) ((gv_uc (Ne.symm ne19)).trans (congrArg (fun W => gv_up W tb (.inl (cR, 120, .inr (.inr (.inr (.inr (va_up tf (i * 4 + g) (some t_w1)))))))) ((gv_uc htq_w1).trans (congrArg (fun W => gv_up W q_w1 (.inl (cI, 486, .inl f1_w89))) gv_uu)))))))))) ?_
                refine k_view (V1 := gv_up (gv_up (gv_up (gv_up (gv_up (gv_up V t_w1 (.inr (4, [.ref q_w1, .int (nI n1_w89), .int tl1_w89, .int (nI nt)]))) q_w1 (.inl (cI, 486, .inl f1_w89))) av (.inl (cI, 30, .inl vl1_w89))) tb (.inl (cR, 120, .inr (.inr (.inr (.inr (va_up tf (i * 4 + g) (some t_w1)))))))) ky (.inl (cI, 80, .inl kf1_w89))) pl (.inl (cI, 80, .inl pf1_w89))) (congrArg (fun W => gv_up W pl (.inl (cI, 80, .inl pf1_w89))) (congrArg (fun W => gv_up W ky (.inl (cI, 80, .inl kf1_w89))) (gv_uc ne82))) ?_
                refine k_view (V1 := gv_up (gv_up (gv_up (gv_up (gv_up (gv_up V t_w1 (.inr (4, [.ref q_w1, .int (nI n1_w89), .int tl1_w89, .int (nI nt)]))) av (.inl (cI, 30, .inl vl1_w89))) q_w1 (.inl (cI, 486, .inl f1_w89))) tb (.inl (cR, 120, .inr (.inr (.inr (.inr (va_up tf (i * 4 + g) (some t_w1)))))))) ky (.inl (cI, 80, .inl kf1_w89))) pl (.inl (cI, 80, .inl pf1_w89))) (congrArg (fun W => gv_up W pl (.inl (cI, 80, .inl pf1_w89))) (congrArg (fun W => gv_up W ky (.inl (cI, 80, .inl kf1_w89))) (congrArg (fun W => gv_up W tb (.inl (cR, 120, .inr (.inr (.inr (.inr (va_up tf (i * 4 + g) (some t_w1)))))))) (gv_uc ne38)))) ?_
                refine k_view (V1 := gv_up (gv_up (gv_up (gv_up (gv_up (gv_up V av (.inl (cI, 30, .inl vl1_w89))) t_w1 (.inr (4, [.ref q_w1, .int (nI n1_w89), .int tl1_w89, .int (nI nt)]))) q_w1 (.inl (cI, 486, .inl f1_w89))) tb (.inl (cR, 120, .inr (.inr (.inr (.inr (va_up tf (i * 4 + g) (some t_w1)))))))) ky (.inl (cI, 80, .inl kf1_w89))) pl (.inl (cI, 80, .inl pf1_w89))) (congrArg (fun W => gv_up W pl (.inl (cI, 80, .inl pf1_w89))) (congrArg (fun W => gv_up W ky (.inl (cI, 80, .inl kf1_w89))) (congrArg (fun W => gv_up W tb (.inl (cR, 120, .inr (.inr (.inr (.inr (va_up tf (i * 4 + g) (some t_w1)))))))) (congrArg (fun W => gv_up W q_w1 (.inl (cI, 486, .inl f1_w89))) (gv_uc ne16))))) ?_
                refine k_view (V1 := gv_up (gv_up (gv_up (gv_up (gv_up (gv_up V av (.inl (cI, 30, .inl vl1_w89))) t_w1 (.inr (4, [.ref q_w1, .int (nI n1_w89), .int tl1_w89, .int (nI nt)]))) q_w1 (.inl (cI, 486, .inl f1_w89))) ky (.inl (cI, 80, .inl kf1_w89))) tb (.inl (cR, 120, .inr (.inr (.inr (.inr (va_up tf (i * 4 + g) (some t_w1)))))))) pl (.inl (cI, 80, .inl pf1_w89))) (congrArg (fun W => gv_up W pl (.inl (cI, 80, .inl pf1_w89))) (gv_uc ne87)) ?_
                refine k_view (V1 := gv_up (gv_up (gv_up (gv_up (gv_up (gv_up V av (.inl (cI, 30, .inl vl1_w89))) t_w1 (.inr (4, [.ref q_w1, .int (nI n1_w89), .int tl1_w89, .int (nI nt)]))) ky (.inl (cI, 80, .inl kf1_w89))) q_w1 (.inl (cI, 486, .inl f1_w89))) tb (.inl (cR, 120, .inr (.inr (.inr (.inr (va_up tf (i * 4 + g) (some t_w1)))))))) pl (.inl (cI, 80, .inl pf1_w89))) (congrArg (fun W => gv_up W pl (.inl (cI, 80, .inl pf1_w89))) (congrArg (fun W => gv_up W tb (.inl (cR, 120, .inr (.inr (.inr (.inr (va_up tf (i * 4 + g) (some t_w1)))))))) (gv_uc ne39))) ?_
                refine k_view (V1 := gv_up (gv_up (gv_up (gv_up (gv_up (gv_up V av (.inl (cI, 30, .inl vl1_w89))) ky (.inl (cI, 80, .inl kf1_w89))) t_w1 (.inr (4, [.ref q_w1, .int (nI n1_w89), .int tl1_w89, .int (nI nt)]))) q_w1 (.inl (cI, 486, .inl f1_w89))) tb (.inl (cR, 120, .inr (.inr (.inr (.inr (va_up tf (i * 4 + g) (some t_w1)))))))) pl (.inl (cI, 80, .inl pf1_w89))) (congrArg (fun W => gv_up W pl (.inl (cI, 80, .inl pf1_w89))) (congrArg (fun W => gv_up W tb (.inl (cR, 120, .inr (.inr (.inr (.inr (va_up tf (i * 4 + g) (some t_w1)))))))) (congrArg (fun W => gv_up W q_w1 (.inl (cI, 486, .inl f1_w89))) (gv_uc ne17)))) ?_
                refine k_view (V1 := gv_up (gv_up (gv_up (gv_up (gv_up (gv_up V av (.inl (cI, 30, .inl vl1_w89))) ky (.inl (cI, 80, .inl kf1_w89))) t_w1 (.inr (4, [.ref q_w1, .int (nI n1_w89), .int tl1_w89, .int (nI nt)]))) q_w1 (.inl (cI, 486, .inl f1_w89))) pl (.inl (cI, 80, .inl pf1_w89))) tb (.inl (cR, 120, .inr (.inr (.inr (.inr (va_up tf (i * 4 + g) (some t_w1)))))))) (gv_uc ne88) ?_
                refine k_view (V1 := gv_up (gv_up (gv_up (gv_up (gv_up (gv_up V av (.inl (cI, 30, .inl vl1_w89))) ky (.inl (cI, 80, .inl kf1_w89))) t_w1 (.inr (4, [.ref q_w1, .int (nI n1_w89), .int tl1_w89, .int (nI nt)]))) pl (.inl (cI, 80, .inl pf1_w89))) q_w1 (.inl (cI, 486, .inl f1_w89))) tb (.inl (cR, 120, .inr (.inr (.inr (.inr (va_up tf (i * 4 + g) (some t_w1)))))))) (congrArg (fun W => gv_up W tb (.inl (cR, 120, .inr (.inr (.inr (.inr (va_up tf (i * 4 + g) (some t_w1)))))))) (gv_uc ne40)) ?_
                refine k_view (V1 := gv_up (gv_up (gv_up (gv_up (gv_up (gv_up V av (.inl (cI, 30, .inl vl1_w89))) ky (.inl (cI, 80, .inl kf1_w89))) pl (.inl (cI, 80, .inl pf1_w89))) t_w1 (.inr (4, [.ref q_w1, .int (nI n1_w89), .int tl1_w89, .int (nI nt)]))) q_w1 (.inl (cI, 486, .inl f1_w89))) tb (.inl (cR, 120, .inr (.inr (.inr (.inr (va_up tf (i * 4 + g) (some t_w1)))))))) (congrArg (fun W => gv_up W tb (.inl (cR, 120, .inr (.inr (.inr (.inr (va_up tf (i * 4 + g) (some t_w1)))))))) (congrArg (fun W => gv_up W q_w1 (.inl (cI, 486, .inl f1_w89))) (gv_uc ne18))) ?_
                refine k_view (V1 := gv_up (gv_up (gv_up (gv_up (gv_up (gv_up V av (.inl (cI, 30, .inl vl1_w89))) ky (.inl (cI, 80, .inl kf1_w89))) pl (.inl (cI, 80, .inl pf1_w89))) q_w1 (.inl (cI, 486, .inl f1_w89))) t_w1 (.inr (4, [.ref q_w1, .int (nI n1_w89), .int tl1_w89, .int (nI nt)]))) tb (.inl (cR, 120, .inr (.inr (.inr (.inr (va_up tf (i * 4 + g) (some t_w1)))))))) (congrArg (fun W => gv_up W tb (.inl (cR, 120, .inr (.inr (.inr (.inr (va_up tf (i * 4 + g) (some t_w1)))))))) (gv_uc (Ne.symm htq_w1))) ?_
                exact k_vret C zr zlk ⟨t_w1, q_w1, vl1_w89, kf1_w89, pf1_w89, n1_w89, tl1_w89, f1_w89, rfl, rfl, ht1_w1, hq_w1, htq_w1, ht1_w89⟩ (Nat.le_refl _) (Nat.le_refl _) dX1_refresh_166
          · skip
            exact absurd c113 (nI_n1 (by omega))
        · skip
          exact absurd c94 (by decide)
      · skip
        exact absurd c73 (by decide)
    · skip
      exact absurd c54 (by decide)
  · skip
    exact absurd c18.symm (nI_n1 (by omega))
set_option maxHeartbeats 4000000 in
set_option maxRecDepth 100000 in
theorem c_ref4EN {zl : Launch} {D : va_G} {cI cN cR : ClassId} {base : Nat} {V : gv_V} {mo tr nd tb wg ky pl : Nat} {tga tsa tpa tqa nt : Nat} {tg ts tp tq : Nat → Int32} {nl nn : Nat} {nf : Nat → Option Nat} {no : Nat} {ps pp po va st fr ln dn ag gr : Int32} {e : Nat} {xe ak af as ap av ne : Nat} {kd fs sc pt vl : Nat → Int32} {kf pf : Nat → Int32} {tf : Nat → Option Nat} {i g a0 b0 : Nat} {E : Nat → Ex} {a c n : Nat} {tl mk : Int32} {f : Nat → Int32} {SA : Option (List Row)} {b c2 n2 : Nat} {tl2 mk2 : Int32} {g2 : Nat → Int32} {SB : Option (List Row)}  (h_mo : V mo = some (.inr (1, [.ref tr, .ref xe, .ref nd, .ref tb, .ref wg, .ref ky, .ref pl]))) (h_tr : V tr = some (.inr (5, [.ref tga, .ref tsa, .ref tpa, .ref tqa, .int (nI nt)]))) (h_tga : V tga = some (.inl (cI, 60, .inl tg))) (h_tsa : V tsa = some (.inl (cI, 60, .inl ts))) (h_tpa : V tpa = some (.inl (cI, 60, .inl tp))) (h_tqa : V tqa = some (.inl (cI, 60, .inl tq))) (h_nd : V nd = some (.inr (3, [.ref nl, .int (nI nn)]))) (h_nl : V nl = some (.inl (cN, 30, .inr (.inr (.inr (.inr nf)))))) (h_no : V no = some (.inr (2, [.int (nI 4), .int (nI a0), .int (nI b0), .int ps, .int pp, .int po, .int (nI e), .int va, .int st, .int fr, .int ln, .int dn, .int ag, .int gr]))) (h_xe : V xe = some (.inr (0, [.ref ak, .ref af, .ref as, .ref ap, .ref av, .int (nI ne)]))) (h_ak : V ak = some (.inl (cI, 30, .inl kd))) (h_af : V af = some (.inl (cI, 30, .inl fs))) (h_as : V as = some (.inl (cI, 30, .inl sc))) (h_ap : V ap = some (.inl (cI, 30, .inl pt))) (h_av : V av = some (.inl (cI, 30, .inl vl))) (h_ky : V ky = some (.inl (cI, 80, .inl kf))) (h_pl : V pl = some (.inl (cI, 80, .inl pf))) (h_tb : V tb = some (.inl (cR, 120, .inr (.inr (.inr (.inr tf)))))) (h_a : V a = some (.inr (4, [.ref c, .int (nI n), .int tl, .int mk]))) (h_c : V c = some (.inl (cI, 486, .inl f))) (h_b : V b = some (.inr (4, [.ref c2, .int (nI n2), .int tl2, .int mk2]))) (h_c2 : V c2 = some (.inl (cI, 486, .inl g2))) (hX : ExR E ne kd fs sc pt) (hd : [ak, af, as, ap, av].Nodup) (hi : i < 30) (hg : g < 4) (hnf : nf i = some no) (hky : nq ky pl) (hnt : nt ≤ 60) (ht : tf (i * 4 + g) = none) (ha0 : a0 < i) (hta : tf (a0 * 4 + g) = some a) (hSa : TRep SA n tl f) (hb0 : b0 < i) (htb : tf (b0 * 4 + g) = some b) (hSb : TRep SB n2 tl2 g2) (he : e < ne) : ct zl D [(cI, .int), (cN, .object "AlgebraTree$Node"), (cR, .object "AlgebraTree$Rows")] base yX1_refresh cX1_refresh 6 none 5 2 490 [.ref mo, .int (nI i), .int (nI g)] V (fun zv zV => ∃ t : Nat, ∃ q : Nat, ∃ vl1 : Nat → Int32, ∃ kf1 : Nat → Int32, ∃ pf1 : Nat → Int32, ∃ n1 : Nat, ∃ tl1 : Int32, ∃ f1 : Nat → Int32, zv = none ∧ zV = gv_up (gv_up (gv_up (gv_up (gv_up (gv_up V av (.inl (cI, 30, .inl vl1))) ky (.inl (cI, 80, .inl kf1))) pl (.inl (cI, 80, .inl pf1))) q (.inl (cI, 486, .inl f1))) t (.inr (4, [.ref q, .int (nI n1), .int tl1, .int (nI nt)]))) tb (.inl (cR, 120, .inr (.inr (.inr (.inr (va_up tf (i * 4 + g) (some t))))))) ∧ (V t = none) ∧ (V q = none) ∧ (nq t q) ∧ (TRep (SA.bind (fun A => SB.bind (fun B => cap (leftL (fun x => isT (ev E x e)) A B)))) n1 tl1 f1)) := by
  refine ct_of "AlgebraTree$Maker" rfl (by decide) (Nat.le_of_ble_eq_true rfl) ?_
  intro zp ze zs zm zargs zbelow zmeth zc C zr zlk znm
  refine k_pc (pc' := 0) (st' := []) rfl rfl ?_
  show K zp zl ze (gv_rm 5 2 490) zs zm zargs zbelow zmeth zc D base 6 (gv_E D [(cI, .int), (cN, .object "AlgebraTree$Node"), (cR, .object "AlgebraTree$Rows")] base zbelow zargs zs 2 490 (fun zv zV => ∃ t : Nat, ∃ q : Nat, ∃ vl1 : Nat → Int32, ∃ kf1 : Nat → Int32, ∃ pf1 : Nat → Int32, ∃ n1 : Nat, ∃ tl1 : Int32, ∃ f1 : Nat → Int32, zv = none ∧ zV = gv_up (gv_up (gv_up (gv_up (gv_up (gv_up V av (.inl (cI, 30, .inl vl1))) ky (.inl (cI, 80, .inl kf1))) pl (.inl (cI, 80, .inl pf1))) q (.inl (cI, 486, .inl f1))) t (.inr (4, [.ref q, .int (nI n1), .int tl1, .int (nI nt)]))) tb (.inl (cR, 120, .inr (.inr (.inr (.inr (va_up tf (i * 4 + g) (some t))))))) ∧ (V t = none) ∧ (V q = none) ∧ (nq t q) ∧ (TRep (SA.bind (fun A => SB.bind (fun B => cap (leftL (fun x => isT (ev E x e)) A B)))) n1 tl1 f1))) V 0 0 [(0, .ref mo), (1, .int (nI i)), (2, .int (nI g))] 0 []
  refine k_aload_n C dX1_refresh_0 rfl 0 rfl ?_
  refine k_iload_n C dX1_refresh_1 rfl 1 rfl ?_
  refine k_iload_n C dX1_refresh_2 rfl 2 rfl ?_
  refine k_callV C mv_1_56 (c_tableOfN  h_mo h_tb (by first | assumption | omega) (by first | assumption | omega) (by first | assumption | omega)) h_mo rfl rfl (by simp [Value.category]) ⟨by decide, by decide⟩ ⟨(by decide), (by decide)⟩ dX1_refresh_3 (fun zv zV zh => ?_)
  obtain ⟨t_w1, q_w1, rfl, rfl, ht1_w1, hq_w1, htq_w1⟩ := zh
  refine k_pc (pc' := 6) (st' := .ref t_w1 :: []) rfl rfl ?_
  have ne2 : nq mo t_w1 := gv_nf ht1_w1 h_mo
  have ne3 : nq tr t_w1 := gv_nf ht1_w1 h_tr
  have ne4 : nq tga t_w1 := gv_nf ht1_w1 h_tga
  have ne5 : nq tsa t_w1 := gv_nf ht1_w1 h_tsa
  have ne6 : nq tpa t_w1 := gv_nf ht1_w1 h_tpa
  have ne7 : nq tqa t_w1 := gv_nf ht1_w1 h_tqa
  have ne8 : nq nd t_w1 := gv_nf ht1_w1 h_nd
  have ne9 : nq nl t_w1 := gv_nf ht1_w1 h_nl
  have ne10 : nq no t_w1 := gv_nf ht1_w1 h_no
  have ne11 : nq xe t_w1 := gv_nf ht1_w1 h_xe
  have ne12 : nq ak t_w1 := gv_nf ht1_w1 h_ak
  have ne13 : nq af t_w1 := gv_nf ht1_w1 h_af
  have ne14 : nq as t_w1 := gv_nf ht1_w1 h_as
  have ne15 : nq ap t_w1 := gv_nf ht1_w1 h_ap
  have ne16 : nq av t_w1 := gv_nf ht1_w1 h_av
  have ne17 : nq ky t_w1 := gv_nf ht1_w1 h_ky
  have ne18 : nq pl t_w1 := gv_nf ht1_w1 h_pl
  have ne19 : nq tb t_w1 := gv_nf ht1_w1 h_tb
  have ne20 : nq a t_w1 := gv_nf ht1_w1 h_a
  have ne21 : nq c t_w1 := gv_nf ht1_w1 h_c
  have ne22 : nq b t_w1 := gv_nf ht1_w1 h_b
  have ne23 : nq c2 t_w1 := gv_nf ht1_w1 h_c2
  have ne24 : nq mo q_w1 := gv_nf hq_w1 h_mo
  have ne25 : nq tr q_w1 := gv_nf hq_w1 h_tr
  have ne26 : nq tga q_w1 := gv_nf hq_w1 h_tga
  have ne27 : nq tsa q_w1 := gv_nf hq_w1 h_tsa
  have ne28 : nq tpa q_w1 := gv_nf hq_w1 h_tpa
  have ne29 : nq tqa q_w1 := gv_nf hq_w1 h_tqa
  have ne30 : nq nd q_w1 := gv_nf hq_w1 h_nd
  have ne31 : nq nl q_w1 := gv_nf hq_w1 h_nl
  have ne32 : nq no q_w1 := gv_nf hq_w1 h_no
  have ne33 : nq xe q_w1 := gv_nf hq_w1 h_xe
  have ne34 : nq ak q_w1 := gv_nf hq_w1 h_ak
  have ne35 : nq af q_w1 := gv_nf hq_w1 h_af
  have ne36 : nq as q_w1 := gv_nf hq_w1 h_as
  have ne37 : nq ap q_w1 := gv_nf hq_w1 h_ap
  have ne38 : nq av q_w1 := gv_nf hq_w1 h_av
  have ne39 : nq ky q_w1 := gv_nf hq_w1 h_ky
  have ne40 : nq pl q_w1 := gv_nf hq_w1 h_pl
  have ne41 : nq tb q_w1 := gv_nf hq_w1 h_tb
  have ne42 : nq a q_w1 := gv_nf hq_w1 h_a
  have ne43 : nq c q_w1 := gv_nf hq_w1 h_c
  have ne44 : nq b q_w1 := gv_nf hq_w1 h_b
  have ne45 : nq c2 q_w1 := gv_nf hq_w1 h_c2
  refine k_astore_n (lv' := [(3, .ref t_w1), (0, .ref mo), (1, .int (nI i)), (2, .int (nI g))]) C dX1_refresh_6 rfl (by decide) rfl ?_
  refine k_aload_n C dX1_refresh_7 rfl 0 rfl ?_
  refine k_get (ci := 4) (k := 3) C fl_1_84 ((gv_up_n (Ne.symm ne19)).trans ((gv_up_n htq_w1).trans gv_up_s)) rfl dX1_refresh_8 ?_
  refine k_aload_n C dX1_refresh_11 rfl 1 rfl ?_
  have ne46 : nq mo tb := gv_ne h_tb h_mo (by simp)
  refine k_get (ci := 1) (k := 0) C fl_1_12 ((gv_up_n ne46).trans ((gv_up_n ne24).trans ((gv_up_n ne2).trans h_mo))) rfl dX1_refresh_12 ?_
  have ne47 : nq tr tb := gv_ne h_tb h_tr (by simp)
  refine k_get (ci := 5) (k := 4) C fl_1_87 ((gv_up_n ne47).trans ((gv_up_n ne25).trans ((gv_up_n ne3).trans h_tr))) rfl dX1_refresh_15 ?_
  refine k_icmp_ne (tgt := 22) C dX1_refresh_18 (by decide) (fun c18 => ?_) (fun c18 => ?_)
  · skip
    refine k_aload_n C dX1_refresh_22 rfl 0 rfl ?_
    refine k_callV_pv C mv_1_90 (c_X4_clear  ((gv_up_n (Ne.symm ne19)).trans ((gv_up_n htq_w1).trans gv_up_s)) ((gv_up_n (Ne.symm ne41)).trans gv_up_s) ) ((gv_up_n (Ne.symm ne19)).trans ((gv_up_n htq_w1).trans gv_up_s)) rfl rfl (by simp [Value.category]) ⟨by decide, by decide⟩ ⟨(by decide), (by decide)⟩ dX1_refresh_23 ?_
    refine k_view (V1 := gv_up (gv_up (gv_up V t_w1 (.inr (4, [.ref q_w1, .int (nI 0), .int (nI 0), .int (-1 : Int32)]))) q_w1 (.inl (cI, 486, .inl (fun _ => 0)))) tb (.inl (cR, 120, .inr (.inr (.inr (.inr (va_up tf (i * 4 + g) (some t_w1)))))))) ((gv_uc (Ne.symm ne19)).trans (congrArg (fun W => gv_up W tb (.inl (cR, 120, .inr (.inr (.inr (.inr (va_up tf (i * 4 + g) (some t_w1)))))))) ((gv_uc htq_w1).trans (congrArg (fun W => gv_up W q_w1 (.inl (cI, 486, .inl (fun _ => 0)))) gv_uu)))) ?_
    refine k_aload_n C dX1_refresh_26 rfl 0 rfl ?_
    refine k_aload_n C dX1_refresh_27 rfl 1 rfl ?_
    refine k_get (ci := 1) (k := 0) C fl_1_12 ((gv_up_n ne46).trans ((gv_up_n ne24).trans ((gv_up_n ne2).trans h_mo))) rfl dX1_refresh_28 ?_
    refine k_get (ci := 5) (k := 4) C fl_1_87 ((gv_up_n ne47).trans ((gv_up_n ne25).trans ((gv_up_n ne3).trans h_tr))) rfl dX1_refresh_31 ?_
    refine k_put (ci := 4) (k := 3) (fs' := [.ref q_w1, .int (nI 0), .int (nI 0), .int (nI nt)]) C fl_1_84 pf_4_3 ((gv_up_n (Ne.symm ne19)).trans ((gv_up_n htq_w1).trans gv_up_s)) rfl rfl (Nat.le_of_ble_eq_true rfl) rfl dX1_refresh_34 ?_
    refine k_view (V1 := gv_up (gv_up (gv_up V t_w1 (.inr (4, [.ref q_w1, .int (nI 0), .int (nI 0), .int (nI nt)]))) q_w1 (.inl (cI, 486, .inl (fun _ => 0)))) tb (.inl (cR, 120, .inr (.inr (.inr (.inr (va_up tf (i * 4 + g) (some t_w1)))))))) ((gv_uc (Ne.symm ne19)).trans (congrArg (fun W => gv_up W tb (.inl (cR, 120, .inr (.inr (.inr (.inr (va_up tf (i * 4 + g) (some t_w1)))))))) ((gv_uc htq_w1).trans (congrArg (fun W => gv_up W q_w1 (.inl (cI, 486, .inl (fun _ => 0)))) gv_uu)))) ?_
    refine k_aload_n C dX1_refresh_37 rfl 1 rfl ?_
    refine k_get (ci := 1) (k := 2) C fl_1_28 ((gv_up_n ne46).trans ((gv_up_n ne24).trans ((gv_up_n ne2).trans h_mo))) rfl dX1_refresh_38 ?_
    refine k_iload_n C dX1_refresh_41 rfl 2 rfl ?_
    have ne48 : nq nd tb := gv_ne h_tb h_nd (by simp)
    have ne49 : nq nl tb := gv_ne h_tb h_nl (by simp)
    refine k_callV_pr C mv_1_60 (c_X3_at  ((gv_up_n ne48).trans ((gv_up_n ne30).trans ((gv_up_n ne8).trans h_nd))) ((gv_up_n ne49).trans ((gv_up_n ne31).trans ((gv_up_n ne9).trans h_nl))) (by first | assumption | omega) hnf) ((gv_up_n ne48).trans ((gv_up_n ne30).trans ((gv_up_n ne8).trans h_nd))) rfl rfl (by simp [Value.category]) ⟨by decide, by decide⟩ ⟨(by decide), (by decide)⟩ dX1_refresh_42 ?_
    refine k_astore (lv' := [(4, .ref no), (3, .ref t_w1), (0, .ref mo), (1, .int (nI i)), (2, .int (nI g))]) C dX1_refresh_45 (by decide) rfl ?_
    refine k_aload C dX1_refresh_47 0 rfl ?_
    have ne50 : nq no tb := gv_ne h_tb h_no (by simp)
    refine k_get (ci := 2) (k := 0) C fl_1_77 ((gv_up_n ne50).trans ((gv_up_n ne32).trans ((gv_up_n ne10).trans h_no))) rfl dX1_refresh_49 ?_
    refine k_bipush (v := nI 12) C dX1_refresh_52 rfl ?_
    refine k_icmp_ne (tgt := 65) C dX1_refresh_54 (by decide) (fun c54 => ?_) (fun c54 => ?_)
    · skip
      have b54 : ¬ 4 = 12 := fun z => c54 ((nI_eq (a := 4) (b := 12) (by omega) (by omega)).mpr z)
      refine k_iload_n C dX1_refresh_65 rfl 4 rfl ?_
      refine k_istore (lv' := [(5, .int (nI g)), (4, .ref no), (3, .ref t_w1), (0, .ref mo), (1, .int (nI i)), (2, .int (nI g))]) C dX1_refresh_66 (by decide) rfl ?_
      refine k_aload C dX1_refresh_68 1 rfl ?_
      refine k_get (ci := 2) (k := 0) C fl_1_77 ((gv_up_n ne50).trans ((gv_up_n ne32).trans ((gv_up_n ne10).trans h_no))) rfl dX1_refresh_70 ?_
      refine k_if_ne (tgt := 87) C dX1_refresh_73 (by decide) (fun c73 => ?_) (fun c73 => ?_)
      · skip
        have b73 : ¬ 4 = 0 := fun z => c73 ((nI_eq (a := 4) (b := 0) (by omega) (by omega)).mpr z)
        refine k_aload C dX1_refresh_87 1 rfl ?_
        refine k_get (ci := 2) (k := 0) C fl_1_77 ((gv_up_n ne50).trans ((gv_up_n ne32).trans ((gv_up_n ne10).trans h_no))) rfl dX1_refresh_89 ?_
        refine k_bipush (v := nI 13) C dX1_refresh_92 rfl ?_
        refine k_icmp_ne (tgt := 107) C dX1_refresh_94 (by decide) (fun c94 => ?_) (fun c94 => ?_)
        · skip
          have b94 : ¬ 4 = 13 := fun z => c94 ((nI_eq (a := 4) (b := 13) (by omega) (by omega)).mpr z)
          refine k_aload C dX1_refresh_107 1 rfl ?_
          refine k_get (ci := 2) (k := 2) C fl_1_74 ((gv_up_n ne50).trans ((gv_up_n ne32).trans ((gv_up_n ne10).trans h_no))) rfl dX1_refresh_109 ?_
          refine k_iconst (v := (-1 : Int32)) C dX1_refresh_112 (by decide) ?_
          refine k_icmp_ne (tgt := 137) C dX1_refresh_113 (by decide) (fun c113 => ?_) (fun c113 => ?_)
          · skip
            refine k_aload_n C dX1_refresh_137 rfl 3 rfl ?_
            refine k_aload C dX1_refresh_138 1 rfl ?_
            refine k_aload_n C dX1_refresh_140 rfl 3 rfl ?_
            refine k_aload C dX1_refresh_141 1 rfl ?_
            refine k_get (ci := 2) (k := 1) C fl_1_68 ((gv_up_n ne50).trans ((gv_up_n ne32).trans ((gv_up_n ne10).trans h_no))) rfl dX1_refresh_143 ?_
            refine k_iload C dX1_refresh_146 0 rfl ?_
            refine k_callV_pr C mv_1_56 (c_tableOf  ((gv_up_n ne46).trans ((gv_up_n ne24).trans ((gv_up_n ne2).trans h_mo))) gv_up_s (by first | assumption | omega) (by first | assumption | omega) (by simp only [va_up]; rw [if_neg (by omega)]; exact hta)) ((gv_up_n ne46).trans ((gv_up_n ne24).trans ((gv_up_n ne2).trans h_mo))) rfl rfl (by simp [Value.category]) ⟨by decide, by decide⟩ ⟨(by decide), (by decide)⟩ dX1_refresh_148 ?_
            refine k_aload_n C dX1_refresh_151 rfl 3 rfl ?_
            refine k_aload C dX1_refresh_152 1 rfl ?_
            refine k_get (ci := 2) (k := 2) C fl_1_74 ((gv_up_n ne50).trans ((gv_up_n ne32).trans ((gv_up_n ne10).trans h_no))) rfl dX1_refresh_154 ?_
            refine k_iload C dX1_refresh_157 0 rfl ?_
            refine k_callV_pr C mv_1_56 (c_tableOf  ((gv_up_n ne46).trans ((gv_up_n ne24).trans ((gv_up_n ne2).trans h_mo))) gv_up_s (by first | assumption | omega) (by first | assumption | omega) (by simp only [va_up]; rw [if_neg (by omega)]; exact htb)) ((gv_up_n ne46).trans ((gv_up_n ne24).trans ((gv_up_n ne2).trans h_mo))) rfl rfl (by simp [Value.category]) ⟨by decide, by decide⟩ ⟨(by decide), (by decide)⟩ dX1_refresh_159 ?_
            refine k_aload_n C dX1_refresh_162 rfl 2 rfl ?_
            rcases SA with _ | A
            · skip
              have ne51 : nq xe tb := gv_ne h_tb h_xe (by simp)
              have ne52 : nq ak tb := gv_ne h_tb h_ak (by simp)
              have ne53 : nq af tb := gv_ne h_tb h_af (by simp)
              have ne54 : nq as tb := gv_ne h_tb h_as (by simp)
              have ne55 : nq ap tb := gv_ne h_tb h_ap (by simp)
              have ne56 : nq av tb := gv_ne h_tb h_av (by simp)
              have ne57 : nq a tb := gv_ne h_tb h_a (by simp)
              have ne58 : nq c tb := gv_ne h_tb h_c (by simp)
              have ne59 : nq b tb := gv_ne h_tb h_b (by simp)
              have ne60 : nq c2 tb := gv_ne h_tb h_c2 (by simp)
              have ne61 : nq ky tb := gv_ne h_tb h_ky (by simp)
              have ne62 : nq pl tb := gv_ne h_tb h_pl (by simp)
              refine k_callV C mv_1_105 (c_overL2  ((gv_up_n ne46).trans ((gv_up_n ne24).trans ((gv_up_n ne2).trans h_mo))) ((gv_up_n ne50).trans ((gv_up_n ne32).trans ((gv_up_n ne10).trans h_no))) ((gv_up_n ne51).trans ((gv_up_n ne33).trans ((gv_up_n ne11).trans h_xe))) ((gv_up_n ne52).trans ((gv_up_n ne34).trans ((gv_up_n ne12).trans h_ak))) ((gv_up_n ne53).trans ((gv_up_n ne35).trans ((gv_up_n ne13).trans h_af))) ((gv_up_n ne54).trans ((gv_up_n ne36).trans ((gv_up_n ne14).trans h_as))) ((gv_up_n ne55).trans ((gv_up_n ne37).trans ((gv_up_n ne15).trans h_ap))) ((gv_up_n ne56).trans ((gv_up_n ne38).trans ((gv_up_n ne16).trans h_av))) ((gv_up_n ne57).trans ((gv_up_n ne42).trans ((gv_up_n ne20).trans h_a))) ((gv_up_n ne58).trans ((gv_up_n ne43).trans ((gv_up_n ne21).trans h_c))) ((gv_up_n ne59).trans ((gv_up_n ne44).trans ((gv_up_n ne22).trans h_b))) ((gv_up_n ne60).trans ((gv_up_n ne45).trans ((gv_up_n ne23).trans h_c2))) ((gv_up_n (Ne.symm ne19)).trans ((gv_up_n htq_w1).trans gv_up_s)) ((gv_up_n (Ne.symm ne41)).trans gv_up_s) ((gv_up_n ne61).trans ((gv_up_n ne39).trans ((gv_up_n ne17).trans h_ky))) ((gv_up_n ne62).trans ((gv_up_n ne40).trans ((gv_up_n ne18).trans h_pl))) (Or.inl hSa) (by first | assumption | omega) (Ne.symm ne20) (Ne.symm ne43) (Ne.symm ne22) (Ne.symm ne45) hky) ((gv_up_n ne46).trans ((gv_up_n ne24).trans ((gv_up_n ne2).trans h_mo))) rfl rfl (by simp [Value.category]) ⟨by decide, by decide⟩ ⟨(by decide), (by decide)⟩ dX1_refresh_163 (fun zv zV zh => ?_)
              obtain ⟨vl1_w63, kf1_w63, pf1_w63, n1_w63, tl1_w63, f1_w63, rfl, rfl, ht1_w63⟩ := zh
              refine k_pc (pc' := 166) (st' := []) rfl rfl ?_
              refine k_view (V1 := gv_up (gv_up (gv_up (gv_up (gv_up (gv_up (gv_up V t_w1 (.inr (4, [.ref q_w1, .int (nI 0), .int (nI 0), .int (nI nt)]))) q_w1 (.inl (cI, 486, .inl f1_w63))) tb (.inl (cR, 120, .inr (.inr (.inr (.inr (va_up tf (i * 4 + g) (some t_w1)))))))) av (.inl (cI, 30, .inl vl1_w63))) ky (.inl (cI, 80, .inl kf1_w63))) pl (.inl (cI, 80, .inl pf1_w63))) t_w1 (.inr (4, [.ref q_w1, .int (nI n1_w63), .int tl1_w63, .int (nI nt)]))) (congrArg (fun W => gv_up W t_w1 (.inr (4, [.ref q_w1, .int (nI n1_w63), .int tl1_w63, .int (nI nt)]))) ((gv_uc (Ne.symm ne40)).trans (congrArg (fun W => gv_up W pl (.inl (cI, 80, .inl pf1_w63))) ((gv_uc (Ne.symm ne39)).trans (congrArg (fun W => gv_up W ky (.inl (cI, 80, .inl kf1_w63))) ((gv_uc (Ne.symm ne38)).trans (congrArg (fun W => gv_up W av (.inl (cI, 30, .inl vl1_w63))) ((gv_uc (Ne.symm ne41)).trans (congrArg (fun W => gv_up W tb (.inl (cR, 120, .inr (.inr (.inr (.inr (va_up tf (i * 4 + g) (some t_w1)))))))) gv_uu))))))))) ?_
              refine k_view (V1 := gv_up (gv_up (gv_up (gv_up (gv_up (gv_up V t_w1 (.inr (4, [.ref q_w1, .int (nI n1_w63), .int tl1_w63, .int (nI nt)]))) q_w1 (.inl (cI, 486, .inl f1_w63))) tb (.inl (cR, 120, .inr (.inr (.inr (.inr (va_up tf (i * 4 + g) (some t_w1)))))))) av (.inl (cI, 30, .inl vl1_w63))) ky (.inl (cI, 80, .inl kf1_w63))) pl (.inl (cI, 80, .inl pf1_w63))) ((gv_uc (Ne.symm ne18)).trans (congrArg (fun W => gv_up W pl (.inl (cI, 80, .inl pf1_w63))) ((gv_uc (Ne.symm ne17)).trans (congrArg (fun W => gv_up W ky (.inl (cI, 80, .inl kf1_w63))) ((gv_uc (Ne.symm ne16)).trans (congrArg (fun W => gv_up W av (.inl (cI, 30, .inl vl1_w63))) ((gv_uc (Ne.symm ne19)).trans (congrArg (fun W => gv_up W tb (.inl (cR, 120, .inr (.inr (.inr (.inr (va_up tf (i * 4 + g) (some t_w1)))))))) ((gv_uc htq_w1).trans (congrArg (fun W => gv_up W q_w1 (.inl (cI, 486, .inl f1_w63))) gv_uu)))))))))) ?_
              refine k_view (V1 := gv_up (gv_up (gv_up (gv_up (gv_up (gv_up V t_w1 (.inr (4, [.ref q_w1, .int (nI n1_w63), .int tl1_w63, .int (nI nt)]))) q_w1 (.inl (cI, 486, .inl f1_w63))) av (.inl (cI, 30, .inl vl1_w63))) tb (.inl (cR, 120, .inr (.inr (.inr (.inr (va_up tf (i * 4 + g) (some t_w1)))))))) ky (.inl (cI, 80, .inl kf1_w63))) pl (.inl (cI, 80, .inl pf1_w63))) (congrArg (fun W => gv_up W pl (.inl (cI, 80, .inl pf1_w63))) (congrArg (fun W => gv_up W ky (.inl (cI, 80, .inl kf1_w63))) (gv_uc ne56))) ?_
              refine k_view (V1 := gv_up (gv_up (gv_up (gv_up (gv_up (gv_up V t_w1 (.inr (4, [.ref q_w1, .int (nI n1_w63), .int tl1_w63, .int (nI nt)]))) av (.inl (cI, 30, .inl vl1_w63))) q_w1 (.inl (cI, 486, .inl f1_w63))) tb (.inl (cR, 120, .inr (.inr (.inr (.inr (va_up tf (i * 4 + g) (some t_w1)))))))) ky (.inl (cI, 80, .inl kf1_w63))) pl (.inl (cI, 80, .inl pf1_w63))) (congrArg (fun W => gv_up W pl (.inl (cI, 80, .inl pf1_w63))) (congrArg (fun W => gv_up W ky (.inl (cI, 80, .inl kf1_w63))) (congrArg (fun W => gv_up W tb (.inl (cR, 120, .inr (.inr (.inr (.inr (va_up tf (i * 4 + g) (some t_w1)))))))) (gv_uc ne38)))) ?_
              refine k_view (V1 := gv_up (gv_up (gv_up (gv_up (gv_up (gv_up V av (.inl (cI, 30, .inl vl1_w63))) t_w1 (.inr (4, [.ref q_w1, .int (nI n1_w63), .int tl1_w63, .int (nI nt)]))) q_w1 (.inl (cI, 486, .inl f1_w63))) tb (.inl (cR, 120, .inr (.inr (.inr (.inr (va_up tf (i * 4 + g) (some t_w1)))))))) ky (.inl (cI, 80, .inl kf1_w63))) pl (.inl (cI, 80, .inl pf1_w63))) (congrArg (fun W => gv_up W pl (.inl (cI, 80, .inl pf1_w63))) (congrArg (fun W => gv_up W ky (.inl (cI, 80, .inl kf1_w63))) (congrArg (fun W => gv_up W tb (.inl (cR, 120, .inr (.inr (.inr (.inr (va_up tf (i * 4 + g) (some t_w1)))))))) (congrArg (fun W => gv_up W q_w1 (.inl (cI, 486, .inl f1_w63))) (gv_uc ne16))))) ?_
              refine k_view (V1 := gv_up (gv_up (gv_up (gv_up (gv_up (gv_up V av (.inl (cI, 30, .inl vl1_w63))) t_w1 (.inr (4, [.ref q_w1, .int (nI n1_w63), .int tl1_w63, .int (nI nt)]))) q_w1 (.inl (cI, 486, .inl f1_w63))) ky (.inl (cI, 80, .inl kf1_w63))) tb (.inl (cR, 120, .inr (.inr (.inr (.inr (va_up tf (i * 4 + g) (some t_w1)))))))) pl (.inl (cI, 80, .inl pf1_w63))) (congrArg (fun W => gv_up W pl (.inl (cI, 80, .inl pf1_w63))) (gv_uc ne61)) ?_
              refine k_view (V1 := gv_up (gv_up (gv_up (gv_up (gv_up (gv_up V av (.inl (cI, 30, .inl vl1_w63))) t_w1 (.inr (4, [.ref q_w1, .int (nI n1_w63), .int tl1_w63, .int (nI nt)]))) ky (.inl (cI, 80, .inl kf1_w63))) q_w1 (.inl (cI, 486, .inl f1_w63))) tb (.inl (cR, 120, .inr (.inr (.inr (.inr (va_up tf (i * 4 + g) (some t_w1)))))))) pl (.inl (cI, 80, .inl pf1_w63))) (congrArg (fun W => gv_up W pl (.inl (cI, 80, .inl pf1_w63))) (congrArg (fun W => gv_up W tb (.inl (cR, 120, .inr (.inr (.inr (.inr (va_up tf (i * 4 + g) (some t_w1)))))))) (gv_uc ne39))) ?_
              refine k_view (V1 := gv_up (gv_up (gv_up (gv_up (gv_up (gv_up V av (.inl (cI, 30, .inl vl1_w63))) ky (.inl (cI, 80, .inl kf1_w63))) t_w1 (.inr (4, [.ref q_w1, .int (nI n1_w63), .int tl1_w63, .int (nI nt)]))) q_w1 (.inl (cI, 486, .inl f1_w63))) tb (.inl (cR, 120, .inr (.inr (.inr (.inr (va_up tf (i * 4 + g) (some t_w1)))))))) pl (.inl (cI, 80, .inl pf1_w63))) (congrArg (fun W => gv_up W pl (.inl (cI, 80, .inl pf1_w63))) (congrArg (fun W => gv_up W tb (.inl (cR, 120, .inr (.inr (.inr (.inr (va_up tf (i * 4 + g) (some t_w1)))))))) (congrArg (fun W => gv_up W q_w1 (.inl (cI, 486, .inl f1_w63))) (gv_uc ne17)))) ?_
              refine k_view (V1 := gv_up (gv_up (gv_up (gv_up (gv_up (gv_up V av (.inl (cI, 30, .inl vl1_w63))) ky (.inl (cI, 80, .inl kf1_w63))) t_w1 (.inr (4, [.ref q_w1, .int (nI n1_w63), .int tl1_w63, .int (nI nt)]))) q_w1 (.inl (cI, 486, .inl f1_w63))) pl (.inl (cI, 80, .inl pf1_w63))) tb (.inl (cR, 120, .inr (.inr (.inr (.inr (va_up tf (i * 4 + g) (some t_w1)))))))) (gv_uc ne62) ?_
              refine k_view (V1 := gv_up (gv_up (gv_up (gv_up (gv_up (gv_up V av (.inl (cI, 30, .inl vl1_w63))) ky (.inl (cI, 80, .inl kf1_w63))) t_w1 (.inr (4, [.ref q_w1, .int (nI n1_w63), .int tl1_w63, .int (nI nt)]))) pl (.inl (cI, 80, .inl pf1_w63))) q_w1 (.inl (cI, 486, .inl f1_w63))) tb (.inl (cR, 120, .inr (.inr (.inr (.inr (va_up tf (i * 4 + g) (some t_w1)))))))) (congrArg (fun W => gv_up W tb (.inl (cR, 120, .inr (.inr (.inr (.inr (va_up tf (i * 4 + g) (some t_w1)))))))) (gv_uc ne40)) ?_
              refine k_view (V1 := gv_up (gv_up (gv_up (gv_up (gv_up (gv_up V av (.inl (cI, 30, .inl vl1_w63))) ky (.inl (cI, 80, .inl kf1_w63))) pl (.inl (cI, 80, .inl pf1_w63))) t_w1 (.inr (4, [.ref q_w1, .int (nI n1_w63), .int tl1_w63, .int (nI nt)]))) q_w1 (.inl (cI, 486, .inl f1_w63))) tb (.inl (cR, 120, .inr (.inr (.inr (.inr (va_up tf (i * 4 + g) (some t_w1)))))))) (congrArg (fun W => gv_up W tb (.inl (cR, 120, .inr (.inr (.inr (.inr (va_up tf (i * 4 + g) (some t_w1)))))))) (congrArg (fun W => gv_up W q_w1 (.inl (cI, 486, .inl f1_w63))) (gv_uc ne18))) ?_
              refine k_view (V1 := gv_up (gv_up (gv_up (gv_up (gv_up (gv_up V av (.inl (cI, 30, .inl vl1_w63))) ky (.inl (cI, 80, .inl kf1_w63))) pl (.inl (cI, 80, .inl pf1_w63))) q_w1 (.inl (cI, 486, .inl f1_w63))) t_w1 (.inr (4, [.ref q_w1, .int (nI n1_w63), .int tl1_w63, .int (nI nt)]))) tb (.inl (cR, 120, .inr (.inr (.inr (.inr (va_up tf (i * 4 + g) (some t_w1)))))))) (congrArg (fun W => gv_up W tb (.inl (cR, 120, .inr (.inr (.inr (.inr (va_up tf (i * 4 + g) (some t_w1)))))))) (gv_uc (Ne.symm htq_w1))) ?_
              exact k_vret C zr zlk ⟨t_w1, q_w1, vl1_w63, kf1_w63, pf1_w63, n1_w63, tl1_w63, f1_w63, rfl, rfl, ht1_w1, hq_w1, htq_w1, ht1_w63⟩ (Nat.le_refl _) (Nat.le_refl _) dX1_refresh_166
            · skip
              rcases SB with _ | B
              · skip
                have ne64 : nq xe tb := gv_ne h_tb h_xe (by simp)
                have ne65 : nq ak tb := gv_ne h_tb h_ak (by simp)
                have ne66 : nq af tb := gv_ne h_tb h_af (by simp)
                have ne67 : nq as tb := gv_ne h_tb h_as (by simp)
                have ne68 : nq ap tb := gv_ne h_tb h_ap (by simp)
                have ne69 : nq av tb := gv_ne h_tb h_av (by simp)
                have ne70 : nq a tb := gv_ne h_tb h_a (by simp)
                have ne71 : nq c tb := gv_ne h_tb h_c (by simp)
                have ne72 : nq b tb := gv_ne h_tb h_b (by simp)
                have ne73 : nq c2 tb := gv_ne h_tb h_c2 (by simp)
                have ne74 : nq ky tb := gv_ne h_tb h_ky (by simp)
                have ne75 : nq pl tb := gv_ne h_tb h_pl (by simp)
                refine k_callV C mv_1_105 (c_overL2  ((gv_up_n ne46).trans ((gv_up_n ne24).trans ((gv_up_n ne2).trans h_mo))) ((gv_up_n ne50).trans ((gv_up_n ne32).trans ((gv_up_n ne10).trans h_no))) ((gv_up_n ne64).trans ((gv_up_n ne33).trans ((gv_up_n ne11).trans h_xe))) ((gv_up_n ne65).trans ((gv_up_n ne34).trans ((gv_up_n ne12).trans h_ak))) ((gv_up_n ne66).trans ((gv_up_n ne35).trans ((gv_up_n ne13).trans h_af))) ((gv_up_n ne67).trans ((gv_up_n ne36).trans ((gv_up_n ne14).trans h_as))) ((gv_up_n ne68).trans ((gv_up_n ne37).trans ((gv_up_n ne15).trans h_ap))) ((gv_up_n ne69).trans ((gv_up_n ne38).trans ((gv_up_n ne16).trans h_av))) ((gv_up_n ne70).trans ((gv_up_n ne42).trans ((gv_up_n ne20).trans h_a))) ((gv_up_n ne71).trans ((gv_up_n ne43).trans ((gv_up_n ne21).trans h_c))) ((gv_up_n ne72).trans ((gv_up_n ne44).trans ((gv_up_n ne22).trans h_b))) ((gv_up_n ne73).trans ((gv_up_n ne45).trans ((gv_up_n ne23).trans h_c2))) ((gv_up_n (Ne.symm ne19)).trans ((gv_up_n htq_w1).trans gv_up_s)) ((gv_up_n (Ne.symm ne41)).trans gv_up_s) ((gv_up_n ne74).trans ((gv_up_n ne39).trans ((gv_up_n ne17).trans h_ky))) ((gv_up_n ne75).trans ((gv_up_n ne40).trans ((gv_up_n ne18).trans h_pl))) (Or.inr hSb) (by first | assumption | omega) (Ne.symm ne20) (Ne.symm ne43) (Ne.symm ne22) (Ne.symm ne45) hky) ((gv_up_n ne46).trans ((gv_up_n ne24).trans ((gv_up_n ne2).trans h_mo))) rfl rfl (by simp [Value.category]) ⟨by decide, by decide⟩ ⟨(by decide), (by decide)⟩ dX1_refresh_163 (fun zv zV zh => ?_)
                obtain ⟨vl1_w76, kf1_w76, pf1_w76, n1_w76, tl1_w76, f1_w76, rfl, rfl, ht1_w76⟩ := zh
                refine k_pc (pc' := 166) (st' := []) rfl rfl ?_
                refine k_view (V1 := gv_up (gv_up (gv_up (gv_up (gv_up (gv_up (gv_up V t_w1 (.inr (4, [.ref q_w1, .int (nI 0), .int (nI 0), .int (nI nt)]))) q_w1 (.inl (cI, 486, .inl f1_w76))) tb (.inl (cR, 120, .inr (.inr (.inr (.inr (va_up tf (i * 4 + g) (some t_w1)))))))) av (.inl (cI, 30, .inl vl1_w76))) ky (.inl (cI, 80, .inl kf1_w76))) pl (.inl (cI, 80, .inl pf1_w76))) t_w1 (.inr (4, [.ref q_w1, .int (nI n1_w76), .int tl1_w76, .int (nI nt)]))) (congrArg (fun W => gv_up W t_w1 (.inr (4, [.ref q_w1, .int (nI n1_w76), .int tl1_w76, .int (nI nt)]))) ((gv_uc (Ne.symm ne40)).trans (congrArg (fun W => gv_up W pl (.inl (cI, 80, .inl pf1_w76))) ((gv_uc (Ne.symm ne39)).trans (congrArg (fun W => gv_up W ky (.inl (cI, 80, .inl kf1_w76))) ((gv_uc (Ne.symm ne38)).trans (congrArg (fun W => gv_up W av (.inl (cI, 30, .inl vl1_w76))) ((gv_uc (Ne.symm ne41)).trans (congrArg (fun W => gv_up W tb (.inl (cR, 120, .inr (.inr (.inr (.inr (va_up tf (i * 4 + g) (some t_w1)))))))) gv_uu))))))))) ?_
                refine k_view (V1 := gv_up (gv_up (gv_up (gv_up (gv_up (gv_up V t_w1 (.inr (4, [.ref q_w1, .int (nI n1_w76), .int tl1_w76, .int (nI nt)]))) q_w1 (.inl (cI, 486, .inl f1_w76))) tb (.inl (cR, 120, .inr (.inr (.inr (.inr (va_up tf (i * 4 + g) (some t_w1)))))))) av (.inl (cI, 30, .inl vl1_w76))) ky (.inl (cI, 80, .inl kf1_w76))) pl (.inl (cI, 80, .inl pf1_w76))) ((gv_uc (Ne.symm ne18)).trans (congrArg (fun W => gv_up W pl (.inl (cI, 80, .inl pf1_w76))) ((gv_uc (Ne.symm ne17)).trans (congrArg (fun W => gv_up W ky (.inl (cI, 80, .inl kf1_w76))) ((gv_uc (Ne.symm ne16)).trans (congrArg (fun W => gv_up W av (.inl (cI, 30, .inl vl1_w76))) ((gv_uc (Ne.symm ne19)).trans (congrArg (fun W => gv_up W tb (.inl (cR, 120, .inr (.inr (.inr (.inr (va_up tf (i * 4 + g) (some t_w1)))))))) ((gv_uc htq_w1).trans (congrArg (fun W => gv_up W q_w1 (.inl (cI, 486, .inl f1_w76))) gv_uu)))))))))) ?_
                refine k_view (V1 := gv_up (gv_up (gv_up (gv_up (gv_up (gv_up V t_w1 (.inr (4, [.ref q_w1, .int (nI n1_w76), .int tl1_w76, .int (nI nt)]))) q_w1 (.inl (cI, 486, .inl f1_w76))) av (.inl (cI, 30, .inl vl1_w76))) tb (.inl (cR, 120, .inr (.inr (.inr (.inr (va_up tf (i * 4 + g) (some t_w1)))))))) ky (.inl (cI, 80, .inl kf1_w76))) pl (.inl (cI, 80, .inl pf1_w76))) (congrArg (fun W => gv_up W pl (.inl (cI, 80, .inl pf1_w76))) (congrArg (fun W => gv_up W ky (.inl (cI, 80, .inl kf1_w76))) (gv_uc ne69))) ?_
                refine k_view (V1 := gv_up (gv_up (gv_up (gv_up (gv_up (gv_up V t_w1 (.inr (4, [.ref q_w1, .int (nI n1_w76), .int tl1_w76, .int (nI nt)]))) av (.inl (cI, 30, .inl vl1_w76))) q_w1 (.inl (cI, 486, .inl f1_w76))) tb (.inl (cR, 120, .inr (.inr (.inr (.inr (va_up tf (i * 4 + g) (some t_w1)))))))) ky (.inl (cI, 80, .inl kf1_w76))) pl (.inl (cI, 80, .inl pf1_w76))) (congrArg (fun W => gv_up W pl (.inl (cI, 80, .inl pf1_w76))) (congrArg (fun W => gv_up W ky (.inl (cI, 80, .inl kf1_w76))) (congrArg (fun W => gv_up W tb (.inl (cR, 120, .inr (.inr (.inr (.inr (va_up tf (i * 4 + g) (some t_w1)))))))) (gv_uc ne38)))) ?_
                refine k_view (V1 := gv_up (gv_up (gv_up (gv_up (gv_up (gv_up V av (.inl (cI, 30, .inl vl1_w76))) t_w1 (.inr (4, [.ref q_w1, .int (nI n1_w76), .int tl1_w76, .int (nI nt)]))) q_w1 (.inl (cI, 486, .inl f1_w76))) tb (.inl (cR, 120, .inr (.inr (.inr (.inr (va_up tf (i * 4 + g) (some t_w1)))))))) ky (.inl (cI, 80, .inl kf1_w76))) pl (.inl (cI, 80, .inl pf1_w76))) (congrArg (fun W => gv_up W pl (.inl (cI, 80, .inl pf1_w76))) (congrArg (fun W => gv_up W ky (.inl (cI, 80, .inl kf1_w76))) (congrArg (fun W => gv_up W tb (.inl (cR, 120, .inr (.inr (.inr (.inr (va_up tf (i * 4 + g) (some t_w1)))))))) (congrArg (fun W => gv_up W q_w1 (.inl (cI, 486, .inl f1_w76))) (gv_uc ne16))))) ?_
                refine k_view (V1 := gv_up (gv_up (gv_up (gv_up (gv_up (gv_up V av (.inl (cI, 30, .inl vl1_w76))) t_w1 (.inr (4, [.ref q_w1, .int (nI n1_w76), .int tl1_w76, .int (nI nt)]))) q_w1 (.inl (cI, 486, .inl f1_w76))) ky (.inl (cI, 80, .inl kf1_w76))) tb (.inl (cR, 120, .inr (.inr (.inr (.inr (va_up tf (i * 4 + g) (some t_w1)))))))) pl (.inl (cI, 80, .inl pf1_w76))) (congrArg (fun W => gv_up W pl (.inl (cI, 80, .inl pf1_w76))) (gv_uc ne74)) ?_
                refine k_view (V1 := gv_up (gv_up (gv_up (gv_up (gv_up (gv_up V av (.inl (cI, 30, .inl vl1_w76))) t_w1 (.inr (4, [.ref q_w1, .int (nI n1_w76), .int tl1_w76, .int (nI nt)]))) ky (.inl (cI, 80, .inl kf1_w76))) q_w1 (.inl (cI, 486, .inl f1_w76))) tb (.inl (cR, 120, .inr (.inr (.inr (.inr (va_up tf (i * 4 + g) (some t_w1)))))))) pl (.inl (cI, 80, .inl pf1_w76))) (congrArg (fun W => gv_up W pl (.inl (cI, 80, .inl pf1_w76))) (congrArg (fun W => gv_up W tb (.inl (cR, 120, .inr (.inr (.inr (.inr (va_up tf (i * 4 + g) (some t_w1)))))))) (gv_uc ne39))) ?_
                refine k_view (V1 := gv_up (gv_up (gv_up (gv_up (gv_up (gv_up V av (.inl (cI, 30, .inl vl1_w76))) ky (.inl (cI, 80, .inl kf1_w76))) t_w1 (.inr (4, [.ref q_w1, .int (nI n1_w76), .int tl1_w76, .int (nI nt)]))) q_w1 (.inl (cI, 486, .inl f1_w76))) tb (.inl (cR, 120, .inr (.inr (.inr (.inr (va_up tf (i * 4 + g) (some t_w1)))))))) pl (.inl (cI, 80, .inl pf1_w76))) (congrArg (fun W => gv_up W pl (.inl (cI, 80, .inl pf1_w76))) (congrArg (fun W => gv_up W tb (.inl (cR, 120, .inr (.inr (.inr (.inr (va_up tf (i * 4 + g) (some t_w1)))))))) (congrArg (fun W => gv_up W q_w1 (.inl (cI, 486, .inl f1_w76))) (gv_uc ne17)))) ?_
                refine k_view (V1 := gv_up (gv_up (gv_up (gv_up (gv_up (gv_up V av (.inl (cI, 30, .inl vl1_w76))) ky (.inl (cI, 80, .inl kf1_w76))) t_w1 (.inr (4, [.ref q_w1, .int (nI n1_w76), .int tl1_w76, .int (nI nt)]))) q_w1 (.inl (cI, 486, .inl f1_w76))) pl (.inl (cI, 80, .inl pf1_w76))) tb (.inl (cR, 120, .inr (.inr (.inr (.inr (va_up tf (i * 4 + g) (some t_w1)))))))) (gv_uc ne75) ?_
                refine k_view (V1 := gv_up (gv_up (gv_up (gv_up (gv_up (gv_up V av (.inl (cI, 30, .inl vl1_w76))) ky (.inl (cI, 80, .inl kf1_w76))) t_w1 (.inr (4, [.ref q_w1, .int (nI n1_w76), .int tl1_w76, .int (nI nt)]))) pl (.inl (cI, 80, .inl pf1_w76))) q_w1 (.inl (cI, 486, .inl f1_w76))) tb (.inl (cR, 120, .inr (.inr (.inr (.inr (va_up tf (i * 4 + g) (some t_w1)))))))) (congrArg (fun W => gv_up W tb (.inl (cR, 120, .inr (.inr (.inr (.inr (va_up tf (i * 4 + g) (some t_w1)))))))) (gv_uc ne40)) ?_
                refine k_view (V1 := gv_up (gv_up (gv_up (gv_up (gv_up (gv_up V av (.inl (cI, 30, .inl vl1_w76))) ky (.inl (cI, 80, .inl kf1_w76))) pl (.inl (cI, 80, .inl pf1_w76))) t_w1 (.inr (4, [.ref q_w1, .int (nI n1_w76), .int tl1_w76, .int (nI nt)]))) q_w1 (.inl (cI, 486, .inl f1_w76))) tb (.inl (cR, 120, .inr (.inr (.inr (.inr (va_up tf (i * 4 + g) (some t_w1)))))))) (congrArg (fun W => gv_up W tb (.inl (cR, 120, .inr (.inr (.inr (.inr (va_up tf (i * 4 + g) (some t_w1)))))))) (congrArg (fun W => gv_up W q_w1 (.inl (cI, 486, .inl f1_w76))) (gv_uc ne18))) ?_
                refine k_view (V1 := gv_up (gv_up (gv_up (gv_up (gv_up (gv_up V av (.inl (cI, 30, .inl vl1_w76))) ky (.inl (cI, 80, .inl kf1_w76))) pl (.inl (cI, 80, .inl pf1_w76))) q_w1 (.inl (cI, 486, .inl f1_w76))) t_w1 (.inr (4, [.ref q_w1, .int (nI n1_w76), .int tl1_w76, .int (nI nt)]))) tb (.inl (cR, 120, .inr (.inr (.inr (.inr (va_up tf (i * 4 + g) (some t_w1)))))))) (congrArg (fun W => gv_up W tb (.inl (cR, 120, .inr (.inr (.inr (.inr (va_up tf (i * 4 + g) (some t_w1)))))))) (gv_uc (Ne.symm htq_w1))) ?_
                exact k_vret C zr zlk ⟨t_w1, q_w1, vl1_w76, kf1_w76, pf1_w76, n1_w76, tl1_w76, f1_w76, rfl, rfl, ht1_w1, hq_w1, htq_w1, ht1_w76⟩ (Nat.le_refl _) (Nat.le_refl _) dX1_refresh_166
              · skip
                have ne77 : nq xe tb := gv_ne h_tb h_xe (by simp)
                have ne78 : nq ak tb := gv_ne h_tb h_ak (by simp)
                have ne79 : nq af tb := gv_ne h_tb h_af (by simp)
                have ne80 : nq as tb := gv_ne h_tb h_as (by simp)
                have ne81 : nq ap tb := gv_ne h_tb h_ap (by simp)
                have ne82 : nq av tb := gv_ne h_tb h_av (by simp)
                have ne83 : nq a tb := gv_ne h_tb h_a (by simp)
                have ne84 : nq c tb := gv_ne h_tb h_c (by simp)
                have ne85 : nq b tb := gv_ne h_tb h_b (by simp)
                have ne86 : nq c2 tb := gv_ne h_tb h_c2 (by simp)
                have ne87 : nq ky tb := gv_ne h_tb h_ky (by simp)
                have ne88 : nq pl tb := gv_ne h_tb h_pl (by simp)
                refine k_callV C mv_1_105 (c_over4E  ((gv_up_n ne46).trans ((gv_up_n ne24).trans ((gv_up_n ne2).trans h_mo))) ((gv_up_n ne50).trans ((gv_up_n ne32).trans ((gv_up_n ne10).trans h_no))) ((gv_up_n ne77).trans ((gv_up_n ne33).trans ((gv_up_n ne11).trans h_xe))) ((gv_up_n ne78).trans ((gv_up_n ne34).trans ((gv_up_n ne12).trans h_ak))) ((gv_up_n ne79).trans ((gv_up_n ne35).trans ((gv_up_n ne13).trans h_af))) ((gv_up_n ne80).trans ((gv_up_n ne36).trans ((gv_up_n ne14).trans h_as))) ((gv_up_n ne81).trans ((gv_up_n ne37).trans ((gv_up_n ne15).trans h_ap))) ((gv_up_n ne82).trans ((gv_up_n ne38).trans ((gv_up_n ne16).trans h_av))) ((gv_up_n ne83).trans ((gv_up_n ne42).trans ((gv_up_n ne20).trans h_a))) ((gv_up_n ne84).trans ((gv_up_n ne43).trans ((gv_up_n ne21).trans h_c))) ((gv_up_n ne85).trans ((gv_up_n ne44).trans ((gv_up_n ne22).trans h_b))) ((gv_up_n ne86).trans ((gv_up_n ne45).trans ((gv_up_n ne23).trans h_c2))) ((gv_up_n (Ne.symm ne19)).trans ((gv_up_n htq_w1).trans gv_up_s)) ((gv_up_n (Ne.symm ne41)).trans gv_up_s) ((gv_up_n ne87).trans ((gv_up_n ne39).trans ((gv_up_n ne17).trans h_ky))) ((gv_up_n ne88).trans ((gv_up_n ne40).trans ((gv_up_n ne18).trans h_pl))) (by first | assumption | omega) (by first | assumption | omega) hSa.2 (Ne.symm ne20) (Ne.symm ne43) hSb.2 (Ne.symm ne22) (Ne.symm ne45) hSa.1 hSb.1 hky (by first | assumption | omega)) ((gv_up_n ne46).trans ((gv_up_n ne24).trans ((gv_up_n ne2).trans h_mo))) rfl rfl (by simp [Value.category]) ⟨by decide, by decide⟩ ⟨(by decide), (by decide)⟩ dX1_refresh_163 (fun zv zV zh => ?_)
                obtain ⟨vl1_w89, kf1_w89, pf1_w89, n1_w89, tl1_w89, f1_w89, rfl, rfl, ht1_w89⟩ := zh
                refine k_pc (pc' := 166) (st' := []) rfl rfl ?_
                refine k_view (V1 := gv_up (gv_up (gv_up (gv_up (gv_up (gv_up (gv_up V t_w1 (.inr (4, [.ref q_w1, .int (nI 0), .int (nI 0), .int (nI nt)]))) q_w1 (.inl (cI, 486, .inl f1_w89))) tb (.inl (cR, 120, .inr (.inr (.inr (.inr (va_up tf (i * 4 + g) (some t_w1)))))))) av (.inl (cI, 30, .inl vl1_w89))) ky (.inl (cI, 80, .inl kf1_w89))) pl (.inl (cI, 80, .inl pf1_w89))) t_w1 (.inr (4, [.ref q_w1, .int (nI n1_w89), .int tl1_w89, .int (nI nt)]))) (congrArg (fun W => gv_up W t_w1 (.inr (4, [.ref q_w1, .int (nI n1_w89), .int tl1_w89, .int (nI nt)]))) ((gv_uc (Ne.symm ne40)).trans (congrArg (fun W => gv_up W pl (.inl (cI, 80, .inl pf1_w89))) ((gv_uc (Ne.symm ne39)).trans (congrArg (fun W => gv_up W ky (.inl (cI, 80, .inl kf1_w89))) ((gv_uc (Ne.symm ne38)).trans (congrArg (fun W => gv_up W av (.inl (cI, 30, .inl vl1_w89))) ((gv_uc (Ne.symm ne41)).trans (congrArg (fun W => gv_up W tb (.inl (cR, 120, .inr (.inr (.inr (.inr (va_up tf (i * 4 + g) (some t_w1)))))))) gv_uu))))))))) ?_
                refine k_view (V1 := gv_up (gv_up (gv_up (gv_up (gv_up (gv_up V t_w1 (.inr (4, [.ref q_w1, .int (nI n1_w89), .int tl1_w89, .int (nI nt)]))) q_w1 (.inl (cI, 486, .inl f1_w89))) tb (.inl (cR, 120, .inr (.inr (.inr (.inr (va_up tf (i * 4 + g) (some t_w1)))))))) av (.inl (cI, 30, .inl vl1_w89))) ky (.inl (cI, 80, .inl kf1_w89))) pl (.inl (cI, 80, .inl pf1_w89))) ((gv_uc (Ne.symm ne18)).trans (congrArg (fun W => gv_up W pl (.inl (cI, 80, .inl pf1_w89))) ((gv_uc (Ne.symm ne17)).trans (congrArg (fun W => gv_up W ky (.inl (cI, 80, .inl kf1_w89))) ((gv_uc (Ne.symm ne16)).trans (congrArg (fun W => gv_up W av (.inl (cI, 30, .inl vl1_w89))) ((gv_uc (Ne.symm ne19)).trans (congrArg (fun W => gv_up W tb (.inl (cR, 120, .inr (.inr (.inr (.inr (va_up tf (i * 4 + g) (some t_w1)))))))) ((gv_uc htq_w1).trans (congrArg (fun W => gv_up W q_w1 (.inl (cI, 486, .inl f1_w89))) gv_uu)))))))))) ?_
                refine k_view (V1 := gv_up (gv_up (gv_up (gv_up (gv_up (gv_up V t_w1 (.inr (4, [.ref q_w1, .int (nI n1_w89), .int tl1_w89, .int (nI nt)]))) q_w1 (.inl (cI, 486, .inl f1_w89))) av (.inl (cI, 30, .inl vl1_w89))) tb (.inl (cR, 120, .inr (.inr (.inr (.inr (va_up tf (i * 4 + g) (some t_w1)))))))) ky (.inl (cI, 80, .inl kf1_w89))) pl (.inl (cI, 80, .inl pf1_w89))) (congrArg (fun W => gv_up W pl (.inl (cI, 80, .inl pf1_w89))) (congrArg (fun W => gv_up W ky (.inl (cI, 80, .inl kf1_w89))) (gv_uc ne82))) ?_
                refine k_view (V1 := gv_up (gv_up (gv_up (gv_up (gv_up (gv_up V t_w1 (.inr (4, [.ref q_w1, .int (nI n1_w89), .int tl1_w89, .int (nI nt)]))) av (.inl (cI, 30, .inl vl1_w89))) q_w1 (.inl (cI, 486, .inl f1_w89))) tb (.inl (cR, 120, .inr (.inr (.inr (.inr (va_up tf (i * 4 + g) (some t_w1)))))))) ky (.inl (cI, 80, .inl kf1_w89))) pl (.inl (cI, 80, .inl pf1_w89))) (congrArg (fun W => gv_up W pl (.inl (cI, 80, .inl pf1_w89))) (congrArg (fun W => gv_up W ky (.inl (cI, 80, .inl kf1_w89))) (congrArg (fun W => gv_up W tb (.inl (cR, 120, .inr (.inr (.inr (.inr (va_up tf (i * 4 + g) (some t_w1)))))))) (gv_uc ne38)))) ?_
                refine k_view (V1 := gv_up (gv_up (gv_up (gv_up (gv_up (gv_up V av (.inl (cI, 30, .inl vl1_w89))) t_w1 (.inr (4, [.ref q_w1, .int (nI n1_w89), .int tl1_w89, .int (nI nt)]))) q_w1 (.inl (cI, 486, .inl f1_w89))) tb (.inl (cR, 120, .inr (.inr (.inr (.inr (va_up tf (i * 4 + g) (some t_w1)))))))) ky (.inl (cI, 80, .inl kf1_w89))) pl (.inl (cI, 80, .inl pf1_w89))) (congrArg (fun W => gv_up W pl (.inl (cI, 80, .inl pf1_w89))) (congrArg (fun W => gv_up W ky (.inl (cI, 80, .inl kf1_w89))) (congrArg (fun W => gv_up W tb (.inl (cR, 120, .inr (.inr (.inr (.inr (va_up tf (i * 4 + g) (some t_w1)))))))) (congrArg (fun W => gv_up W q_w1 (.inl (cI, 486, .inl f1_w89))) (gv_uc ne16))))) ?_
                refine k_view (V1 := gv_up (gv_up (gv_up (gv_up (gv_up (gv_up V av (.inl (cI, 30, .inl vl1_w89))) t_w1 (.inr (4, [.ref q_w1, .int (nI n1_w89), .int tl1_w89, .int (nI nt)]))) q_w1 (.inl (cI, 486, .inl f1_w89))) ky (.inl (cI, 80, .inl kf1_w89))) tb (.inl (cR, 120, .inr (.inr (.inr (.inr (va_up tf (i * 4 + g) (some t_w1)))))))) pl (.inl (cI, 80, .inl pf1_w89))) (congrArg (fun W => gv_up W pl (.inl (cI, 80, .inl pf1_w89))) (gv_uc ne87)) ?_
                refine k_view (V1 := gv_up (gv_up (gv_up (gv_up (gv_up (gv_up V av (.inl (cI, 30, .inl vl1_w89))) t_w1 (.inr (4, [.ref q_w1, .int (nI n1_w89), .int tl1_w89, .int (nI nt)]))) ky (.inl (cI, 80, .inl kf1_w89))) q_w1 (.inl (cI, 486, .inl f1_w89))) tb (.inl (cR, 120, .inr (.inr (.inr (.inr (va_up tf (i * 4 + g) (some t_w1)))))))) pl (.inl (cI, 80, .inl pf1_w89))) (congrArg (fun W => gv_up W pl (.inl (cI, 80, .inl pf1_w89))) (congrArg (fun W => gv_up W tb (.inl (cR, 120, .inr (.inr (.inr (.inr (va_up tf (i * 4 + g) (some t_w1)))))))) (gv_uc ne39))) ?_
                refine k_view (V1 := gv_up (gv_up (gv_up (gv_up (gv_up (gv_up V av (.inl (cI, 30, .inl vl1_w89))) ky (.inl (cI, 80, .inl kf1_w89))) t_w1 (.inr (4, [.ref q_w1, .int (nI n1_w89), .int tl1_w89, .int (nI nt)]))) q_w1 (.inl (cI, 486, .inl f1_w89))) tb (.inl (cR, 120, .inr (.inr (.inr (.inr (va_up tf (i * 4 + g) (some t_w1)))))))) pl (.inl (cI, 80, .inl pf1_w89))) (congrArg (fun W => gv_up W pl (.inl (cI, 80, .inl pf1_w89))) (congrArg (fun W => gv_up W tb (.inl (cR, 120, .inr (.inr (.inr (.inr (va_up tf (i * 4 + g) (some t_w1)))))))) (congrArg (fun W => gv_up W q_w1 (.inl (cI, 486, .inl f1_w89))) (gv_uc ne17)))) ?_
                refine k_view (V1 := gv_up (gv_up (gv_up (gv_up (gv_up (gv_up V av (.inl (cI, 30, .inl vl1_w89))) ky (.inl (cI, 80, .inl kf1_w89))) t_w1 (.inr (4, [.ref q_w1, .int (nI n1_w89), .int tl1_w89, .int (nI nt)]))) q_w1 (.inl (cI, 486, .inl f1_w89))) pl (.inl (cI, 80, .inl pf1_w89))) tb (.inl (cR, 120, .inr (.inr (.inr (.inr (va_up tf (i * 4 + g) (some t_w1)))))))) (gv_uc ne88) ?_
                refine k_view (V1 := gv_up (gv_up (gv_up (gv_up (gv_up (gv_up V av (.inl (cI, 30, .inl vl1_w89))) ky (.inl (cI, 80, .inl kf1_w89))) t_w1 (.inr (4, [.ref q_w1, .int (nI n1_w89), .int tl1_w89, .int (nI nt)]))) pl (.inl (cI, 80, .inl pf1_w89))) q_w1 (.inl (cI, 486, .inl f1_w89))) tb (.inl (cR, 120, .inr (.inr (.inr (.inr (va_up tf (i * 4 + g) (some t_w1)))))))) (congrArg (fun W => gv_up W tb (.inl (cR, 120, .inr (.inr (.inr (.inr (va_up tf (i * 4 + g) (some t_w1)))))))) (gv_uc ne40)) ?_
                refine k_view (V1 := gv_up (gv_up (gv_up (gv_up (gv_up (gv_up V av (.inl (cI, 30, .inl vl1_w89))) ky (.inl (cI, 80, .inl kf1_w89))) pl (.inl (cI, 80, .inl pf1_w89))) t_w1 (.inr (4, [.ref q_w1, .int (nI n1_w89), .int tl1_w89, .int (nI nt)]))) q_w1 (.inl (cI, 486, .inl f1_w89))) tb (.inl (cR, 120, .inr (.inr (.inr (.inr (va_up tf (i * 4 + g) (some t_w1)))))))) (congrArg (fun W => gv_up W tb (.inl (cR, 120, .inr (.inr (.inr (.inr (va_up tf (i * 4 + g) (some t_w1)))))))) (congrArg (fun W => gv_up W q_w1 (.inl (cI, 486, .inl f1_w89))) (gv_uc ne18))) ?_
                refine k_view (V1 := gv_up (gv_up (gv_up (gv_up (gv_up (gv_up V av (.inl (cI, 30, .inl vl1_w89))) ky (.inl (cI, 80, .inl kf1_w89))) pl (.inl (cI, 80, .inl pf1_w89))) q_w1 (.inl (cI, 486, .inl f1_w89))) t_w1 (.inr (4, [.ref q_w1, .int (nI n1_w89), .int tl1_w89, .int (nI nt)]))) tb (.inl (cR, 120, .inr (.inr (.inr (.inr (va_up tf (i * 4 + g) (some t_w1)))))))) (congrArg (fun W => gv_up W tb (.inl (cR, 120, .inr (.inr (.inr (.inr (va_up tf (i * 4 + g) (some t_w1)))))))) (gv_uc (Ne.symm htq_w1))) ?_
                exact k_vret C zr zlk ⟨t_w1, q_w1, vl1_w89, kf1_w89, pf1_w89, n1_w89, tl1_w89, f1_w89, rfl, rfl, ht1_w1, hq_w1, htq_w1, ht1_w89⟩ (Nat.le_refl _) (Nat.le_refl _) dX1_refresh_166
          · skip
            exact absurd c113 (nI_n1 (by omega))
        · skip
          exact absurd c94 (by decide)
      · skip
        exact absurd c73 (by decide)
    · skip
      exact absurd c54 (by decide)
  · skip
    exact absurd c18.symm (nI_n1 (by omega))
set_option maxHeartbeats 4000000 in
set_option maxRecDepth 100000 in
theorem c_refF {zl : Launch} {D : va_G} {cI cN cR : ClassId} {base : Nat} {V : gv_V} {mo tr nd tb wg ky pl : Nat} {xe : Nat} {tga tsa tpa tqa nt : Nat} {tf : Nat → Option Nat} {i g o oc n0 : Nat} {tl0 : Int32}  (h_mo : V mo = some (.inr (1, [.ref tr, .ref xe, .ref nd, .ref tb, .ref wg, .ref ky, .ref pl]))) (h_tr : V tr = some (.inr (5, [.ref tga, .ref tsa, .ref tpa, .ref tqa, .int (nI nt)]))) (h_tb : V tb = some (.inl (cR, 120, .inr (.inr (.inr (.inr tf)))))) (h_o : V o = some (.inr (4, [.ref oc, .int (nI n0), .int tl0, .int (nI nt)]))) (hi : i < 30) (hg : g < 4) (ht : tf (i * 4 + g) = some o) (hnt : nt ≤ 60) : ct zl D [(cI, .int), (cN, .object "AlgebraTree$Node"), (cR, .object "AlgebraTree$Rows")] base yX1_refresh cX1_refresh 6 none 5 0 0 [.ref mo, .int (nI i), .int (nI g)] V (pv V) := by
  refine ct_of "AlgebraTree$Maker" rfl (by decide) (Nat.le_of_ble_eq_true rfl) ?_
  intro zp ze zs zm zargs zbelow zmeth zc C zr zlk znm
  refine k_pc (pc' := 0) (st' := []) rfl rfl ?_
  show K zp zl ze (gv_rm 5 0 0) zs zm zargs zbelow zmeth zc D base 6 (gv_E D [(cI, .int), (cN, .object "AlgebraTree$Node"), (cR, .object "AlgebraTree$Rows")] base zbelow zargs zs 0 0 (pv V)) V 0 0 [(0, .ref mo), (1, .int (nI i)), (2, .int (nI g))] 0 []
  refine k_aload_n C dX1_refresh_0 rfl 0 rfl ?_
  refine k_iload_n C dX1_refresh_1 rfl 1 rfl ?_
  refine k_iload_n C dX1_refresh_2 rfl 2 rfl ?_
  refine k_callV_pr C mv_1_56 (c_tableOf  h_mo h_tb (by first | assumption | omega) (by first | assumption | omega) (by first | assumption | omega)) h_mo rfl rfl (by simp [Value.category]) ⟨by decide, by decide⟩ ⟨(by decide), (by decide)⟩ dX1_refresh_3 ?_
  refine k_astore_n (lv' := [(3, .ref o), (0, .ref mo), (1, .int (nI i)), (2, .int (nI g))]) C dX1_refresh_6 rfl (by decide) rfl ?_
  refine k_aload_n C dX1_refresh_7 rfl 0 rfl ?_
  refine k_get (ci := 4) (k := 3) C fl_1_84 h_o rfl dX1_refresh_8 ?_
  refine k_aload_n C dX1_refresh_11 rfl 1 rfl ?_
  refine k_get (ci := 1) (k := 0) C fl_1_12 h_mo rfl dX1_refresh_12 ?_
  refine k_get (ci := 5) (k := 4) C fl_1_87 h_tr rfl dX1_refresh_15 ?_
  refine k_icmp_ne (tgt := 22) C dX1_refresh_18 (by decide) (fun c18 => ?_) (fun c18 => ?_)
  · skip
    exact absurd rfl c18
  · skip
    have b18 : nt = nt := (nI_eq (a := nt) (b := nt) (by omega) (by omega)).mp c18
    exact k_vret C zr zlk (pv_of rfl) (Nat.le_refl _) (Nat.le_refl _) dX1_refresh_21
