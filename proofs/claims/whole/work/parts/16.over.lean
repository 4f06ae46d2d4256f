set_option maxHeartbeats 4000000 in
set_option maxRecDepth 100000 in
theorem c_over5 {zl : Launch} {D : va_G} {cI cN cR : ClassId} {base : Nat} {V : gv_V} {mo tr nd tb wg ky pl : Nat} {no : Nat} {na nb ps pp po va st fr ln dn ag gr : Int32} {e : Nat} {xe ak af as ap av ne : Nat} {kd fs sc pt vl : Nat → Int32} {a c n : Nat} {tl mk : Int32} {f : Nat → Int32} {o oc : Nat} {omk : Int32} {of : Nat → Int32} {kf pf : Nat → Int32} {A : List Row} {E : Nat → Ex}  (h_mo : V mo = some (.inr (1, [.ref tr, .ref xe, .ref nd, .ref tb, .ref wg, .ref ky, .ref pl]))) (h_no : V no = some (.inr (2, [.int (nI 5), .int na, .int nb, .int ps, .int pp, .int po, .int (nI e), .int va, .int st, .int fr, .int ln, .int dn, .int ag, .int gr]))) (h_xe : V xe = some (.inr (0, [.ref ak, .ref af, .ref as, .ref ap, .ref av, .int (nI ne)]))) (h_ak : V ak = some (.inl (cI, 30, .inl kd))) (h_af : V af = some (.inl (cI, 30, .inl fs))) (h_as : V as = some (.inl (cI, 30, .inl sc))) (h_ap : V ap = some (.inl (cI, 30, .inl pt))) (h_av : V av = some (.inl (cI, 30, .inl vl))) (h_a : V a = some (.inr (4, [.ref c, .int (nI n), .int tl, .int mk]))) (h_c : V c = some (.inl (cI, 486, .inl f))) (h_o : V o = some (.inr (4, [.ref oc, .int (nI 0), .int (nI 0), .int omk]))) (h_oc : V oc = some (.inl (cI, 486, .inl of))) (h_ky : V ky = some (.inl (cI, 80, .inl kf))) (h_pl : V pl = some (.inl (cI, 80, .inl pf))) (hX : ExR E ne kd fs sc pt) (hd : [ak, af, as, ap, av].Nodup) (hA : Tab A n f) (hoa : nq o a) (hca : nq oc c) (htl : tl = 0) (hky : nq ky pl) (he : e < ne) : ct zl D [(cI, .int), (cN, .object "AlgebraTree$Node"), (cR, .object "AlgebraTree$Rows")] base yX1_makeOverOne cX1_makeOverOne 4 none 4 0 0 [.ref mo, .ref no, .ref a, .ref o] V (fun zv zV => ∃ vl1 : Nat → Int32, ∃ kf1 : Nat → Int32, ∃ pf1 : Nat → Int32, ∃ n1 : Nat, ∃ tl1 : Int32, ∃ f1 : Nat → Int32, zv = none ∧ zV = gv_up (gv_up (gv_up (gv_up (gv_up V av (.inl (cI, 30, .inl vl1))) ky (.inl (cI, 80, .inl kf1))) pl (.inl (cI, 80, .inl pf1))) oc (.inl (cI, 486, .inl f1))) o (.inr (4, [.ref oc, .int (nI n1), .int tl1, .int omk])) ∧ (TRep (cap (A.filter (fun x => isT (ev E x e)))) n1 tl1 f1)) := by
  refine ct_of "AlgebraTree$Maker" rfl (by decide) (Nat.le_of_ble_eq_true rfl) ?_
  intro zp ze zs zm zargs zbelow zmeth zc C zr zlk znm
  refine k_pc (pc' := 0) (st' := []) rfl rfl ?_
  show K zp zl ze (gv_rm 4 0 0) zs zm zargs zbelow zmeth zc D base 4 (gv_E D [(cI, .int), (cN, .object "AlgebraTree$Node"), (cR, .object "AlgebraTree$Rows")] base zbelow zargs zs 0 0 (fun zv zV => ∃ vl1 : Nat → Int32, ∃ kf1 : Nat → Int32, ∃ pf1 : Nat → Int32, ∃ n1 : Nat, ∃ tl1 : Int32, ∃ f1 : Nat → Int32, zv = none ∧ zV = gv_up (gv_up (gv_up (gv_up (gv_up V av (.inl (cI, 30, .inl vl1))) ky (.inl (cI, 80, .inl kf1))) pl (.inl (cI, 80, .inl pf1))) oc (.inl (cI, 486, .inl f1))) o (.inr (4, [.ref oc, .int (nI n1), .int tl1, .int omk])) ∧ (TRep (cap (A.filter (fun x => isT (ev E x e)))) n1 tl1 f1))) V 0 0 [(0, .ref mo), (1, .ref no), (2, .ref a), (3, .ref o)] 0 []
  refine k_aload_n C dX1_makeOverOne_0 rfl 2 rfl ?_
  refine k_get (ci := 4) (k := 2) C fl_1_109 h_a rfl dX1_makeOverOne_1 ?_
  refine k_if_eq (tgt := 13) C dX1_makeOverOne_4 (by decide) (fun c4 => ?_) (fun c4 => ?_)
  · skip
    refine k_aload_n C dX1_makeOverOne_13 rfl 1 rfl ?_
    refine k_get (ci := 2) (k := 0) C fl_1_77 h_no rfl dX1_makeOverOne_14 ?_
    have sw17 : 5 = 5 := rfl
    refine k_val (y := nI 5) (by rw [sw17]) ?_
    refine k_tableIn (tgt := 60) C dX1_makeOverOne_17 (by decide) (by decide) rfl (by decide) ?_
    refine k_aload_n C dX1_makeOverOne_60 rfl 0 rfl ?_
    refine k_aload_n C dX1_makeOverOne_61 rfl 1 rfl ?_
    refine k_aload_n C dX1_makeOverOne_62 rfl 2 rfl ?_
    refine k_aload_n C dX1_makeOverOne_63 rfl 3 rfl ?_
    refine k_callV C mv_1_113 (c_X1_makeFilter  h_mo h_no h_xe h_ak h_af h_as h_ap h_av h_a h_c h_o h_oc (by first | assumption | omega) (by first | assumption | omega) (by first | assumption | omega) (by first | assumption | omega) hoa hca) h_mo rfl rfl (by simp [Value.category]) ⟨by decide, by decide⟩ ⟨(by decide), (by decide)⟩ dX1_makeOverOne_64 (fun zv zV zh => ?_)
    obtain ⟨n1_w1, tl1_w1, f1_w1, vl1_w1, rfl, rfl, hr1_w1⟩ := zh
    refine k_pc (pc' := 67) (st' := []) rfl rfl ?_
    refine k_goto (tgt := 154) C dX1_makeOverOne_67 (by decide) ?_
    have ne2 : nq ky av := gv_ne h_av h_ky (by simp)
    have ne3 : nq ky oc := gv_ne h_oc h_ky (by simp)
    have ne4 : nq ky o := gv_ne h_o h_ky (by simp)
    refine k_view (V1 := gv_up (gv_up (gv_up (gv_up V av (.inl (cI, 30, .inl vl1_w1))) oc (.inl (cI, 486, .inl f1_w1))) o (.inr (4, [.ref oc, .int (nI n1_w1), .int tl1_w1, .int omk]))) ky (.inl (cI, 80, .inl kf))) (gv_id ((gv_up_n ne4).trans ((gv_up_n ne3).trans ((gv_up_n ne2).trans h_ky)))).symm ?_
    have ne5 : nq pl av := gv_ne h_av h_pl (by simp)
    have ne6 : nq pl oc := gv_ne h_oc h_pl (by simp)
    have ne7 : nq pl o := gv_ne h_o h_pl (by simp)
    refine k_view (V1 := gv_up (gv_up (gv_up (gv_up (gv_up V av (.inl (cI, 30, .inl vl1_w1))) oc (.inl (cI, 486, .inl f1_w1))) o (.inr (4, [.ref oc, .int (nI n1_w1), .int tl1_w1, .int omk]))) ky (.inl (cI, 80, .inl kf))) pl (.inl (cI, 80, .inl pf))) (gv_id ((gv_up_n (Ne.symm hky)).trans ((gv_up_n ne7).trans ((gv_up_n ne6).trans ((gv_up_n ne5).trans h_pl))))).symm ?_
    refine k_view (V1 := gv_up (gv_up (gv_up (gv_up (gv_up V av (.inl (cI, 30, .inl vl1_w1))) oc (.inl (cI, 486, .inl f1_w1))) ky (.inl (cI, 80, .inl kf))) o (.inr (4, [.ref oc, .int (nI n1_w1), .int tl1_w1, .int omk]))) pl (.inl (cI, 80, .inl pf))) (congrArg (fun W => gv_up W pl (.inl (cI, 80, .inl pf))) (gv_uc ne4)) ?_
    refine k_view (V1 := gv_up (gv_up (gv_up (gv_up (gv_up V av (.inl (cI, 30, .inl vl1_w1))) ky (.inl (cI, 80, .inl kf))) oc (.inl (cI, 486, .inl f1_w1))) o (.inr (4, [.ref oc, .int (nI n1_w1), .int tl1_w1, .int omk]))) pl (.inl (cI, 80, .inl pf))) (congrArg (fun W => gv_up W pl (.inl (cI, 80, .inl pf))) (congrArg (fun W => gv_up W o (.inr (4, [.ref oc, .int (nI n1_w1), .int tl1_w1, .int omk]))) (gv_uc ne3))) ?_
    refine k_view (V1 := gv_up (gv_up (gv_up (gv_up (gv_up V av (.inl (cI, 30, .inl vl1_w1))) ky (.inl (cI, 80, .inl kf))) oc (.inl (cI, 486, .inl f1_w1))) pl (.inl (cI, 80, .inl pf))) o (.inr (4, [.ref oc, .int (nI n1_w1), .int tl1_w1, .int omk]))) (gv_uc ne7) ?_
    refine k_view (V1 := gv_up (gv_up (gv_up (gv_up (gv_up V av (.inl (cI, 30, .inl vl1_w1))) ky (.inl (cI, 80, .inl kf))) pl (.inl (cI, 80, .inl pf))) oc (.inl (cI, 486, .inl f1_w1))) o (.inr (4, [.ref oc, .int (nI n1_w1), .int tl1_w1, .int omk]))) (congrArg (fun W => gv_up W o (.inr (4, [.ref oc, .int (nI n1_w1), .int tl1_w1, .int omk]))) (gv_uc ne6)) ?_
    exact k_vret C zr zlk ⟨vl1_w1, kf, pf, n1_w1, tl1_w1, f1_w1, rfl, rfl, hr1_w1.tr⟩ (Nat.le_refl _) (Nat.le_refl _) dX1_makeOverOne_154
  · skip
    exact absurd htl c4
set_option maxHeartbeats 4000000 in
set_option maxRecDepth 100000 in
theorem c_over6 {zl : Launch} {D : va_G} {cI cN cR : ClassId} {base : Nat} {V : gv_V} {mo tr nd tb wg ky pl : Nat} {no : Nat} {na nb ps pp po st fr ln dn ag gr : Int32} {e vv : Nat} {xe ak af as ap av ne : Nat} {kd fs sc pt vl : Nat → Int32} {a c n : Nat} {tl mk : Int32} {f : Nat → Int32} {o oc : Nat} {omk : Int32} {of : Nat → Int32} {kf pf : Nat → Int32} {A : List Row} {E : Nat → Ex}  (h_mo : V mo = some (.inr (1, [.ref tr, .ref xe, .ref nd, .ref tb, .ref wg, .ref ky, .ref pl]))) (h_no : V no = some (.inr (2, [.int (nI 6), .int na, .int nb, .int ps, .int pp, .int po, .int (nI e), .int (nI vv), .int st, .int fr, .int ln, .int dn, .int ag, .int gr]))) (h_xe : V xe = some (.inr (0, [.ref ak, .ref af, .ref as, .ref ap, .ref av, .int (nI ne)]))) (h_ak : V ak = some (.inl (cI, 30, .inl kd))) (h_af : V af = some (.inl (cI, 30, .inl fs))) (h_as : V as = some (.inl (cI, 30, .inl sc))) (h_ap : V ap = some (.inl (cI, 30, .inl pt))) (h_av : V av = some (.inl (cI, 30, .inl vl))) (h_a : V a = some (.inr (4, [.ref c, .int (nI n), .int tl, .int mk]))) (h_c : V c = some (.inl (cI, 486, .inl f))) (h_o : V o = some (.inr (4, [.ref oc, .int (nI 0), .int (nI 0), .int omk]))) (h_oc : V oc = some (.inl (cI, 486, .inl of))) (h_ky : V ky = some (.inl (cI, 80, .inl kf))) (h_pl : V pl = some (.inl (cI, 80, .inl pf))) (hX : ExR E ne kd fs sc pt) (hd : [ak, af, as, ap, av].Nodup) (hA : Tab A n f) (hoa : nq o a) (hca : nq oc c) (htl : tl = 0) (hky : nq ky pl) (he : e < ne) (hvv : vv < 6) : ct zl D [(cI, .int), (cN, .object "AlgebraTree$Node"), (cR, .object "AlgebraTree$Rows")] base yX1_makeOverOne cX1_makeOverOne 4 none 4 0 0 [.ref mo, .ref no, .ref a, .ref o] V (fun zv zV => ∃ vl1 : Nat → Int32, ∃ kf1 : Nat → Int32, ∃ pf1 : Nat → Int32, ∃ n1 : Nat, ∃ tl1 : Int32, ∃ f1 : Nat → Int32, zv = none ∧ zV = gv_up (gv_up (gv_up (gv_up (gv_up V av (.inl (cI, 30, .inl vl1))) ky (.inl (cI, 80, .inl kf1))) pl (.inl (cI, 80, .inl pf1))) oc (.inl (cI, 486, .inl f1))) o (.inr (4, [.ref oc, .int (nI n1), .int tl1, .int omk])) ∧ (TRep (cap (A.map (fun x => extR vv (ev E x e) x))) n1 tl1 f1)) := by
  refine ct_of "AlgebraTree$Maker" rfl (by decide) (Nat.le_of_ble_eq_true rfl) ?_
  intro zp ze zs zm zargs zbelow zmeth zc C zr zlk znm
  refine k_pc (pc' := 0) (st' := []) rfl rfl ?_
  show K zp zl ze (gv_rm 4 0 0) zs zm zargs zbelow zmeth zc D base 4 (gv_E D [(cI, .int), (cN, .object "AlgebraTree$Node"), (cR, .object "AlgebraTree$Rows")] base zbelow zargs zs 0 0 (fun zv zV => ∃ vl1 : Nat → Int32, ∃ kf1 : Nat → Int32, ∃ pf1 : Nat → Int32, ∃ n1 : Nat, ∃ tl1 : Int32, ∃ f1 : Nat → Int32, zv = none ∧ zV = gv_up (gv_up (gv_up (gv_up (gv_up V av (.inl (cI, 30, .inl vl1))) ky (.inl (cI, 80, .inl kf1))) pl (.inl (cI, 80, .inl pf1))) oc (.inl (cI, 486, .inl f1))) o (.inr (4, [.ref oc, .int (nI n1), .int tl1, .int omk])) ∧ (TRep (cap (A.map (fun x => extR vv (ev E x e) x))) n1 tl1 f1))) V 0 0 [(0, .ref mo), (1, .ref no), (2, .ref a), (3, .ref o)] 0 []
  refine k_aload_n C dX1_makeOverOne_0 rfl 2 rfl ?_
  refine k_get (ci := 4) (k := 2) C fl_1_109 h_a rfl dX1_makeOverOne_1 ?_
  refine k_if_eq (tgt := 13) C dX1_makeOverOne_4 (by decide) (fun c4 => ?_) (fun c4 => ?_)
  · skip
    refine k_aload_n C dX1_makeOverOne_13 rfl 1 rfl ?_
    refine k_get (ci := 2) (k := 0) C fl_1_77 h_no rfl dX1_makeOverOne_14 ?_
    have sw17 : 6 = 6 := rfl
    refine k_val (y := nI 6) (by rw [sw17]) ?_
    refine k_tableIn (tgt := 70) C dX1_makeOverOne_17 (by decide) (by decide) rfl (by decide) ?_
    refine k_aload_n C dX1_makeOverOne_70 rfl 0 rfl ?_
    refine k_aload_n C dX1_makeOverOne_71 rfl 1 rfl ?_
    refine k_aload_n C dX1_makeOverOne_72 rfl 2 rfl ?_
    refine k_aload_n C dX1_makeOverOne_73 rfl 3 rfl ?_
    refine k_callV C mv_1_116 (c_X1_makeExtension  h_mo h_no h_xe h_ak h_af h_as h_ap h_av h_a h_c h_o h_oc (by first | assumption | omega) (by first | assumption | omega) (by first | assumption | omega) (by first | assumption | omega) hoa hca (by first | assumption | omega)) h_mo rfl rfl (by simp [Value.category]) ⟨by decide, by decide⟩ ⟨(by decide), (by decide)⟩ dX1_makeOverOne_74 (fun zv zV zh => ?_)
    obtain ⟨n1_w1, tl1_w1, f1_w1, vl1_w1, rfl, rfl, hr1_w1⟩ := zh
    refine k_pc (pc' := 77) (st' := []) rfl rfl ?_
    refine k_goto (tgt := 154) C dX1_makeOverOne_77 (by decide) ?_
    have ne2 : nq ky av := gv_ne h_av h_ky (by simp)
    have ne3 : nq ky oc := gv_ne h_oc h_ky (by simp)
    have ne4 : nq ky o := gv_ne h_o h_ky (by simp)
    refine k_view (V1 := gv_up (gv_up (gv_up (gv_up V av (.inl (cI, 30, .inl vl1_w1))) oc (.inl (cI, 486, .inl f1_w1))) o (.inr (4, [.ref oc, .int (nI n1_w1), .int tl1_w1, .int omk]))) ky (.inl (cI, 80, .inl kf))) (gv_id ((gv_up_n ne4).trans ((gv_up_n ne3).trans ((gv_up_n ne2).trans h_ky)))).symm ?_
    have ne5 : nq pl av := gv_ne h_av h_pl (by simp)
    have ne6 : nq pl oc := gv_ne h_oc h_pl (by simp)
    have ne7 : nq pl o := gv_ne h_o h_pl (by simp)
    refine k_view (V1 := gv_up (gv_up (gv_up (gv_up (gv_up V av (.inl (cI, 30, .inl vl1_w1))) oc (.inl (cI, 486, .inl f1_w1))) o (.inr (4, [.ref oc, .int (nI n1_w1), .int tl1_w1, .int omk]))) ky (.inl (cI, 80, .inl kf))) pl (.inl (cI, 80, .inl pf))) (gv_id ((gv_up_n (Ne.symm hky)).trans ((gv_up_n ne7).trans ((gv_up_n ne6).trans ((gv_up_n ne5).trans h_pl))))).symm ?_
    refine k_view (V1 := gv_up (gv_up (gv_up (gv_up (gv_up V av (.inl (cI, 30, .inl vl1_w1))) oc (.inl (cI, 486, .inl f1_w1))) ky (.inl (cI, 80, .inl kf))) o (.inr (4, [.ref oc, .int (nI n1_w1), .int tl1_w1, .int omk]))) pl (.inl (cI, 80, .inl pf))) (congrArg (fun W => gv_up W pl (.inl (cI, 80, .inl pf))) (gv_uc ne4)) ?_
    refine k_view (V1 := gv_up (gv_up (gv_up (gv_up (gv_up V av (.inl (cI, 30, .inl vl1_w1))) ky (.inl (cI, 80, .inl kf))) oc (.inl (cI, 486, .inl f1_w1))) o (.inr (4, [.ref oc, .int (nI n1_w1), .int tl1_w1, .int omk]))) pl (.inl (cI, 80, .inl pf))) (congrArg (fun W => gv_up W pl (.inl (cI, 80, .inl pf))) (congrArg (fun W => gv_up W o (.inr (4, [.ref oc, .int (nI n1_w1), .int tl1_w1, .int omk]))) (gv_uc ne3))) ?_
    refine k_view (V1 := gv_up (gv_up (gv_up (gv_up (gv_up V av (.inl (cI, 30, .inl vl1_w1))) ky (.inl (cI, 80, .inl kf))) oc (.inl (cI, 486, .inl f1_w1))) pl (.inl (cI, 80, .inl pf))) o (.inr (4, [.ref oc, .int (nI n1_w1), .int tl1_w1, .int omk]))) (gv_uc ne7) ?_
    refine k_view (V1 := gv_up (gv_up (gv_up (gv_up (gv_up V av (.inl (cI, 30, .inl vl1_w1))) ky (.inl (cI, 80, .inl kf))) pl (.inl (cI, 80, .inl pf))) oc (.inl (cI, 486, .inl f1_w1))) o (.inr (4, [.ref oc, .int (nI n1_w1), .int tl1_w1, .int omk]))) (congrArg (fun W => gv_up W o (.inr (4, [.ref oc, .int (nI n1_w1), .int tl1_w1, .int omk]))) (gv_uc ne6)) ?_
    exact k_vret C zr zlk ⟨vl1_w1, kf, pf, n1_w1, tl1_w1, f1_w1, rfl, rfl, hr1_w1.tr⟩ (Nat.le_refl _) (Nat.le_refl _) dX1_makeOverOne_154
  · skip
    exact absurd htl c4
set_option maxHeartbeats 4000000 in
set_option maxRecDepth 100000 in
theorem c_over7 {zl : Launch} {D : va_G} {cI cN cR : ClassId} {base : Nat} {V : gv_V} {mo tr nd tb wg ky pl : Nat} {no : Nat} {na nb ps pp po ex va st fr ln dn ag gr : Int32} {xe ak af as ap av ne : Nat} {kd fs sc pt vl : Nat → Int32} {a c n : Nat} {tl mk : Int32} {f : Nat → Int32} {o oc : Nat} {omk : Int32} {of : Nat → Int32} {kf pf : Nat → Int32} {A : List Row} {E : Nat → Ex}  (h_mo : V mo = some (.inr (1, [.ref tr, .ref xe, .ref nd, .ref tb, .ref wg, .ref ky, .ref pl]))) (h_no : V no = some (.inr (2, [.int (nI 7), .int na, .int nb, .int ps, .int pp, .int po, .int ex, .int va, .int st, .int fr, .int ln, .int dn, .int ag, .int gr]))) (h_xe : V xe = some (.inr (0, [.ref ak, .ref af, .ref as, .ref ap, .ref av, .int (nI ne)]))) (h_ak : V ak = some (.inl (cI, 30, .inl kd))) (h_af : V af = some (.inl (cI, 30, .inl fs))) (h_as : V as = some (.inl (cI, 30, .inl sc))) (h_ap : V ap = some (.inl (cI, 30, .inl pt))) (h_av : V av = some (.inl (cI, 30, .inl vl))) (h_a : V a = some (.inr (4, [.ref c, .int (nI n), .int tl, .int mk]))) (h_c : V c = some (.inl (cI, 486, .inl f))) (h_o : V o = some (.inr (4, [.ref oc, .int (nI 0), .int (nI 0), .int omk]))) (h_oc : V oc = some (.inl (cI, 486, .inl of))) (h_ky : V ky = some (.inl (cI, 80, .inl kf))) (h_pl : V pl = some (.inl (cI, 80, .inl pf))) (hX : ExR E ne kd fs sc pt) (hd : [ak, af, as, ap, av].Nodup) (hA : Tab A n f) (hoa : nq o a) (hca : nq oc c) (htl : tl = 0) (hky : nq ky pl) : ct zl D [(cI, .int), (cN, .object "AlgebraTree$Node"), (cR, .object "AlgebraTree$Rows")] base yX1_makeOverOne cX1_makeOverOne 4 none 4 0 0 [.ref mo, .ref no, .ref a, .ref o] V (fun zv zV => ∃ vl1 : Nat → Int32, ∃ kf1 : Nat → Int32, ∃ pf1 : Nat → Int32, ∃ n1 : Nat, ∃ tl1 : Int32, ∃ f1 : Nat → Int32, zv = none ∧ zV = gv_up (gv_up (gv_up (gv_up (gv_up V av (.inl (cI, 30, .inl vl1))) ky (.inl (cI, 80, .inl kf1))) pl (.inl (cI, 80, .inl pf1))) oc (.inl (cI, 486, .inl f1))) o (.inr (4, [.ref oc, .int (nI n1), .int tl1, .int omk])) ∧ (TRep (cap (A.map (prj st))) n1 tl1 f1)) := by
  refine ct_of "AlgebraTree$Maker" rfl (by decide) (Nat.le_of_ble_eq_true rfl) ?_
  intro zp ze zs zm zargs zbelow zmeth zc C zr zlk znm
  refine k_pc (pc' := 0) (st' := []) rfl rfl ?_
  show K zp zl ze (gv_rm 4 0 0) zs zm zargs zbelow zmeth zc D base 4 (gv_E D [(cI, .int), (cN, .object "AlgebraTree$Node"), (cR, .object "AlgebraTree$Rows")] base zbelow zargs zs 0 0 (fun zv zV => ∃ vl1 : Nat → Int32, ∃ kf1 : Nat → Int32, ∃ pf1 : Nat → Int32, ∃ n1 : Nat, ∃ tl1 : Int32, ∃ f1 : Nat → Int32, zv = none ∧ zV = gv_up (gv_up (gv_up (gv_up (gv_up V av (.inl (cI, 30, .inl vl1))) ky (.inl (cI, 80, .inl kf1))) pl (.inl (cI, 80, .inl pf1))) oc (.inl (cI, 486, .inl f1))) o (.inr (4, [.ref oc, .int (nI n1), .int tl1, .int omk])) ∧ (TRep (cap (A.map (prj st))) n1 tl1 f1))) V 0 0 [(0, .ref mo), (1, .ref no), (2, .ref a), (3, .ref o)] 0 []
  refine k_aload_n C dX1_makeOverOne_0 rfl 2 rfl ?_
  refine k_get (ci := 4) (k := 2) C fl_1_109 h_a rfl dX1_makeOverOne_1 ?_
  refine k_if_eq (tgt := 13) C dX1_makeOverOne_4 (by decide) (fun c4 => ?_) (fun c4 => ?_)
  · skip
    refine k_aload_n C dX1_makeOverOne_13 rfl 1 rfl ?_
    refine k_get (ci := 2) (k := 0) C fl_1_77 h_no rfl dX1_makeOverOne_14 ?_
    have sw17 : 7 = 7 := rfl
    refine k_val (y := nI 7) (by rw [sw17]) ?_
    refine k_tableIn (tgt := 80) C dX1_makeOverOne_17 (by decide) (by decide) rfl (by decide) ?_
    refine k_aload_n C dX1_makeOverOne_80 rfl 1 rfl ?_
    refine k_aload_n C dX1_makeOverOne_81 rfl 2 rfl ?_
    refine k_aload_n C dX1_makeOverOne_82 rfl 3 rfl ?_
    refine k_callS C ms_1_119 (c_X1_makeProjection  h_no h_a h_c h_o h_oc (by first | assumption | omega) hoa hca) rfl rfl (by simp [Value.category]) ⟨by decide, by decide⟩ ⟨(by decide), (by decide)⟩ dX1_makeOverOne_83 (fun zv zV zh => ?_)
    obtain ⟨n1_w1, tl1_w1, f1_w1, rfl, rfl, hr1_w1⟩ := zh
    refine k_pc (pc' := 86) (st' := []) rfl rfl ?_
    refine k_goto (tgt := 154) C dX1_makeOverOne_86 (by decide) ?_
    have ne2 : nq av oc := gv_ne h_oc h_av (by simp)
    have ne3 : nq av o := gv_ne h_o h_av (by simp)
    refine k_view (V1 := gv_up (gv_up (gv_up V oc (.inl (cI, 486, .inl f1_w1))) o (.inr (4, [.ref oc, .int (nI n1_w1), .int tl1_w1, .int omk]))) av (.inl (cI, 30, .inl vl))) (gv_id ((gv_up_n ne3).trans ((gv_up_n ne2).trans h_av))).symm ?_
    have ne4 : nq ky oc := gv_ne h_oc h_ky (by simp)
    have ne5 : nq ky o := gv_ne h_o h_ky (by simp)
    have ne6 : nq ky av := gv_ne h_av h_ky (by simp)
    refine k_view (V1 := gv_up (gv_up (gv_up (gv_up V oc (.inl (cI, 486, .inl f1_w1))) o (.inr (4, [.ref oc, .int (nI n1_w1), .int tl1_w1, .int omk]))) av (.inl (cI, 30, .inl vl))) ky (.inl (cI, 80, .inl kf))) (gv_id ((gv_up_n ne6).trans ((gv_up_n ne5).trans ((gv_up_n ne4).trans h_ky)))).symm ?_
    have ne7 : nq pl oc := gv_ne h_oc h_pl (by simp)
    have ne8 : nq pl o := gv_ne h_o h_pl (by simp)
    have ne9 : nq pl av := gv_ne h_av h_pl (by simp)
    refine k_view (V1 := gv_up (gv_up (gv_up (gv_up (gv_up V oc (.inl (cI, 486, .inl f1_w1))) o (.inr (4, [.ref oc, .int (nI n1_w1), .int tl1_w1, .int omk]))) av (.inl (cI, 30, .inl vl))) ky (.inl (cI, 80, .inl kf))) pl (.inl (cI, 80, .inl pf))) (gv_id ((gv_up_n (Ne.symm hky)).trans ((gv_up_n ne9).trans ((gv_up_n ne8).trans ((gv_up_n ne7).trans h_pl))))).symm ?_
    refine k_view (V1 := gv_up (gv_up (gv_up (gv_up (gv_up V oc (.inl (cI, 486, .inl f1_w1))) av (.inl (cI, 30, .inl vl))) o (.inr (4, [.ref oc, .int (nI n1_w1), .int tl1_w1, .int omk]))) ky (.inl (cI, 80, .inl kf))) pl (.inl (cI, 80, .inl pf))) (congrArg (fun W => gv_up W pl (.inl (cI, 80, .inl pf))) (congrArg (fun W => gv_up W ky (.inl (cI, 80, .inl kf))) (gv_uc ne3))) ?_
    refine k_view (V1 := gv_up (gv_up (gv_up (gv_up (gv_up V av (.inl (cI, 30, .inl vl))) oc (.inl (cI, 486, .inl f1_w1))) o (.inr (4, [.ref oc, .int (nI n1_w1), .int tl1_w1, .int omk]))) ky (.inl (cI, 80, .inl kf))) pl (.inl (cI, 80, .inl pf))) (congrArg (fun W => gv_up W pl (.inl (cI, 80, .inl pf))) (congrArg (fun W => gv_up W ky (.inl (cI, 80, .inl kf))) (congrArg (fun W => gv_up W o (.inr (4, [.ref oc, .int (nI n1_w1), .int tl1_w1, .int omk]))) (gv_uc ne2)))) ?_
    refine k_view (V1 := gv_up (gv_up (gv_up (gv_up (gv_up V av (.inl (cI, 30, .inl vl))) oc (.inl (cI, 486, .inl f1_w1))) ky (.inl (cI, 80, .inl kf))) o (.inr (4, [.ref oc, .int (nI n1_w1), .int tl1_w1, .int omk]))) pl (.inl (cI, 80, .inl pf))) (congrArg (fun W => gv_up W pl (.inl (cI, 80, .inl pf))) (gv_uc ne5)) ?_
    refine k_view (V1 := gv_up (gv_up (gv_up (gv_up (gv_up V av (.inl (cI, 30, .inl vl))) ky (.inl (cI, 80, .inl kf))) oc (.inl (cI, 486, .inl f1_w1))) o (.inr (4, [.ref oc, .int (nI n1_w1), .int tl1_w1, .int omk]))) pl (.inl (cI, 80, .inl pf))) (congrArg (fun W => gv_up W pl (.inl (cI, 80, .inl pf))) (congrArg (fun W => gv_up W o (.inr (4, [.ref oc, .int (nI n1_w1), .int tl1_w1, .int omk]))) (gv_uc ne4))) ?_
    refine k_view (V1 := gv_up (gv_up (gv_up (gv_up (gv_up V av (.inl (cI, 30, .inl vl))) ky (.inl (cI, 80, .inl kf))) oc (.inl (cI, 486, .inl f1_w1))) pl (.inl (cI, 80, .inl pf))) o (.inr (4, [.ref oc, .int (nI n1_w1), .int tl1_w1, .int omk]))) (gv_uc ne8) ?_
    refine k_view (V1 := gv_up (gv_up (gv_up (gv_up (gv_up V av (.inl (cI, 30, .inl vl))) ky (.inl (cI, 80, .inl kf))) pl (.inl (cI, 80, .inl pf))) oc (.inl (cI, 486, .inl f1_w1))) o (.inr (4, [.ref oc, .int (nI n1_w1), .int tl1_w1, .int omk]))) (congrArg (fun W => gv_up W o (.inr (4, [.ref oc, .int (nI n1_w1), .int tl1_w1, .int omk]))) (gv_uc ne7)) ?_
    exact k_vret C zr zlk ⟨vl, kf, pf, n1_w1, tl1_w1, f1_w1, rfl, rfl, hr1_w1.tr⟩ (Nat.le_refl _) (Nat.le_refl _) dX1_makeOverOne_154
  · skip
    exact absurd htl c4
set_option maxHeartbeats 4000000 in
set_option maxRecDepth 100000 in
theorem c_over8 {zl : Launch} {D : va_G} {cI cN cR : ClassId} {base : Nat} {V : gv_V} {mo tr nd tb wg ky pl : Nat} {no : Nat} {na nb ps pp po ex va st fr ln dn ag gr : Int32} {xe ak af as ap av ne : Nat} {kd fs sc pt vl : Nat → Int32} {a c n : Nat} {tl mk : Int32} {f : Nat → Int32} {o oc : Nat} {omk : Int32} {of : Nat → Int32} {kf pf : Nat → Int32} {A : List Row} {E : Nat → Ex}  (h_mo : V mo = some (.inr (1, [.ref tr, .ref xe, .ref nd, .ref tb, .ref wg, .ref ky, .ref pl]))) (h_no : V no = some (.inr (2, [.int (nI 8), .int na, .int nb, .int ps, .int pp, .int po, .int ex, .int va, .int st, .int fr, .int ln, .int dn, .int ag, .int gr]))) (h_xe : V xe = some (.inr (0, [.ref ak, .ref af, .ref as, .ref ap, .ref av, .int (nI ne)]))) (h_ak : V ak = some (.inl (cI, 30, .inl kd))) (h_af : V af = some (.inl (cI, 30, .inl fs))) (h_as : V as = some (.inl (cI, 30, .inl sc))) (h_ap : V ap = some (.inl (cI, 30, .inl pt))) (h_av : V av = some (.inl (cI, 30, .inl vl))) (h_a : V a = some (.inr (4, [.ref c, .int (nI n), .int tl, .int mk]))) (h_c : V c = some (.inl (cI, 486, .inl f))) (h_o : V o = some (.inr (4, [.ref oc, .int (nI 0), .int (nI 0), .int omk]))) (h_oc : V oc = some (.inl (cI, 486, .inl of))) (h_ky : V ky = some (.inl (cI, 80, .inl kf))) (h_pl : V pl = some (.inl (cI, 80, .inl pf))) (hX : ExR E ne kd fs sc pt) (hd : [ak, af, as, ap, av].Nodup) (hA : Tab A n f) (hoa : nq o a) (hca : nq oc c) (htl : tl = 0) (hky : nq ky pl) : ct zl D [(cI, .int), (cN, .object "AlgebraTree$Node"), (cR, .object "AlgebraTree$Rows")] base yX1_makeOverOne cX1_makeOverOne 4 none 4 0 0 [.ref mo, .ref no, .ref a, .ref o] V (fun zv zV => ∃ vl1 : Nat → Int32, ∃ kf1 : Nat → Int32, ∃ pf1 : Nat → Int32, ∃ n1 : Nat, ∃ tl1 : Int32, ∃ f1 : Nat → Int32, zv = none ∧ zV = gv_up (gv_up (gv_up (gv_up (gv_up V av (.inl (cI, 30, .inl vl1))) ky (.inl (cI, 80, .inl kf1))) pl (.inl (cI, 80, .inl pf1))) oc (.inl (cI, 486, .inl f1))) o (.inr (4, [.ref oc, .int (nI n1), .int tl1, .int omk])) ∧ (TRep (cap (distL (nI 63) A)) n1 tl1 f1)) := by
  refine ct_of "AlgebraTree$Maker" rfl (by decide) (Nat.le_of_ble_eq_true rfl) ?_
  intro zp ze zs zm zargs zbelow zmeth zc C zr zlk znm
  refine k_pc (pc' := 0) (st' := []) rfl rfl ?_
  show K zp zl ze (gv_rm 4 0 0) zs zm zargs zbelow zmeth zc D base 4 (gv_E D [(cI, .int), (cN, .object "AlgebraTree$Node"), (cR, .object "AlgebraTree$Rows")] base zbelow zargs zs 0 0 (fun zv zV => ∃ vl1 : Nat → Int32, ∃ kf1 : Nat → Int32, ∃ pf1 : Nat → Int32, ∃ n1 : Nat, ∃ tl1 : Int32, ∃ f1 : Nat → Int32, zv = none ∧ zV = gv_up (gv_up (gv_up (gv_up (gv_up V av (.inl (cI, 30, .inl vl1))) ky (.inl (cI, 80, .inl kf1))) pl (.inl (cI, 80, .inl pf1))) oc (.inl (cI, 486, .inl f1))) o (.inr (4, [.ref oc, .int (nI n1), .int tl1, .int omk])) ∧ (TRep (cap (distL (nI 63) A)) n1 tl1 f1))) V 0 0 [(0, .ref mo), (1, .ref no), (2, .ref a), (3, .ref o)] 0 []
  refine k_aload_n C dX1_makeOverOne_0 rfl 2 rfl ?_
  refine k_get (ci := 4) (k := 2) C fl_1_109 h_a rfl dX1_makeOverOne_1 ?_
  refine k_if_eq (tgt := 13) C dX1_makeOverOne_4 (by decide) (fun c4 => ?_) (fun c4 => ?_)
  · skip
    refine k_aload_n C dX1_makeOverOne_13 rfl 1 rfl ?_
    refine k_get (ci := 2) (k := 0) C fl_1_77 h_no rfl dX1_makeOverOne_14 ?_
    have sw17 : 8 = 8 := rfl
    refine k_val (y := nI 8) (by rw [sw17]) ?_
    refine k_tableIn (tgt := 89) C dX1_makeOverOne_17 (by decide) (by decide) rfl (by decide) ?_
    refine k_aload_n C dX1_makeOverOne_89 rfl 2 rfl ?_
    refine k_bipush (v := nI 63) C dX1_makeOverOne_90 rfl ?_
    refine k_aload_n C dX1_makeOverOne_92 rfl 3 rfl ?_
    refine k_callS C ms_1_122 (c_X1_makeDistinct  h_a h_c h_o h_oc (by first | assumption | omega) hoa hca) rfl rfl (by simp [Value.category]) ⟨by decide, by decide⟩ ⟨(by decide), (by decide)⟩ dX1_makeOverOne_93 (fun zv zV zh => ?_)
    obtain ⟨n1_w1, tl1_w1, f1_w1, rfl, rfl, hr1_w1⟩ := zh
    refine k_pc (pc' := 96) (st' := []) rfl rfl ?_
    refine k_goto (tgt := 154) C dX1_makeOverOne_96 (by decide) ?_
    have ne2 : nq av oc := gv_ne h_oc h_av (by simp)
    have ne3 : nq av o := gv_ne h_o h_av (by simp)
    refine k_view (V1 := gv_up (gv_up (gv_up V oc (.inl (cI, 486, .inl f1_w1))) o (.inr (4, [.ref oc, .int (nI n1_w1), .int tl1_w1, .int omk]))) av (.inl (cI, 30, .inl vl))) (gv_id ((gv_up_n ne3).trans ((gv_up_n ne2).trans h_av))).symm ?_
    have ne4 : nq ky oc := gv_ne h_oc h_ky (by simp)
    have ne5 : nq ky o := gv_ne h_o h_ky (by simp)
    have ne6 : nq ky av := gv_ne h_av h_ky (by simp)
    refine k_view (V1 := gv_up (gv_up (gv_up (gv_up V oc (.inl (cI, 486, .inl f1_w1))) o (.inr (4, [.ref oc, .int (nI n1_w1), .int tl1_w1, .int omk]))) av (.inl (cI, 30, .inl vl))) ky (.inl (cI, 80, .inl kf))) (gv_id ((gv_up_n ne6).trans ((gv_up_n ne5).trans ((gv_up_n ne4).trans h_ky)))).symm ?_
    have ne7 : nq pl oc := gv_ne h_oc h_pl (by simp)
    have ne8 : nq pl o := gv_ne h_o h_pl (by simp)
    have ne9 : nq pl av := gv_ne h_av h_pl (by simp)
    refine k_view (V1 := gv_up (gv_up (gv_up (gv_up (gv_up V oc (.inl (cI, 486, .inl f1_w1))) o (.inr (4, [.ref oc, .int (nI n1_w1), .int tl1_w1, .int omk]))) av (.inl (cI, 30, .inl vl))) ky (.inl (cI, 80, .inl kf))) pl (.inl (cI, 80, .inl pf))) (gv_id ((gv_up_n (Ne.symm hky)).trans ((gv_up_n ne9).trans ((gv_up_n ne8).trans ((gv_up_n ne7).trans h_pl))))).symm ?_
    refine k_view (V1 := gv_up (gv_up (gv_up (gv_up (gv_up V oc (.inl (cI, 486, .inl f1_w1))) av (.inl (cI, 30, .inl vl))) o (.inr (4, [.ref oc, .int (nI n1_w1), .int tl1_w1, .int omk]))) ky (.inl (cI, 80, .inl kf))) pl (.inl (cI, 80, .inl pf))) (congrArg (fun W => gv_up W pl (.inl (cI, 80, .inl pf))) (congrArg (fun W => gv_up W ky (.inl (cI, 80, .inl kf))) (gv_uc ne3))) ?_
    refine k_view (V1 := gv_up (gv_up (gv_up (gv_up (gv_up V av (.inl (cI, 30, .inl vl))) oc (.inl (cI, 486, .inl f1_w1))) o (.inr (4, [.ref oc, .int (nI n1_w1), .int tl1_w1, .int omk]))) ky (.inl (cI, 80, .inl kf))) pl (.inl (cI, 80, .inl pf))) (congrArg (fun W => gv_up W pl (.inl (cI, 80, .inl pf))) (congrArg (fun W => gv_up W ky (.inl (cI, 80, .inl kf))) (congrArg (fun W => gv_up W o (.inr (4, [.ref oc, .int (nI n1_w1), .int tl1_w1, .int omk]))) (gv_uc ne2)))) ?_
    refine k_view (V1 := gv_up (gv_up (gv_up (gv_up (gv_up V av (.inl (cI, 30, .inl vl))) oc (.inl (cI, 486, .inl f1_w1))) ky (.inl (cI, 80, .inl kf))) o (.inr (4, [.ref oc, .int (nI n1_w1), .int tl1_w1, .int omk]))) pl (.inl (cI, 80, .inl pf))) (congrArg (fun W => gv_up W pl (.inl (cI, 80, .inl pf))) (gv_uc ne5)) ?_
    refine k_view (V1 := gv_up (gv_up (gv_up (gv_up (gv_up V av (.inl (cI, 30, .inl vl))) ky (.inl (cI, 80, .inl kf))) oc (.inl (cI, 486, .inl f1_w1))) o (.inr (4, [.ref oc, .int (nI n1_w1), .int tl1_w1, .int omk]))) pl (.inl (cI, 80, .inl pf))) (congrArg (fun W => gv_up W pl (.inl (cI, 80, .inl pf))) (congrArg (fun W => gv_up W o (.inr (4, [.ref oc, .int (nI n1_w1), .int tl1_w1, .int omk]))) (gv_uc ne4))) ?_
    refine k_view (V1 := gv_up (gv_up (gv_up (gv_up (gv_up V av (.inl (cI, 30, .inl vl))) ky (.inl (cI, 80, .inl kf))) oc (.inl (cI, 486, .inl f1_w1))) pl (.inl (cI, 80, .inl pf))) o (.inr (4, [.ref oc, .int (nI n1_w1), .int tl1_w1, .int omk]))) (gv_uc ne8) ?_
    refine k_view (V1 := gv_up (gv_up (gv_up (gv_up (gv_up V av (.inl (cI, 30, .inl vl))) ky (.inl (cI, 80, .inl kf))) pl (.inl (cI, 80, .inl pf))) oc (.inl (cI, 486, .inl f1_w1))) o (.inr (4, [.ref oc, .int (nI n1_w1), .int tl1_w1, .int omk]))) (congrArg (fun W => gv_up W o (.inr (4, [.ref oc, .int (nI n1_w1), .int tl1_w1, .int omk]))) (gv_uc ne7)) ?_
    exact k_vret C zr zlk ⟨vl, kf, pf, n1_w1, tl1_w1, f1_w1, rfl, rfl, hr1_w1.tr⟩ (Nat.le_refl _) (Nat.le_refl _) dX1_makeOverOne_154
  · skip
    exact absurd htl c4
set_option maxHeartbeats 4000000 in
set_option maxRecDepth 100000 in
theorem c_over9 {zl : Launch} {D : va_G} {cI cN cR : ClassId} {base : Nat} {V : gv_V} {mo tr nd tb wg ky pl : Nat} {no : Nat} {na nb ps pp po ex va st dn ag gr : Int32} {u0 u1 : Nat} {xe ak af as ap av ne : Nat} {kd fs sc pt vl : Nat → Int32} {a c n : Nat} {tl mk : Int32} {f : Nat → Int32} {o oc : Nat} {omk : Int32} {of : Nat → Int32} {kf pf : Nat → Int32} {A : List Row} {E : Nat → Ex}  (h_mo : V mo = some (.inr (1, [.ref tr, .ref xe, .ref nd, .ref tb, .ref wg, .ref ky, .ref pl]))) (h_no : V no = some (.inr (2, [.int (nI 9), .int na, .int nb, .int ps, .int pp, .int po, .int ex, .int va, .int st, .int (nI u0), .int (nI u1), .int dn, .int ag, .int gr]))) (h_xe : V xe = some (.inr (0, [.ref ak, .ref af, .ref as, .ref ap, .ref av, .int (nI ne)]))) (h_ak : V ak = some (.inl (cI, 30, .inl kd))) (h_af : V af = some (.inl (cI, 30, .inl fs))) (h_as : V as = some (.inl (cI, 30, .inl sc))) (h_ap : V ap = some (.inl (cI, 30, .inl pt))) (h_av : V av = some (.inl (cI, 30, .inl vl))) (h_a : V a = some (.inr (4, [.ref c, .int (nI n), .int tl, .int mk]))) (h_c : V c = some (.inl (cI, 486, .inl f))) (h_o : V o = some (.inr (4, [.ref oc, .int (nI 0), .int (nI 0), .int omk]))) (h_oc : V oc = some (.inl (cI, 486, .inl of))) (h_ky : V ky = some (.inl (cI, 80, .inl kf))) (h_pl : V pl = some (.inl (cI, 80, .inl pf))) (hX : ExR E ne kd fs sc pt) (hd : [ak, af, as, ap, av].Nodup) (hA : Tab A n f) (hoa : nq o a) (hca : nq oc c) (htl : tl = 0) (hky : nq ky pl) (hu0 : u0 ≤ 1000) (hu1 : u1 ≤ 1000) : ct zl D [(cI, .int), (cN, .object "AlgebraTree$Node"), (cR, .object "AlgebraTree$Rows")] base yX1_makeOverOne cX1_makeOverOne 4 none 4 0 0 [.ref mo, .ref no, .ref a, .ref o] V (fun zv zV => ∃ vl1 : Nat → Int32, ∃ kf1 : Nat → Int32, ∃ pf1 : Nat → Int32, ∃ n1 : Nat, ∃ tl1 : Int32, ∃ f1 : Nat → Int32, zv = none ∧ zV = gv_up (gv_up (gv_up (gv_up (gv_up V av (.inl (cI, 30, .inl vl1))) ky (.inl (cI, 80, .inl kf1))) pl (.inl (cI, 80, .inl pf1))) oc (.inl (cI, 486, .inl f1))) o (.inr (4, [.ref oc, .int (nI n1), .int tl1, .int omk])) ∧ (TRep (cap ((A.drop u0).take u1)) n1 tl1 f1)) := by
  refine ct_of "AlgebraTree$Maker" rfl (by decide) (Nat.le_of_ble_eq_true rfl) ?_
  intro zp ze zs zm zargs zbelow zmeth zc C zr zlk znm
  refine k_pc (pc' := 0) (st' := []) rfl rfl ?_
  show K zp zl ze (gv_rm 4 0 0) zs zm zargs zbelow zmeth zc D base 4 (gv_E D [(cI, .int), (cN, .object "AlgebraTree$Node"), (cR, .object "AlgebraTree$Rows")] base zbelow zargs zs 0 0 (fun zv zV => ∃ vl1 : Nat → Int32, ∃ kf1 : Nat → Int32, ∃ pf1 : Nat → Int32, ∃ n1 : Nat, ∃ tl1 : Int32, ∃ f1 : Nat → Int32, zv = none ∧ zV = gv_up (gv_up (gv_up (gv_up (gv_up V av (.inl (cI, 30, .inl vl1))) ky (.inl (cI, 80, .inl kf1))) pl (.inl (cI, 80, .inl pf1))) oc (.inl (cI, 486, .inl f1))) o (.inr (4, [.ref oc, .int (nI n1), .int tl1, .int omk])) ∧ (TRep (cap ((A.drop u0).take u1)) n1 tl1 f1))) V 0 0 [(0, .ref mo), (1, .ref no), (2, .ref a), (3, .ref o)] 0 []
  refine k_aload_n C dX1_makeOverOne_0 rfl 2 rfl ?_
  refine k_get (ci := 4) (k := 2) C fl_1_109 h_a rfl dX1_makeOverOne_1 ?_
  refine k_if_eq (tgt := 13) C dX1_makeOverOne_4 (by decide) (fun c4 => ?_) (fun c4 => ?_)
  · skip
    refine k_aload_n C dX1_makeOverOne_13 rfl 1 rfl ?_
    refine k_get (ci := 2) (k := 0) C fl_1_77 h_no rfl dX1_makeOverOne_14 ?_
    have sw17 : 9 = 9 := rfl
    refine k_val (y := nI 9) (by rw [sw17]) ?_
    refine k_tableIn (tgt := 99) C dX1_makeOverOne_17 (by decide) (by decide) rfl (by decide) ?_
    refine k_aload_n C dX1_makeOverOne_99 rfl 1 rfl ?_
    refine k_aload_n C dX1_makeOverOne_100 rfl 2 rfl ?_
    refine k_aload_n C dX1_makeOverOne_101 rfl 3 rfl ?_
    refine k_callS C ms_1_126 (c_X1_makeSlice  h_no h_a h_c h_o h_oc (by first | assumption | omega) hoa hca (by first | assumption | omega) (by first | assumption | omega)) rfl rfl (by simp [Value.category]) ⟨by decide, by decide⟩ ⟨(by decide), (by decide)⟩ dX1_makeOverOne_102 (fun zv zV zh => ?_)
    obtain ⟨n1_w1, tl1_w1, f1_w1, rfl, rfl, hr1_w1⟩ := zh
    refine k_pc (pc' := 105) (st' := []) rfl rfl ?_
    refine k_goto (tgt := 154) C dX1_makeOverOne_105 (by decide) ?_
    have ne2 : nq av oc := gv_ne h_oc h_av (by simp)
    have ne3 : nq av o := gv_ne h_o h_av (by simp)
    refine k_view (V1 := gv_up (gv_up (gv_up V oc (.inl (cI, 486, .inl f1_w1))) o (.inr (4, [.ref oc, .int (nI n1_w1), .int tl1_w1, .int omk]))) av (.inl (cI, 30, .inl vl))) (gv_id ((gv_up_n ne3).trans ((gv_up_n ne2).trans h_av))).symm ?_
    have ne4 : nq ky oc := gv_ne h_oc h_ky (by simp)
    have ne5 : nq ky o := gv_ne h_o h_ky (by simp)
    have ne6 : nq ky av := gv_ne h_av h_ky (by simp)
    refine k_view (V1 := gv_up (gv_up (gv_up (gv_up V oc (.inl (cI, 486, .inl f1_w1))) o (.inr (4, [.ref oc, .int (nI n1_w1), .int tl1_w1, .int omk]))) av (.inl (cI, 30, .inl vl))) ky (.inl (cI, 80, .inl kf))) (gv_id ((gv_up_n ne6).trans ((gv_up_n ne5).trans ((gv_up_n ne4).trans h_ky)))).symm ?_
    have ne7 : nq pl oc := gv_ne h_oc h_pl (by simp)
    have ne8 : nq pl o := gv_ne h_o h_pl (by simp)
    have ne9 : nq pl av := gv_ne h_av h_pl (by simp)
    refine k_view (V1 := gv_up (gv_up (gv_up (gv_up (gv_up V oc (.inl (cI, 486, .inl f1_w1))) o (.inr (4, [.ref oc, .int (nI n1_w1), .int tl1_w1, .int omk]))) av (.inl (cI, 30, .inl vl))) ky (.inl (cI, 80, .inl kf))) pl (.inl (cI, 80, .inl pf))) (gv_id ((gv_up_n (Ne.symm hky)).trans ((gv_up_n ne9).trans ((gv_up_n ne8).trans ((gv_up_n ne7).trans h_pl))))).symm ?_
    refine k_view (V1 := gv_up (gv_up (gv_up (gv_up (gv_up V oc (.inl (cI, 486, .inl f1_w1))) av (.inl (cI, 30, .inl vl))) o (.inr (4, [.ref oc, .int (nI n1_w1), .int tl1_w1, .int omk]))) ky (.inl (cI, 80, .inl kf))) pl (.inl (cI, 80, .inl pf))) (congrArg (fun W => gv_up W pl (.inl (cI, 80, .inl pf))) (congrArg (fun W => gv_up W ky (.inl (cI, 80, .inl kf))) (gv_uc ne3))) ?_
    refine k_view (V1 := gv_up (gv_up (gv_up (gv_up (gv_up V av (.inl (cI, 30, .inl vl))) oc (.inl (cI, 486, .inl f1_w1))) o (.inr (4, [.ref oc, .int (nI n1_w1), .int tl1_w1, .int omk]))) ky (.inl (cI, 80, .inl kf))) pl (.inl (cI, 80, .inl pf))) (congrArg (fun W => gv_up W pl (.inl (cI, 80, .inl pf))) (congrArg (fun W => gv_up W ky (.inl (cI, 80, .inl kf))) (congrArg (fun W => gv_up W o (.inr (4, [.ref oc, .int (nI n1_w1), .int tl1_w1, .int omk]))) (gv_uc ne2)))) ?_
    refine k_view (V1 := gv_up (gv_up (gv_up (gv_up (gv_up V av (.inl (cI, 30, .inl vl))) oc (.inl (cI, 486, .inl f1_w1))) ky (.inl (cI, 80, .inl kf))) o (.inr (4, [.ref oc, .int (nI n1_w1), .int tl1_w1, .int omk]))) pl (.inl (cI, 80, .inl pf))) (congrArg (fun W => gv_up W pl (.inl (cI, 80, .inl pf))) (gv_uc ne5)) ?_
    refine k_view (V1 := gv_up (gv_up (gv_up (gv_up (gv_up V av (.inl (cI, 30, .inl vl))) ky (.inl (cI, 80, .inl kf))) oc (.inl (cI, 486, .inl f1_w1))) o (.inr (4, [.ref oc, .int (nI n1_w1), .int tl1_w1, .int omk]))) pl (.inl (cI, 80, .inl pf))) (congrArg (fun W => gv_up W pl (.inl (cI, 80, .inl pf))) (congrArg (fun W => gv_up W o (.inr (4, [.ref oc, .int (nI n1_w1), .int tl1_w1, .int omk]))) (gv_uc ne4))) ?_
    refine k_view (V1 := gv_up (gv_up (gv_up (gv_up (gv_up V av (.inl (cI, 30, .inl vl))) ky (.inl (cI, 80, .inl kf))) oc (.inl (cI, 486, .inl f1_w1))) pl (.inl (cI, 80, .inl pf))) o (.inr (4, [.ref oc, .int (nI n1_w1), .int tl1_w1, .int omk]))) (gv_uc ne8) ?_
    refine k_view (V1 := gv_up (gv_up (gv_up (gv_up (gv_up V av (.inl (cI, 30, .inl vl))) ky (.inl (cI, 80, .inl kf))) pl (.inl (cI, 80, .inl pf))) oc (.inl (cI, 486, .inl f1_w1))) o (.inr (4, [.ref oc, .int (nI n1_w1), .int tl1_w1, .int omk]))) (congrArg (fun W => gv_up W o (.inr (4, [.ref oc, .int (nI n1_w1), .int tl1_w1, .int omk]))) (gv_uc ne7)) ?_
    exact k_vret C zr zlk ⟨vl, kf, pf, n1_w1, tl1_w1, f1_w1, rfl, rfl, hr1_w1.tr⟩ (Nat.le_refl _) (Nat.le_refl _) dX1_makeOverOne_154
  · skip
    exact absurd htl c4
set_option maxHeartbeats 4000000 in
set_option maxRecDepth 100000 in
theorem c_over10 {zl : Launch} {D : va_G} {cI cN cR : ClassId} {base : Nat} {V : gv_V} {mo tr nd tb wg ky pl : Nat} {no : Nat} {na nb ps pp po va st fr ln dn ag gr : Int32} {e : Nat} {xe ak af as ap av ne : Nat} {kd fs sc pt vl : Nat → Int32} {a c n : Nat} {tl mk : Int32} {f : Nat → Int32} {o oc : Nat} {omk : Int32} {of : Nat → Int32} {kf pf : Nat → Int32} {A : List Row} {E : Nat → Ex}  (h_mo : V mo = some (.inr (1, [.ref tr, .ref xe, .ref nd, .ref tb, .ref wg, .ref ky, .ref pl]))) (h_no : V no = some (.inr (2, [.int (nI 10), .int na, .int nb, .int ps, .int pp, .int po, .int (nI e), .int va, .int st, .int fr, .int ln, .int dn, .int ag, .int gr]))) (h_xe : V xe = some (.inr (0, [.ref ak, .ref af, .ref as, .ref ap, .ref av, .int (nI ne)]))) (h_ak : V ak = some (.inl (cI, 30, .inl kd))) (h_af : V af = some (.inl (cI, 30, .inl fs))) (h_as : V as = some (.inl (cI, 30, .inl sc))) (h_ap : V ap = some (.inl (cI, 30, .inl pt))) (h_av : V av = some (.inl (cI, 30, .inl vl))) (h_a : V a = some (.inr (4, [.ref c, .int (nI n), .int tl, .int mk]))) (h_c : V c = some (.inl (cI, 486, .inl f))) (h_o : V o = some (.inr (4, [.ref oc, .int (nI 0), .int (nI 0), .int omk]))) (h_oc : V oc = some (.inl (cI, 486, .inl of))) (h_ky : V ky = some (.inl (cI, 80, .inl kf))) (h_pl : V pl = some (.inl (cI, 80, .inl pf))) (hX : ExR E ne kd fs sc pt) (hd : [ak, af, as, ap, av].Nodup) (hA : Tab A n f) (hoa : nq o a) (hca : nq oc c) (htl : tl = 0) (hky : nq ky pl) (he : e < ne) : ct zl D [(cI, .int), (cN, .object "AlgebraTree$Node"), (cR, .object "AlgebraTree$Rows")] base yX1_makeOverOne cX1_makeOverOne 4 none 4 0 0 [.ref mo, .ref no, .ref a, .ref o] V (fun zv zV => ∃ vl1 : Nat → Int32, ∃ kf1 : Nat → Int32, ∃ pf1 : Nat → Int32, ∃ n1 : Nat, ∃ tl1 : Int32, ∃ f1 : Nat → Int32, zv = none ∧ zV = gv_up (gv_up (gv_up (gv_up (gv_up V av (.inl (cI, 30, .inl vl1))) ky (.inl (cI, 80, .inl kf1))) pl (.inl (cI, 80, .inl pf1))) oc (.inl (cI, 486, .inl f1))) o (.inr (4, [.ref oc, .int (nI n1), .int tl1, .int omk])) ∧ (TRep (cap (orderL dn (fun x => ev E x e) A)) n1 tl1 f1)) := by
  refine ct_of "AlgebraTree$Maker" rfl (by decide) (Nat.le_of_ble_eq_true rfl) ?_
  intro zp ze zs zm zargs zbelow zmeth zc C zr zlk znm
  refine k_pc (pc' := 0) (st' := []) rfl rfl ?_
  show K zp zl ze (gv_rm 4 0 0) zs zm zargs zbelow zmeth zc D base 4 (gv_E D [(cI, .int), (cN, .object "AlgebraTree$Node"), (cR, .object "AlgebraTree$Rows")] base zbelow zargs zs 0 0 (fun zv zV => ∃ vl1 : Nat → Int32, ∃ kf1 : Nat → Int32, ∃ pf1 : Nat → Int32, ∃ n1 : Nat, ∃ tl1 : Int32, ∃ f1 : Nat → Int32, zv = none ∧ zV = gv_up (gv_up (gv_up (gv_up (gv_up V av (.inl (cI, 30, .inl vl1))) ky (.inl (cI, 80, .inl kf1))) pl (.inl (cI, 80, .inl pf1))) oc (.inl (cI, 486, .inl f1))) o (.inr (4, [.ref oc, .int (nI n1), .int tl1, .int omk])) ∧ (TRep (cap (orderL dn (fun x => ev E x e) A)) n1 tl1 f1))) V 0 0 [(0, .ref mo), (1, .ref no), (2, .ref a), (3, .ref o)] 0 []
  refine k_aload_n C dX1_makeOverOne_0 rfl 2 rfl ?_
  refine k_get (ci := 4) (k := 2) C fl_1_109 h_a rfl dX1_makeOverOne_1 ?_
  refine k_if_eq (tgt := 13) C dX1_makeOverOne_4 (by decide) (fun c4 => ?_) (fun c4 => ?_)
  · skip
    refine k_aload_n C dX1_makeOverOne_13 rfl 1 rfl ?_
    refine k_get (ci := 2) (k := 0) C fl_1_77 h_no rfl dX1_makeOverOne_14 ?_
    have sw17 : 10 = 10 := rfl
    refine k_val (y := nI 10) (by rw [sw17]) ?_
    refine k_tableIn (tgt := 108) C dX1_makeOverOne_17 (by decide) (by decide) rfl (by decide) ?_
    refine k_aload_n C dX1_makeOverOne_108 rfl 0 rfl ?_
    refine k_aload_n C dX1_makeOverOne_109 rfl 1 rfl ?_
    refine k_aload_n C dX1_makeOverOne_110 rfl 2 rfl ?_
    refine k_callV C mv_1_129 (c_X1_makeKeys  h_mo h_no h_xe h_ak h_af h_as h_ap h_av h_a h_c h_ky (by first | assumption | omega) (by first | assumption | omega) (by first | assumption | omega) (by first | assumption | omega)) h_mo rfl rfl (by simp [Value.category]) ⟨by decide, by decide⟩ ⟨(by decide), (by decide)⟩ dX1_makeOverOne_111 (fun zv zV zh => ?_)
    obtain ⟨vl1_w1, kf1_w1, rfl, rfl, hkf_w1⟩ := zh
    refine k_pc (pc' := 114) (st' := []) rfl rfl ?_
    refine k_aload_n C dX1_makeOverOne_114 rfl 0 rfl ?_
    refine k_aload_n C dX1_makeOverOne_115 rfl 1 rfl ?_
    refine k_aload_n C dX1_makeOverOne_116 rfl 2 rfl ?_
    refine k_aload_n C dX1_makeOverOne_117 rfl 3 rfl ?_
    have ne2 : nq mo av := gv_ne h_av h_mo (by simp)
    have ne3 : nq mo ky := gv_ne h_ky h_mo (by simp)
    have ne4 : nq no av := gv_ne h_av h_no (by simp)
    have ne5 : nq no ky := gv_ne h_ky h_no (by simp)
    have ne6 : nq a av := gv_ne h_av h_a (by simp)
    have ne7 : nq a ky := gv_ne h_ky h_a (by simp)
    have ne8 : nq c av := gv_ne h_av h_c (by simp)
    have ne9 : nq c ky := gv_ne h_ky h_c (by simp)
    have ne10 : nq o av := gv_ne h_av h_o (by simp)
    have ne11 : nq o ky := gv_ne h_ky h_o (by simp)
    have ne12 : nq oc av := gv_ne h_av h_oc (by simp)
    have ne13 : nq oc ky := gv_ne h_ky h_oc (by simp)
    have ne14 : nq pl av := gv_ne h_av h_pl (by simp)
    refine k_callV C mv_1_132 (c_X1_makeOrder (kk := fun x => ev E x e) ((gv_up_n ne3).trans ((gv_up_n ne2).trans h_mo)) ((gv_up_n ne5).trans ((gv_up_n ne4).trans h_no)) ((gv_up_n ne7).trans ((gv_up_n ne6).trans h_a)) ((gv_up_n ne9).trans ((gv_up_n ne8).trans h_c)) ((gv_up_n ne11).trans ((gv_up_n ne10).trans h_o)) ((gv_up_n ne13).trans ((gv_up_n ne12).trans h_oc)) gv_up_s ((gv_up_n (Ne.symm hky)).trans ((gv_up_n ne14).trans h_pl)) (by first | assumption | omega) hoa hca hkf_w1 hky) ((gv_up_n ne3).trans ((gv_up_n ne2).trans h_mo)) rfl rfl (by simp [Value.category]) ⟨by decide, by decide⟩ ⟨(by decide), (by decide)⟩ dX1_makeOverOne_118 (fun zv zV zh => ?_)
    obtain ⟨n1_w15, tl1_w15, f1_w15, pf1_w15, rfl, rfl, hr1_w15⟩ := zh
    refine k_pc (pc' := 121) (st' := []) rfl rfl ?_
    refine k_goto (tgt := 154) C dX1_makeOverOne_121 (by decide) ?_
    exact k_vret C zr zlk ⟨vl1_w1, kf1_w1, pf1_w15, n1_w15, tl1_w15, f1_w15, rfl, rfl, hr1_w15.tr⟩ (Nat.le_refl _) (Nat.le_refl _) dX1_makeOverOne_154
  · skip
    exact absurd htl c4
set_option maxHeartbeats 4000000 in
set_option maxRecDepth 100000 in
theorem c_over11 {zl : Launch} {D : va_G} {cI cN cR : ClassId} {base : Nat} {V : gv_V} {mo tr nd tb wg ky pl : Nat} {no : Nat} {na nb ps pp po st fr ln dn ag gr : Int32} {e vv : Nat} {xe ak af as ap av ne : Nat} {kd fs sc pt vl : Nat → Int32} {a c n : Nat} {tl mk : Int32} {f : Nat → Int32} {o oc : Nat} {omk : Int32} {of : Nat → Int32} {kf pf : Nat → Int32} {A : List Row} {E : Nat → Ex}  (h_mo : V mo = some (.inr (1, [.ref tr, .ref xe, .ref nd, .ref tb, .ref wg, .ref ky, .ref pl]))) (h_no : V no = some (.inr (2, [.int (nI 11), .int na, .int nb, .int ps, .int pp, .int po, .int (nI e), .int (nI vv), .int st, .int fr, .int ln, .int dn, .int ag, .int gr]))) (h_xe : V xe = some (.inr (0, [.ref ak, .ref af, .ref as, .ref ap, .ref av, .int (nI ne)]))) (h_ak : V ak = some (.inl (cI, 30, .inl kd))) (h_af : V af = some (.inl (cI, 30, .inl fs))) (h_as : V as = some (.inl (cI, 30, .inl sc))) (h_ap : V ap = some (.inl (cI, 30, .inl pt))) (h_av : V av = some (.inl (cI, 30, .inl vl))) (h_a : V a = some (.inr (4, [.ref c, .int (nI n), .int tl, .int mk]))) (h_c : V c = some (.inl (cI, 486, .inl f))) (h_o : V o = some (.inr (4, [.ref oc, .int (nI 0), .int (nI 0), .int omk]))) (h_oc : V oc = some (.inl (cI, 486, .inl of))) (h_ky : V ky = some (.inl (cI, 80, .inl kf))) (h_pl : V pl = some (.inl (cI, 80, .inl pf))) (hX : ExR E ne kd fs sc pt) (hd : [ak, af, as, ap, av].Nodup) (hA : Tab A n f) (hoa : nq o a) (hca : nq oc c) (htl : tl = 0) (hky : nq ky pl) (he : e < ne) (hvv : vv < 6) : ct zl D [(cI, .int), (cN, .object "AlgebraTree$Node"), (cR, .object "AlgebraTree$Rows")] base yX1_makeOverOne cX1_makeOverOne 4 none 4 0 0 [.ref mo, .ref no, .ref a, .ref o] V (fun zv zV => ∃ vl1 : Nat → Int32, ∃ kf1 : Nat → Int32, ∃ pf1 : Nat → Int32, ∃ n1 : Nat, ∃ tl1 : Int32, ∃ f1 : Nat → Int32, zv = none ∧ zV = gv_up (gv_up (gv_up (gv_up (gv_up V av (.inl (cI, 30, .inl vl1))) ky (.inl (cI, 80, .inl kf1))) pl (.inl (cI, 80, .inl pf1))) oc (.inl (cI, 486, .inl f1))) o (.inr (4, [.ref oc, .int (nI n1), .int tl1, .int omk])) ∧ (TRep (cap (groupL st ag vv (fun x => ev E x e) A)) n1 tl1 f1)) := by
  refine ct_of "AlgebraTree$Maker" rfl (by decide) (Nat.le_of_ble_eq_true rfl) ?_
  intro zp ze zs zm zargs zbelow zmeth zc C zr zlk znm
  refine k_pc (pc' := 0) (st' := []) rfl rfl ?_
  show K zp zl ze (gv_rm 4 0 0) zs zm zargs zbelow zmeth zc D base 4 (gv_E D [(cI, .int), (cN, .object "AlgebraTree$Node"), (cR, .object "AlgebraTree$Rows")] base zbelow zargs zs 0 0 (fun zv zV => ∃ vl1 : Nat → Int32, ∃ kf1 : Nat → Int32, ∃ pf1 : Nat → Int32, ∃ n1 : Nat, ∃ tl1 : Int32, ∃ f1 : Nat → Int32, zv = none ∧ zV = gv_up (gv_up (gv_up (gv_up (gv_up V av (.inl (cI, 30, .inl vl1))) ky (.inl (cI, 80, .inl kf1))) pl (.inl (cI, 80, .inl pf1))) oc (.inl (cI, 486, .inl f1))) o (.inr (4, [.ref oc, .int (nI n1), .int tl1, .int omk])) ∧ (TRep (cap (groupL st ag vv (fun x => ev E x e) A)) n1 tl1 f1))) V 0 0 [(0, .ref mo), (1, .ref no), (2, .ref a), (3, .ref o)] 0 []
  refine k_aload_n C dX1_makeOverOne_0 rfl 2 rfl ?_
  refine k_get (ci := 4) (k := 2) C fl_1_109 h_a rfl dX1_makeOverOne_1 ?_
  refine k_if_eq (tgt := 13) C dX1_makeOverOne_4 (by decide) (fun c4 => ?_) (fun c4 => ?_)
  · skip
    refine k_aload_n C dX1_makeOverOne_13 rfl 1 rfl ?_
    refine k_get (ci := 2) (k := 0) C fl_1_77 h_no rfl dX1_makeOverOne_14 ?_
    have sw17 : 11 = 11 := rfl
    refine k_val (y := nI 11) (by rw [sw17]) ?_
    refine k_tableIn (tgt := 124) C dX1_makeOverOne_17 (by decide) (by decide) rfl (by decide) ?_
    refine k_aload_n C dX1_makeOverOne_124 rfl 0 rfl ?_
    refine k_aload_n C dX1_makeOverOne_125 rfl 1 rfl ?_
    refine k_aload_n C dX1_makeOverOne_126 rfl 2 rfl ?_
    refine k_callV C mv_1_129 (c_X1_makeKeys  h_mo h_no h_xe h_ak h_af h_as h_ap h_av h_a h_c h_ky (by first | assumption | omega) (by first | assumption | omega) (by first | assumption | omega) (by first | assumption | omega)) h_mo rfl rfl (by simp [Value.category]) ⟨by decide, by decide⟩ ⟨(by decide), (by decide)⟩ dX1_makeOverOne_127 (fun zv zV zh => ?_)
    obtain ⟨vl1_w1, kf1_w1, rfl, rfl, hkf_w1⟩ := zh
    refine k_pc (pc' := 130) (st' := []) rfl rfl ?_
    refine k_aload_n C dX1_makeOverOne_130 rfl 2 rfl ?_
    refine k_aload_n C dX1_makeOverOne_131 rfl 1 rfl ?_
    have ne2 : nq no av := gv_ne h_av h_no (by simp)
    have ne3 : nq no ky := gv_ne h_ky h_no (by simp)
    refine k_get (ci := 2) (k := 8) C fl_1_135 ((gv_up_n ne3).trans ((gv_up_n ne2).trans h_no)) rfl dX1_makeOverOne_132 ?_
    refine k_aload_n C dX1_makeOverOne_135 rfl 3 rfl ?_
    have ne4 : nq a av := gv_ne h_av h_a (by simp)
    have ne5 : nq a ky := gv_ne h_ky h_a (by simp)
    have ne6 : nq c av := gv_ne h_av h_c (by simp)
    have ne7 : nq c ky := gv_ne h_ky h_c (by simp)
    have ne8 : nq o av := gv_ne h_av h_o (by simp)
    have ne9 : nq o ky := gv_ne h_ky h_o (by simp)
    have ne10 : nq oc av := gv_ne h_av h_oc (by simp)
    have ne11 : nq oc ky := gv_ne h_ky h_oc (by simp)
    refine k_callS C ms_1_122 (c_X1_makeDistinct  ((gv_up_n ne5).trans ((gv_up_n ne4).trans h_a)) ((gv_up_n ne7).trans ((gv_up_n ne6).trans h_c)) ((gv_up_n ne9).trans ((gv_up_n ne8).trans h_o)) ((gv_up_n ne11).trans ((gv_up_n ne10).trans h_oc)) (by first | assumption | omega) hoa hca) rfl rfl (by simp [Value.category]) ⟨by decide, by decide⟩ ⟨(by decide), (by decide)⟩ dX1_makeOverOne_136 (fun zv zV zh => ?_)
    obtain ⟨n1_w12, tl1_w12, f1_w12, rfl, rfl, hr1_w12⟩ := zh
    refine k_pc (pc' := 139) (st' := []) rfl rfl ?_
    refine k_aload_n C dX1_makeOverOne_139 rfl 0 rfl ?_
    refine k_aload_n C dX1_makeOverOne_140 rfl 1 rfl ?_
    refine k_aload_n C dX1_makeOverOne_141 rfl 2 rfl ?_
    refine k_aload_n C dX1_makeOverOne_142 rfl 3 rfl ?_
    have ne13 : nq mo av := gv_ne h_av h_mo (by simp)
    have ne14 : nq mo ky := gv_ne h_ky h_mo (by simp)
    have ne15 : nq mo oc := gv_ne h_oc h_mo (by simp)
    have ne16 : nq mo o := gv_ne h_o h_mo (by simp)
    have ne17 : nq no oc := gv_ne h_oc h_no (by simp)
    have ne18 : nq no o := gv_ne h_o h_no (by simp)
    have ne19 : nq a oc := gv_ne h_oc h_a (by simp)
    have ne20 : nq c o := gv_ne h_o h_c (by simp)
    have ne21 : nq oc o := gv_ne h_o h_oc (by simp)
    refine k_callV C mv_1_138 (c_X1_makeAggregates (kk := fun x => ev E x e) ((gv_up_n ne16).trans ((gv_up_n ne15).trans ((gv_up_n ne14).trans ((gv_up_n ne13).trans h_mo)))) ((gv_up_n ne18).trans ((gv_up_n ne17).trans ((gv_up_n ne3).trans ((gv_up_n ne2).trans h_no)))) ((gv_up_n (Ne.symm hoa)).trans ((gv_up_n ne19).trans ((gv_up_n ne5).trans ((gv_up_n ne4).trans h_a)))) ((gv_up_n ne20).trans ((gv_up_n (Ne.symm hca)).trans ((gv_up_n ne7).trans ((gv_up_n ne6).trans h_c)))) gv_up_s ((gv_up_n ne21).trans gv_up_s) ((gv_up_n (Ne.symm ne9)).trans ((gv_up_n (Ne.symm ne11)).trans gv_up_s)) (by first | assumption | omega) hr1_w12 hkf_w1 (by first | assumption | omega) hoa hca) ((gv_up_n ne16).trans ((gv_up_n ne15).trans ((gv_up_n ne14).trans ((gv_up_n ne13).trans h_mo)))) rfl rfl (by simp [Value.category]) ⟨by decide, by decide⟩ ⟨(by decide), (by decide)⟩ dX1_makeOverOne_143 (fun zv zV zh => ?_)
    obtain ⟨n2_w22, tl2_w22, f2_w22, rfl, rfl, hr2_w22⟩ := zh
    refine k_pc (pc' := 146) (st' := []) rfl rfl ?_
    refine k_view (V1 := gv_up (gv_up (gv_up (gv_up (gv_up V av (.inl (cI, 30, .inl vl1_w1))) ky (.inl (cI, 80, .inl kf1_w1))) oc (.inl (cI, 486, .inl f2_w22))) o (.inr (4, [.ref oc, .int (nI n1_w12), .int tl1_w12, .int omk]))) o (.inr (4, [.ref oc, .int (nI n2_w22), .int tl2_w22, .int omk]))) (congrArg (fun W => gv_up W o (.inr (4, [.ref oc, .int (nI n2_w22), .int tl2_w22, .int omk]))) ((gv_uc ne21).trans (congrArg (fun W => gv_up W o (.inr (4, [.ref oc, .int (nI n1_w12), .int tl1_w12, .int omk]))) gv_uu))) ?_
    refine k_view (V1 := gv_up (gv_up (gv_up (gv_up V av (.inl (cI, 30, .inl vl1_w1))) ky (.inl (cI, 80, .inl kf1_w1))) oc (.inl (cI, 486, .inl f2_w22))) o (.inr (4, [.ref oc, .int (nI n2_w22), .int tl2_w22, .int omk]))) gv_uu ?_
    refine k_goto (tgt := 154) C dX1_makeOverOne_146 (by decide) ?_
    have ne23 : nq pl av := gv_ne h_av h_pl (by simp)
    have ne24 : nq pl oc := gv_ne h_oc h_pl (by simp)
    have ne25 : nq pl o := gv_ne h_o h_pl (by simp)
    refine k_view (V1 := gv_up (gv_up (gv_up (gv_up (gv_up V av (.inl (cI, 30, .inl vl1_w1))) ky (.inl (cI, 80, .inl kf1_w1))) oc (.inl (cI, 486, .inl f2_w22))) o (.inr (4, [.ref oc, .int (nI n2_w22), .int tl2_w22, .int omk]))) pl (.inl (cI, 80, .inl pf))) (gv_id ((gv_up_n ne25).trans ((gv_up_n ne24).trans ((gv_up_n (Ne.symm hky)).trans ((gv_up_n ne23).trans h_pl))))).symm ?_
    refine k_view (V1 := gv_up (gv_up (gv_up (gv_up (gv_up V av (.inl (cI, 30, .inl vl1_w1))) ky (.inl (cI, 80, .inl kf1_w1))) oc (.inl (cI, 486, .inl f2_w22))) pl (.inl (cI, 80, .inl pf))) o (.inr (4, [.ref oc, .int (nI n2_w22), .int tl2_w22, .int omk]))) (gv_uc ne25) ?_
    refine k_view (V1 := gv_up (gv_up (gv_up (gv_up (gv_up V av (.inl (cI, 30, .inl vl1_w1))) ky (.inl (cI, 80, .inl kf1_w1))) pl (.inl (cI, 80, .inl pf))) oc (.inl (cI, 486, .inl f2_w22))) o (.inr (4, [.ref oc, .int (nI n2_w22), .int tl2_w22, .int omk]))) (congrArg (fun W => gv_up W o (.inr (4, [.ref oc, .int (nI n2_w22), .int tl2_w22, .int omk]))) (gv_uc ne24)) ?_
    exact k_vret C zr zlk ⟨vl1_w1, kf1_w1, pf, n2_w22, tl2_w22, f2_w22, rfl, rfl, hr2_w22.tr⟩ (Nat.le_refl _) (Nat.le_refl _) dX1_makeOverOne_154
  · skip
    exact absurd htl c4
set_option maxHeartbeats 4000000 in
set_option maxRecDepth 100000 in
theorem c_over12 {zl : Launch} {D : va_G} {cI cN cR : ClassId} {base : Nat} {V : gv_V} {mo tr nd tb wg ky pl : Nat} {no : Nat} {na nb ps pp po ex va st fr ln dn ag gr : Int32} {xe ak af as ap av ne : Nat} {kd fs sc pt vl : Nat → Int32} {a c n : Nat} {tl mk : Int32} {f : Nat → Int32} {o oc : Nat} {omk : Int32} {of : Nat → Int32} {kf pf : Nat → Int32} {A : List Row} {E : Nat → Ex}  (h_mo : V mo = some (.inr (1, [.ref tr, .ref xe, .ref nd, .ref tb, .ref wg, .ref ky, .ref pl]))) (h_no : V no = some (.inr (2, [.int (nI 12), .int na, .int nb, .int ps, .int pp, .int po, .int ex, .int va, .int st, .int fr, .int ln, .int dn, .int ag, .int gr]))) (h_xe : V xe = some (.inr (0, [.ref ak, .ref af, .ref as, .ref ap, .ref av, .int (nI ne)]))) (h_ak : V ak = some (.inl (cI, 30, .inl kd))) (h_af : V af = some (.inl (cI, 30, .inl fs))) (h_as : V as = some (.inl (cI, 30, .inl sc))) (h_ap : V ap = some (.inl (cI, 30, .inl pt))) (h_av : V av = some (.inl (cI, 30, .inl vl))) (h_a : V a = some (.inr (4, [.ref c, .int (nI n), .int tl, .int mk]))) (h_c : V c = some (.inl (cI, 486, .inl f))) (h_o : V o = some (.inr (4, [.ref oc, .int (nI 0), .int (nI 0), .int omk]))) (h_oc : V oc = some (.inl (cI, 486, .inl of))) (h_ky : V ky = some (.inl (cI, 80, .inl kf))) (h_pl : V pl = some (.inl (cI, 80, .inl pf))) (hX : ExR E ne kd fs sc pt) (hd : [ak, af, as, ap, av].Nodup) (hA : Tab A n f) (hoa : nq o a) (hca : nq oc c) (htl : tl = 0) (hky : nq ky pl) : ct zl D [(cI, .int), (cN, .object "AlgebraTree$Node"), (cR, .object "AlgebraTree$Rows")] base yX1_makeOverOne cX1_makeOverOne 4 none 4 0 0 [.ref mo, .ref no, .ref a, .ref o] V (fun zv zV => ∃ vl1 : Nat → Int32, ∃ kf1 : Nat → Int32, ∃ pf1 : Nat → Int32, ∃ n1 : Nat, ∃ tl1 : Int32, ∃ f1 : Nat → Int32, zv = none ∧ zV = gv_up (gv_up (gv_up (gv_up (gv_up V av (.inl (cI, 30, .inl vl1))) ky (.inl (cI, 80, .inl kf1))) pl (.inl (cI, 80, .inl pf1))) oc (.inl (cI, 486, .inl f1))) o (.inr (4, [.ref oc, .int (nI n1), .int tl1, .int omk])) ∧ (TRep (cap (A)) n1 tl1 f1)) := by
  refine ct_of "AlgebraTree$Maker" rfl (by decide) (Nat.le_of_ble_eq_true rfl) ?_
  intro zp ze zs zm zargs zbelow zmeth zc C zr zlk znm
  refine k_pc (pc' := 0) (st' := []) rfl rfl ?_
  show K zp zl ze (gv_rm 4 0 0) zs zm zargs zbelow zmeth zc D base 4 (gv_E D [(cI, .int), (cN, .object "AlgebraTree$Node"), (cR, .object "AlgebraTree$Rows")] base zbelow zargs zs 0 0 (fun zv zV => ∃ vl1 : Nat → Int32, ∃ kf1 : Nat → Int32, ∃ pf1 : Nat → Int32, ∃ n1 : Nat, ∃ tl1 : Int32, ∃ f1 : Nat → Int32, zv = none ∧ zV = gv_up (gv_up (gv_up (gv_up (gv_up V av (.inl (cI, 30, .inl vl1))) ky (.inl (cI, 80, .inl kf1))) pl (.inl (cI, 80, .inl pf1))) oc (.inl (cI, 486, .inl f1))) o (.inr (4, [.ref oc, .int (nI n1), .int tl1, .int omk])) ∧ (TRep (cap (A)) n1 tl1 f1))) V 0 0 [(0, .ref mo), (1, .ref no), (2, .ref a), (3, .ref o)] 0 []
  refine k_aload_n C dX1_makeOverOne_0 rfl 2 rfl ?_
  refine k_get (ci := 4) (k := 2) C fl_1_109 h_a rfl dX1_makeOverOne_1 ?_
  refine k_if_eq (tgt := 13) C dX1_makeOverOne_4 (by decide) (fun c4 => ?_) (fun c4 => ?_)
  · skip
    refine k_aload_n C dX1_makeOverOne_13 rfl 1 rfl ?_
    refine k_get (ci := 2) (k := 0) C fl_1_77 h_no rfl dX1_makeOverOne_14 ?_
    have sw17 : 12 = 12 := rfl
    refine k_val (y := nI 12) (by rw [sw17]) ?_
    refine k_tableOut (tgt := 149) C dX1_makeOverOne_17 (by decide) (by decide) ?_
    refine k_aload_n C dX1_makeOverOne_149 rfl 3 rfl ?_
    refine k_aload_n C dX1_makeOverOne_150 rfl 2 rfl ?_
    refine k_callV C mv_1_141 (c_X4_addAll  h_o h_oc h_a h_c Rep.nil hA hca hoa) h_o rfl rfl (by simp [Value.category]) ⟨by decide, by decide⟩ ⟨(by decide), (by decide)⟩ dX1_makeOverOne_151 (fun zv zV zh => ?_)
    obtain ⟨n1_w1, tl1_w1, f1_w1, rfl, rfl, hr1_w1⟩ := zh
    refine k_pc (pc' := 154) (st' := []) rfl rfl ?_
    have ne2 : nq av oc := gv_ne h_oc h_av (by simp)
    have ne3 : nq av o := gv_ne h_o h_av (by simp)
    refine k_view (V1 := gv_up (gv_up (gv_up V oc (.inl (cI, 486, .inl f1_w1))) o (.inr (4, [.ref oc, .int (nI n1_w1), .int tl1_w1, .int omk]))) av (.inl (cI, 30, .inl vl))) (gv_id ((gv_up_n ne3).trans ((gv_up_n ne2).trans h_av))).symm ?_
    have ne4 : nq ky oc := gv_ne h_oc h_ky (by simp)
    have ne5 : nq ky o := gv_ne h_o h_ky (by simp)
    have ne6 : nq ky av := gv_ne h_av h_ky (by simp)
    refine k_view (V1 := gv_up (gv_up (gv_up (gv_up V oc (.inl (cI, 486, .inl f1_w1))) o (.inr (4, [.ref oc, .int (nI n1_w1), .int tl1_w1, .int omk]))) av (.inl (cI, 30, .inl vl))) ky (.inl (cI, 80, .inl kf))) (gv_id ((gv_up_n ne6).trans ((gv_up_n ne5).trans ((gv_up_n ne4).trans h_ky)))).symm ?_
    have ne7 : nq pl oc := gv_ne h_oc h_pl (by simp)
    have ne8 : nq pl o := gv_ne h_o h_pl (by simp)
    have ne9 : nq pl av := gv_ne h_av h_pl (by simp)
    refine k_view (V1 := gv_up (gv_up (gv_up (gv_up (gv_up V oc (.inl (cI, 486, .inl f1_w1))) o (.inr (4, [.ref oc, .int (nI n1_w1), .int tl1_w1, .int omk]))) av (.inl (cI, 30, .inl vl))) ky (.inl (cI, 80, .inl kf))) pl (.inl (cI, 80, .inl pf))) (gv_id ((gv_up_n (Ne.symm hky)).trans ((gv_up_n ne9).trans ((gv_up_n ne8).trans ((gv_up_n ne7).trans h_pl))))).symm ?_
    refine k_view (V1 := gv_up (gv_up (gv_up (gv_up (gv_up V oc (.inl (cI, 486, .inl f1_w1))) av (.inl (cI, 30, .inl vl))) o (.inr (4, [.ref oc, .int (nI n1_w1), .int tl1_w1, .int omk]))) ky (.inl (cI, 80, .inl kf))) pl (.inl (cI, 80, .inl pf))) (congrArg (fun W => gv_up W pl (.inl (cI, 80, .inl pf))) (congrArg (fun W => gv_up W ky (.inl (cI, 80, .inl kf))) (gv_uc ne3))) ?_
    refine k_view (V1 := gv_up (gv_up (gv_up (gv_up (gv_up V av (.inl (cI, 30, .inl vl))) oc (.inl (cI, 486, .inl f1_w1))) o (.inr (4, [.ref oc, .int (nI n1_w1), .int tl1_w1, .int omk]))) ky (.inl (cI, 80, .inl kf))) pl (.inl (cI, 80, .inl pf))) (congrArg (fun W => gv_up W pl (.inl (cI, 80, .inl pf))) (congrArg (fun W => gv_up W ky (.inl (cI, 80, .inl kf))) (congrArg (fun W => gv_up W o (.inr (4, [.ref oc, .int (nI n1_w1), .int tl1_w1, .int omk]))) (gv_uc ne2)))) ?_
    refine k_view (V1 := gv_up (gv_up (gv_up (gv_up (gv_up V av (.inl (cI, 30, .inl vl))) oc (.inl (cI, 486, .inl f1_w1))) ky (.inl (cI, 80, .inl kf))) o (.inr (4, [.ref oc, .int (nI n1_w1), .int tl1_w1, .int omk]))) pl (.inl (cI, 80, .inl pf))) (congrArg (fun W => gv_up W pl (.inl (cI, 80, .inl pf))) (gv_uc ne5)) ?_
    refine k_view (V1 := gv_up (gv_up (gv_up (gv_up (gv_up V av (.inl (cI, 30, .inl vl))) ky (.inl (cI, 80, .inl kf))) oc (.inl (cI, 486, .inl f1_w1))) o (.inr (4, [.ref oc, .int (nI n1_w1), .int tl1_w1, .int omk]))) pl (.inl (cI, 80, .inl pf))) (congrArg (fun W => gv_up W pl (.inl (cI, 80, .inl pf))) (congrArg (fun W => gv_up W o (.inr (4, [.ref oc, .int (nI n1_w1), .int tl1_w1, .int omk]))) (gv_uc ne4))) ?_
    refine k_view (V1 := gv_up (gv_up (gv_up (gv_up (gv_up V av (.inl (cI, 30, .inl vl))) ky (.inl (cI, 80, .inl kf))) oc (.inl (cI, 486, .inl f1_w1))) pl (.inl (cI, 80, .inl pf))) o (.inr (4, [.ref oc, .int (nI n1_w1), .int tl1_w1, .int omk]))) (gv_uc ne8) ?_
    refine k_view (V1 := gv_up (gv_up (gv_up (gv_up (gv_up V av (.inl (cI, 30, .inl vl))) ky (.inl (cI, 80, .inl kf))) pl (.inl (cI, 80, .inl pf))) oc (.inl (cI, 486, .inl f1_w1))) o (.inr (4, [.ref oc, .int (nI n1_w1), .int tl1_w1, .int omk]))) (congrArg (fun W => gv_up W o (.inr (4, [.ref oc, .int (nI n1_w1), .int tl1_w1, .int omk]))) (gv_uc ne7)) ?_
    exact k_vret C zr zlk ⟨vl, kf, pf, n1_w1, tl1_w1, f1_w1, rfl, rfl, (by have h := hr1_w1; simp only [List.nil_append] at h; exact h.tr)⟩ (Nat.le_refl _) (Nat.le_refl _) dX1_makeOverOne_154
  · skip
    exact absurd htl c4
set_option maxHeartbeats 4000000 in
set_option maxRecDepth 100000 in
theorem c_overL {zl : Launch} {D : va_G} {cI cN cR : ClassId} {base : Nat} {V : gv_V} {mo tr nd tb wg ky pl : Nat} {no : Nat} {kind na nb ps pp po ex va st fr ln dn ag gr : Int32} {xe ak af as ap av ne : Nat} {kd fs sc pt vl : Nat → Int32} {a c n : Nat} {tl mk : Int32} {f : Nat → Int32} {o oc : Nat} {omk : Int32} {of : Nat → Int32} {kf pf : Nat → Int32}  (h_mo : V mo = some (.inr (1, [.ref tr, .ref xe, .ref nd, .ref tb, .ref wg, .ref ky, .ref pl]))) (h_no : V no = some (.inr (2, [.int kind, .int na, .int nb, .int ps, .int pp, .int po, .int ex, .int va, .int st, .int fr, .int ln, .int dn, .int ag, .int gr]))) (h_xe : V xe = some (.inr (0, [.ref ak, .ref af, .ref as, .ref ap, .ref av, .int (nI ne)]))) (h_ak : V ak = some (.inl (cI, 30, .inl kd))) (h_af : V af = some (.inl (cI, 30, .inl fs))) (h_as : V as = some (.inl (cI, 30, .inl sc))) (h_ap : V ap = some (.inl (cI, 30, .inl pt))) (h_av : V av = some (.inl (cI, 30, .inl vl))) (h_a : V a = some (.inr (4, [.ref c, .int (nI n), .int tl, .int mk]))) (h_c : V c = some (.inl (cI, 486, .inl f))) (h_o : V o = some (.inr (4, [.ref oc, .int (nI 0), .int (nI 0), .int omk]))) (h_oc : V oc = some (.inl (cI, 486, .inl of))) (h_ky : V ky = some (.inl (cI, 80, .inl kf))) (h_pl : V pl = some (.inl (cI, 80, .inl pf))) (htl : ¬ tl = 0) (hd : [ak, af, as, ap, av].Nodup) (hoa : nq o a) (hca : nq oc c) (hky : nq ky pl) : ct zl D [(cI, .int), (cN, .object "AlgebraTree$Node"), (cR, .object "AlgebraTree$Rows")] base yX1_makeOverOne cX1_makeOverOne 4 none 4 0 0 [.ref mo, .ref no, .ref a, .ref o] V (fun zv zV => ∃ vl1 : Nat → Int32, ∃ kf1 : Nat → Int32, ∃ pf1 : Nat → Int32, ∃ n1 : Nat, ∃ tl1 : Int32, ∃ f1 : Nat → Int32, zv = none ∧ zV = gv_up (gv_up (gv_up (gv_up (gv_up V av (.inl (cI, 30, .inl vl1))) ky (.inl (cI, 80, .inl kf1))) pl (.inl (cI, 80, .inl pf1))) oc (.inl (cI, 486, .inl f1))) o (.inr (4, [.ref oc, .int (nI n1), .int tl1, .int omk])) ∧ (¬ tl1 = 0)) := by
  refine ct_of "AlgebraTree$Maker" rfl (by decide) (Nat.le_of_ble_eq_true rfl) ?_
  intro zp ze zs zm zargs zbelow zmeth zc C zr zlk znm
  refine k_pc (pc' := 0) (st' := []) rfl rfl ?_
  show K zp zl ze (gv_rm 4 0 0) zs zm zargs zbelow zmeth zc D base 4 (gv_E D [(cI, .int), (cN, .object "AlgebraTree$Node"), (cR, .object "AlgebraTree$Rows")] base zbelow zargs zs 0 0 (fun zv zV => ∃ vl1 : Nat → Int32, ∃ kf1 : Nat → Int32, ∃ pf1 : Nat → Int32, ∃ n1 : Nat, ∃ tl1 : Int32, ∃ f1 : Nat → Int32, zv = none ∧ zV = gv_up (gv_up (gv_up (gv_up (gv_up V av (.inl (cI, 30, .inl vl1))) ky (.inl (cI, 80, .inl kf1))) pl (.inl (cI, 80, .inl pf1))) oc (.inl (cI, 486, .inl f1))) o (.inr (4, [.ref oc, .int (nI n1), .int tl1, .int omk])) ∧ (¬ tl1 = 0))) V 0 0 [(0, .ref mo), (1, .ref no), (2, .ref a), (3, .ref o)] 0 []
  refine k_aload_n C dX1_makeOverOne_0 rfl 2 rfl ?_
  refine k_get (ci := 4) (k := 2) C fl_1_109 h_a rfl dX1_makeOverOne_1 ?_
  refine k_if_eq (tgt := 13) C dX1_makeOverOne_4 (by decide) (fun c4 => ?_) (fun c4 => ?_)
  · skip
    exact absurd c4 htl
  · skip
    refine k_aload_n C dX1_makeOverOne_7 rfl 3 rfl ?_
    refine k_iconst (v := nI 1) C dX1_makeOverOne_8 rfl ?_
    refine k_put (ci := 4) (k := 2) (fs' := [.ref oc, .int (nI 0), .int (nI 1), .int omk]) C fl_1_109 pf_4_2 h_o rfl rfl (Nat.le_of_ble_eq_true rfl) rfl dX1_makeOverOne_9 ?_
    have ne1 : nq av o := gv_ne h_o h_av (by simp)
    refine k_view (V1 := gv_up (gv_up V o (.inr (4, [.ref oc, .int (nI 0), .int (nI 1), .int omk]))) av (.inl (cI, 30, .inl vl))) (gv_id ((gv_up_n ne1).trans h_av)).symm ?_
    have ne2 : nq ky o := gv_ne h_o h_ky (by simp)
    have ne3 : nq ky av := gv_ne h_av h_ky (by simp)
    refine k_view (V1 := gv_up (gv_up (gv_up V o (.inr (4, [.ref oc, .int (nI 0), .int (nI 1), .int omk]))) av (.inl (cI, 30, .inl vl))) ky (.inl (cI, 80, .inl kf))) (gv_id ((gv_up_n ne3).trans ((gv_up_n ne2).trans h_ky))).symm ?_
    have ne4 : nq pl o := gv_ne h_o h_pl (by simp)
    have ne5 : nq pl av := gv_ne h_av h_pl (by simp)
    refine k_view (V1 := gv_up (gv_up (gv_up (gv_up V o (.inr (4, [.ref oc, .int (nI 0), .int (nI 1), .int omk]))) av (.inl (cI, 30, .inl vl))) ky (.inl (cI, 80, .inl kf))) pl (.inl (cI, 80, .inl pf))) (gv_id ((gv_up_n (Ne.symm hky)).trans ((gv_up_n ne5).trans ((gv_up_n ne4).trans h_pl)))).symm ?_
    have ne6 : nq oc o := gv_ne h_o h_oc (by simp)
    have ne7 : nq oc av := gv_ne h_av h_oc (by simp)
    have ne8 : nq oc ky := gv_ne h_ky h_oc (by simp)
    have ne9 : nq oc pl := gv_ne h_pl h_oc (by simp)
    refine k_view (V1 := gv_up (gv_up (gv_up (gv_up (gv_up V o (.inr (4, [.ref oc, .int (nI 0), .int (nI 1), .int omk]))) av (.inl (cI, 30, .inl vl))) ky (.inl (cI, 80, .inl kf))) pl (.inl (cI, 80, .inl pf))) oc (.inl (cI, 486, .inl of))) (gv_id ((gv_up_n ne9).trans ((gv_up_n ne8).trans ((gv_up_n ne7).trans ((gv_up_n ne6).trans h_oc))))).symm ?_
    refine k_view (V1 := gv_up (gv_up (gv_up (gv_up (gv_up V av (.inl (cI, 30, .inl vl))) o (.inr (4, [.ref oc, .int (nI 0), .int (nI 1), .int omk]))) ky (.inl (cI, 80, .inl kf))) pl (.inl (cI, 80, .inl pf))) oc (.inl (cI, 486, .inl of))) (congrArg (fun W => gv_up W oc (.inl (cI, 486, .inl of))) (congrArg (fun W => gv_up W pl (.inl (cI, 80, .inl pf))) (congrArg (fun W => gv_up W ky (.inl (cI, 80, .inl kf))) (gv_uc ne1)))) ?_
    refine k_view (V1 := gv_up (gv_up (gv_up (gv_up (gv_up V av (.inl (cI, 30, .inl vl))) ky (.inl (cI, 80, .inl kf))) o (.inr (4, [.ref oc, .int (nI 0), .int (nI 1), .int omk]))) pl (.inl (cI, 80, .inl pf))) oc (.inl (cI, 486, .inl of))) (congrArg (fun W => gv_up W oc (.inl (cI, 486, .inl of))) (congrArg (fun W => gv_up W pl (.inl (cI, 80, .inl pf))) (gv_uc ne2))) ?_
    refine k_view (V1 := gv_up (gv_up (gv_up (gv_up (gv_up V av (.inl (cI, 30, .inl vl))) ky (.inl (cI, 80, .inl kf))) pl (.inl (cI, 80, .inl pf))) o (.inr (4, [.ref oc, .int (nI 0), .int (nI 1), .int omk]))) oc (.inl (cI, 486, .inl of))) (congrArg (fun W => gv_up W oc (.inl (cI, 486, .inl of))) (gv_uc ne4)) ?_
    refine k_view (V1 := gv_up (gv_up (gv_up (gv_up (gv_up V av (.inl (cI, 30, .inl vl))) ky (.inl (cI, 80, .inl kf))) pl (.inl (cI, 80, .inl pf))) oc (.inl (cI, 486, .inl of))) o (.inr (4, [.ref oc, .int (nI 0), .int (nI 1), .int omk]))) (gv_uc ne6) ?_
    exact k_vret C zr zlk ⟨vl, kf, pf, 0, nI 1, of, rfl, rfl, (by decide)⟩ (Nat.le_refl _) (Nat.le_refl _) dX1_makeOverOne_12
set_option maxHeartbeats 4000000 in
set_option maxRecDepth 100000 in
theorem c_over1 {zl : Launch} {D : va_G} {cI cN cR : ClassId} {base : Nat} {V : gv_V} {mo tr nd tb wg ky pl : Nat} {no : Nat} {na nb ps pp po ex va st fr ln dn ag gr : Int32} {xe ak af as ap av ne : Nat} {kd fs sc pt vl : Nat → Int32} {a c n : Nat} {tl mk : Int32} {f : Nat → Int32} {b c2 n2 : Nat} {tl2 mk2 : Int32} {g : Nat → Int32} {o oc : Nat} {omk : Int32} {of : Nat → Int32} {kf pf : Nat → Int32} {A B : List Row} {E : Nat → Ex}  (h_mo : V mo = some (.inr (1, [.ref tr, .ref xe, .ref nd, .ref tb, .ref wg, .ref ky, .ref pl]))) (h_no : V no = some (.inr (2, [.int (nI 1), .int na, .int nb, .int ps, .int pp, .int po, .int ex, .int va, .int st, .int fr, .int ln, .int dn, .int ag, .int gr]))) (h_xe : V xe = some (.inr (0, [.ref ak, .ref af, .ref as, .ref ap, .ref av, .int (nI ne)]))) (h_ak : V ak = some (.inl (cI, 30, .inl kd))) (h_af : V af = some (.inl (cI, 30, .inl fs))) (h_as : V as = some (.inl (cI, 30, .inl sc))) (h_ap : V ap = some (.inl (cI, 30, .inl pt))) (h_av : V av = some (.inl (cI, 30, .inl vl))) (h_a : V a = some (.inr (4, [.ref c, .int (nI n), .int tl, .int mk]))) (h_c : V c = some (.inl (cI, 486, .inl f))) (h_b : V b = some (.inr (4, [.ref c2, .int (nI n2), .int tl2, .int mk2]))) (h_c2 : V c2 = some (.inl (cI, 486, .inl g))) (h_o : V o = some (.inr (4, [.ref oc, .int (nI 0), .int (nI 0), .int omk]))) (h_oc : V oc = some (.inl (cI, 486, .inl of))) (h_ky : V ky = some (.inl (cI, 80, .inl kf))) (h_pl : V pl = some (.inl (cI, 80, .inl pf))) (hX : ExR E ne kd fs sc pt) (hd : [ak, af, as, ap, av].Nodup) (hA : Tab A n f) (hoa : nq o a) (hca : nq oc c) (hB : Tab B n2 g) (hob : nq o b) (hcb : nq oc c2) (htl : tl = 0) (htl2 : tl2 = 0) (hky : nq ky pl) : ct zl D [(cI, .int), (cN, .object "AlgebraTree$Node"), (cR, .object "AlgebraTree$Rows")] base yX1_makeOverTwo cX1_makeOverTwo 5 none 4 0 0 [.ref mo, .ref no, .ref a, .ref b, .ref o] V (fun zv zV => ∃ vl1 : Nat → Int32, ∃ kf1 : Nat → Int32, ∃ pf1 : Nat → Int32, ∃ n1 : Nat, ∃ tl1 : Int32, ∃ f1 : Nat → Int32, zv = none ∧ zV = gv_up (gv_up (gv_up (gv_up (gv_up V av (.inl (cI, 30, .inl vl1))) ky (.inl (cI, 80, .inl kf1))) pl (.inl (cI, 80, .inl pf1))) oc (.inl (cI, 486, .inl f1))) o (.inr (4, [.ref oc, .int (nI n1), .int tl1, .int omk])) ∧ (TRep (cap (joinL A B)) n1 tl1 f1)) := by
  refine ct_of "AlgebraTree$Maker" rfl (by decide) (Nat.le_of_ble_eq_true rfl) ?_
  intro zp ze zs zm zargs zbelow zmeth zc C zr zlk znm
  refine k_pc (pc' := 0) (st' := []) rfl rfl ?_
  show K zp zl ze (gv_rm 4 0 0) zs zm zargs zbelow zmeth zc D base 5 (gv_E D [(cI, .int), (cN, .object "AlgebraTree$Node"), (cR, .object "AlgebraTree$Rows")] base zbelow zargs zs 0 0 (fun zv zV => ∃ vl1 : Nat → Int32, ∃ kf1 : Nat → Int32, ∃ pf1 : Nat → Int32, ∃ n1 : Nat, ∃ tl1 : Int32, ∃ f1 : Nat → Int32, zv = none ∧ zV = gv_up (gv_up (gv_up (gv_up (gv_up V av (.inl (cI, 30, .inl vl1))) ky (.inl (cI, 80, .inl kf1))) pl (.inl (cI, 80, .inl pf1))) oc (.inl (cI, 486, .inl f1))) o (.inr (4, [.ref oc, .int (nI n1), .int tl1, .int omk])) ∧ (TRep (cap (joinL A B)) n1 tl1 f1))) V 0 0 [(0, .ref mo), (1, .ref no), (2, .ref a), (3, .ref b), (4, .ref o)] 0 []
  refine k_aload_n C dX1_makeOverTwo_0 rfl 2 rfl ?_
  refine k_get (ci := 4) (k := 2) C fl_1_109 h_a rfl dX1_makeOverTwo_1 ?_
  refine k_if_ne (tgt := 14) C dX1_makeOverTwo_4 (by decide) (fun c4 => ?_) (fun c4 => ?_)
  · skip
    exact absurd htl c4
  · skip
    refine k_aload_n C dX1_makeOverTwo_7 rfl 3 rfl ?_
    refine k_get (ci := 4) (k := 2) C fl_1_109 h_b rfl dX1_makeOverTwo_8 ?_
    refine k_if_eq (tgt := 21) C dX1_makeOverTwo_11 (by decide) (fun c11 => ?_) (fun c11 => ?_)
    · skip
      refine k_aload_n C dX1_makeOverTwo_21 rfl 1 rfl ?_
      refine k_get (ci := 2) (k := 0) C fl_1_77 h_no rfl dX1_makeOverTwo_22 ?_
      have sw25 : 1 = 1 := rfl
      refine k_val (y := nI 1) (by rw [sw25]) ?_
      refine k_tableIn (tgt := 52) C dX1_makeOverTwo_25 (by decide) (by decide) rfl (by decide) ?_
      refine k_aload_n C dX1_makeOverTwo_52 rfl 2 rfl ?_
      refine k_aload_n C dX1_makeOverTwo_53 rfl 3 rfl ?_
      refine k_aload C dX1_makeOverTwo_54 4 rfl ?_
      refine k_callS C ms_1_145 (c_X1_makeJoin  h_a h_c h_b h_c2 h_o h_oc (by first | assumption | omega) hoa hca (by first | assumption | omega) hob hcb) rfl rfl (by simp [Value.category]) ⟨by decide, by decide⟩ ⟨(by decide), (by decide)⟩ dX1_makeOverTwo_56 (fun zv zV zh => ?_)
      obtain ⟨n1_w1, tl1_w1, f1_w1, rfl, rfl, hr1_w1⟩ := zh
      refine k_pc (pc' := 59) (st' := []) rfl rfl ?_
      refine k_goto (tgt := 96) C dX1_makeOverTwo_59 (by decide) ?_
      have ne2 : nq av oc := gv_ne h_oc h_av (by simp)
      have ne3 : nq av o := gv_ne h_o h_av (by simp)
      refine k_view (V1 := gv_up (gv_up (gv_up V oc (.inl (cI, 486, .inl f1_w1))) o (.inr (4, [.ref oc, .int (nI n1_w1), .int tl1_w1, .int omk]))) av (.inl (cI, 30, .inl vl))) (gv_id ((gv_up_n ne3).trans ((gv_up_n ne2).trans h_av))).symm ?_
      have ne4 : nq ky oc := gv_ne h_oc h_ky (by simp)
      have ne5 : nq ky o := gv_ne h_o h_ky (by simp)
      have ne6 : nq ky av := gv_ne h_av h_ky (by simp)
      refine k_view (V1 := gv_up (gv_up (gv_up (gv_up V oc (.inl (cI, 486, .inl f1_w1))) o (.inr (4, [.ref oc, .int (nI n1_w1), .int tl1_w1, .int omk]))) av (.inl (cI, 30, .inl vl))) ky (.inl (cI, 80, .inl kf))) (gv_id ((gv_up_n ne6).trans ((gv_up_n ne5).trans ((gv_up_n ne4).trans h_ky)))).symm ?_
      have ne7 : nq pl oc := gv_ne h_oc h_pl (by simp)
      have ne8 : nq pl o := gv_ne h_o h_pl (by simp)
      have ne9 : nq pl av := gv_ne h_av h_pl (by simp)
      refine k_view (V1 := gv_up (gv_up (gv_up (gv_up (gv_up V oc (.inl (cI, 486, .inl f1_w1))) o (.inr (4, [.ref oc, .int (nI n1_w1), .int tl1_w1, .int omk]))) av (.inl (cI, 30, .inl vl))) ky (.inl (cI, 80, .inl kf))) pl (.inl (cI, 80, .inl pf))) (gv_id ((gv_up_n (Ne.symm hky)).trans ((gv_up_n ne9).trans ((gv_up_n ne8).trans ((gv_up_n ne7).trans h_pl))))).symm ?_
      refine k_view (V1 := gv_up (gv_up (gv_up (gv_up (gv_up V oc (.inl (cI, 486, .inl f1_w1))) av (.inl (cI, 30, .inl vl))) o (.inr (4, [.ref oc, .int (nI n1_w1), .int tl1_w1, .int omk]))) ky (.inl (cI, 80, .inl kf))) pl (.inl (cI, 80, .inl pf))) (congrArg (fun W => gv_up W pl (.inl (cI, 80, .inl pf))) (congrArg (fun W => gv_up W ky (.inl (cI, 80, .inl kf))) (gv_uc ne3))) ?_
      refine k_view (V1 := gv_up (gv_up (gv_up (gv_up (gv_up V av (.inl (cI, 30, .inl vl))) oc (.inl (cI, 486, .inl f1_w1))) o (.inr (4, [.ref oc, .int (nI n1_w1), .int tl1_w1, .int omk]))) ky (.inl (cI, 80, .inl kf))) pl (.inl (cI, 80, .inl pf))) (congrArg (fun W => gv_up W pl (.inl (cI, 80, .inl pf))) (congrArg (fun W => gv_up W ky (.inl (cI, 80, .inl kf))) (congrArg (fun W => gv_up W o (.inr (4, [.ref oc, .int (nI n1_w1), .int tl1_w1, .int omk]))) (gv_uc ne2)))) ?_
      refine k_view (V1 := gv_up (gv_up (gv_up (gv_up (gv_up V av (.inl (cI, 30, .inl vl))) oc (.inl (cI, 486, .inl f1_w1))) ky (.inl (cI, 80, .inl kf))) o (.inr (4, [.ref oc, .int (nI n1_w1), .int tl1_w1, .int omk]))) pl (.inl (cI, 80, .inl pf))) (congrArg (fun W => gv_up W pl (.inl (cI, 80, .inl pf))) (gv_uc ne5)) ?_
      refine k_view (V1 := gv_up (gv_up (gv_up (gv_up (gv_up V av (.inl (cI, 30, .inl vl))) ky (.inl (cI, 80, .inl kf))) oc (.inl (cI, 486, .inl f1_w1))) o (.inr (4, [.ref oc, .int (nI n1_w1), .int tl1_w1, .int omk]))) pl (.inl (cI, 80, .inl pf))) (congrArg (fun W => gv_up W pl (.inl (cI, 80, .inl pf))) (congrArg (fun W => gv_up W o (.inr (4, [.ref oc, .int (nI n1_w1), .int tl1_w1, .int omk]))) (gv_uc ne4))) ?_
      refine k_view (V1 := gv_up (gv_up (gv_up (gv_up (gv_up V av (.inl (cI, 30, .inl vl))) ky (.inl (cI, 80, .inl kf))) oc (.inl (cI, 486, .inl f1_w1))) pl (.inl (cI, 80, .inl pf))) o (.inr (4, [.ref oc, .int (nI n1_w1), .int tl1_w1, .int omk]))) (gv_uc ne8) ?_
      refine k_view (V1 := gv_up (gv_up (gv_up (gv_up (gv_up V av (.inl (cI, 30, .inl vl))) ky (.inl (cI, 80, .inl kf))) pl (.inl (cI, 80, .inl pf))) oc (.inl (cI, 486, .inl f1_w1))) o (.inr (4, [.ref oc, .int (nI n1_w1), .int tl1_w1, .int omk]))) (congrArg (fun W => gv_up W o (.inr (4, [.ref oc, .int (nI n1_w1), .int tl1_w1, .int omk]))) (gv_uc ne7)) ?_
      exact k_vret C zr zlk ⟨vl, kf, pf, n1_w1, tl1_w1, f1_w1, rfl, rfl, hr1_w1.tr⟩ (Nat.le_refl _) (Nat.le_refl _) dX1_makeOverTwo_96
    · skip
      exact absurd htl2 c11
set_option maxHeartbeats 4000000 in
set_option maxRecDepth 100000 in
theorem c_over2 {zl : Launch} {D : va_G} {cI cN cR : ClassId} {base : Nat} {V : gv_V} {mo tr nd tb wg ky pl : Nat} {no : Nat} {na nb ps pp po ex va st fr ln dn ag gr : Int32} {xe ak af as ap av ne : Nat} {kd fs sc pt vl : Nat → Int32} {a c n : Nat} {tl mk : Int32} {f : Nat → Int32} {b c2 n2 : Nat} {tl2 mk2 : Int32} {g : Nat → Int32} {o oc : Nat} {omk : Int32} {of : Nat → Int32} {kf pf : Nat → Int32} {A B : List Row} {E : Nat → Ex}  (h_mo : V mo = some (.inr (1, [.ref tr, .ref xe, .ref nd, .ref tb, .ref wg, .ref ky, .ref pl]))) (h_no : V no = some (.inr (2, [.int (nI 2), .int na, .int nb, .int ps, .int pp, .int po, .int ex, .int va, .int st, .int fr, .int ln, .int dn, .int ag, .int gr]))) (h_xe : V xe = some (.inr (0, [.ref ak, .ref af, .ref as, .ref ap, .ref av, .int (nI ne)]))) (h_ak : V ak = some (.inl (cI, 30, .inl kd))) (h_af : V af = some (.inl (cI, 30, .inl fs))) (h_as : V as = some (.inl (cI, 30, .inl sc))) (h_ap : V ap = some (.inl (cI, 30, .inl pt))) (h_av : V av = some (.inl (cI, 30, .inl vl))) (h_a : V a = some (.inr (4, [.ref c, .int (nI n), .int tl, .int mk]))) (h_c : V c = some (.inl (cI, 486, .inl f))) (h_b : V b = some (.inr (4, [.ref c2, .int (nI n2), .int tl2, .int mk2]))) (h_c2 : V c2 = some (.inl (cI, 486, .inl g))) (h_o : V o = some (.inr (4, [.ref oc, .int (nI 0), .int (nI 0), .int omk]))) (h_oc : V oc = some (.inl (cI, 486, .inl of))) (h_ky : V ky = some (.inl (cI, 80, .inl kf))) (h_pl : V pl = some (.inl (cI, 80, .inl pf))) (hX : ExR E ne kd fs sc pt) (hd : [ak, af, as, ap, av].Nodup) (hA : Tab A n f) (hoa : nq o a) (hca : nq oc c) (hB : Tab B n2 g) (hob : nq o b) (hcb : nq oc c2) (htl : tl = 0) (htl2 : tl2 = 0) (hky : nq ky pl) : ct zl D [(cI, .int), (cN, .object "AlgebraTree$Node"), (cR, .object "AlgebraTree$Rows")] base yX1_makeOverTwo cX1_makeOverTwo 5 none 4 0 0 [.ref mo, .ref no, .ref a, .ref b, .ref o] V (fun zv zV => ∃ vl1 : Nat → Int32, ∃ kf1 : Nat → Int32, ∃ pf1 : Nat → Int32, ∃ n1 : Nat, ∃ tl1 : Int32, ∃ f1 : Nat → Int32, zv = none ∧ zV = gv_up (gv_up (gv_up (gv_up (gv_up V av (.inl (cI, 30, .inl vl1))) ky (.inl (cI, 80, .inl kf1))) pl (.inl (cI, 80, .inl pf1))) oc (.inl (cI, 486, .inl f1))) o (.inr (4, [.ref oc, .int (nI n1), .int tl1, .int omk])) ∧ (TRep (cap (A ++ B)) n1 tl1 f1)) := by
  refine ct_of "AlgebraTree$Maker" rfl (by decide) (Nat.le_of_ble_eq_true rfl) ?_
  intro zp ze zs zm zargs zbelow zmeth zc C zr zlk znm
  refine k_pc (pc' := 0) (st' := []) rfl rfl ?_
  show K zp zl ze (gv_rm 4 0 0) zs zm zargs zbelow zmeth zc D base 5 (gv_E D [(cI, .int), (cN, .object "AlgebraTree$Node"), (cR, .object "AlgebraTree$Rows")] base zbelow zargs zs 0 0 (fun zv zV => ∃ vl1 : Nat → Int32, ∃ kf1 : Nat → Int32, ∃ pf1 : Nat → Int32, ∃ n1 : Nat, ∃ tl1 : Int32, ∃ f1 : Nat → Int32, zv = none ∧ zV = gv_up (gv_up (gv_up (gv_up (gv_up V av (.inl (cI, 30, .inl vl1))) ky (.inl (cI, 80, .inl kf1))) pl (.inl (cI, 80, .inl pf1))) oc (.inl (cI, 486, .inl f1))) o (.inr (4, [.ref oc, .int (nI n1), .int tl1, .int omk])) ∧ (TRep (cap (A ++ B)) n1 tl1 f1))) V 0 0 [(0, .ref mo), (1, .ref no), (2, .ref a), (3, .ref b), (4, .ref o)] 0 []
  refine k_aload_n C dX1_makeOverTwo_0 rfl 2 rfl ?_
  refine k_get (ci := 4) (k := 2) C fl_1_109 h_a rfl dX1_makeOverTwo_1 ?_
  refine k_if_ne (tgt := 14) C dX1_makeOverTwo_4 (by decide) (fun c4 => ?_) (fun c4 => ?_)
  · skip
    exact absurd htl c4
  · skip
    refine k_aload_n C dX1_makeOverTwo_7 rfl 3 rfl ?_
    refine k_get (ci := 4) (k := 2) C fl_1_109 h_b rfl dX1_makeOverTwo_8 ?_
    refine k_if_eq (tgt := 21) C dX1_makeOverTwo_11 (by decide) (fun c11 => ?_) (fun c11 => ?_)
    · skip
      refine k_aload_n C dX1_makeOverTwo_21 rfl 1 rfl ?_
      refine k_get (ci := 2) (k := 0) C fl_1_77 h_no rfl dX1_makeOverTwo_22 ?_
      have sw25 : 2 = 2 := rfl
      refine k_val (y := nI 2) (by rw [sw25]) ?_
      refine k_tableIn (tgt := 62) C dX1_makeOverTwo_25 (by decide) (by decide) rfl (by decide) ?_
      refine k_aload C dX1_makeOverTwo_62 4 rfl ?_
      refine k_aload_n C dX1_makeOverTwo_64 rfl 2 rfl ?_
      refine k_callV C mv_1_141 (c_X4_addAll  h_o h_oc h_a h_c Rep.nil hA hca hoa) h_o rfl rfl (by simp [Value.category]) ⟨by decide, by decide⟩ ⟨(by decide), (by decide)⟩ dX1_makeOverTwo_65 (fun zv zV zh => ?_)
      obtain ⟨n1_w1, tl1_w1, f1_w1, rfl, rfl, hr1_w1⟩ := zh
      refine k_pc (pc' := 68) (st' := []) rfl rfl ?_
      refine k_aload C dX1_makeOverTwo_68 4 rfl ?_
      refine k_aload_n C dX1_makeOverTwo_70 rfl 3 rfl ?_
      have ne2 : nq oc o := gv_ne h_o h_oc (by simp)
      have ne3 : nq b oc := gv_ne h_oc h_b (by simp)
      have ne4 : nq c2 o := gv_ne h_o h_c2 (by simp)
      refine k_callV C mv_1_141 (c_X4_addAll  gv_up_s ((gv_up_n ne2).trans gv_up_s) ((gv_up_n (Ne.symm hob)).trans ((gv_up_n ne3).trans h_b)) ((gv_up_n ne4).trans ((gv_up_n (Ne.symm hcb)).trans h_c2)) hr1_w1 hB hcb hob) gv_up_s rfl rfl (by simp [Value.category]) ⟨by decide, by decide⟩ ⟨(by decide), (by decide)⟩ dX1_makeOverTwo_71 (fun zv zV zh => ?_)
      obtain ⟨n1_w5, tl1_w5, f1_w5, rfl, rfl, hr1_w5⟩ := zh
      refine k_pc (pc' := 74) (st' := []) rfl rfl ?_
      refine k_view (V1 := gv_up (gv_up (gv_up V oc (.inl (cI, 486, .inl f1_w5))) o (.inr (4, [.ref oc, .int (nI n1_w1), .int tl1_w1, .int omk]))) o (.inr (4, [.ref oc, .int (nI n1_w5), .int tl1_w5, .int omk]))) (congrArg (fun W => gv_up W o (.inr (4, [.ref oc, .int (nI n1_w5), .int tl1_w5, .int omk]))) ((gv_uc ne2).trans (congrArg (fun W => gv_up W o (.inr (4, [.ref oc, .int (nI n1_w1), .int tl1_w1, .int omk]))) gv_uu))) ?_
      refine k_view (V1 := gv_up (gv_up V oc (.inl (cI, 486, .inl f1_w5))) o (.inr (4, [.ref oc, .int (nI n1_w5), .int tl1_w5, .int omk]))) gv_uu ?_
      refine k_goto (tgt := 96) C dX1_makeOverTwo_74 (by decide) ?_
      have ne6 : nq av oc := gv_ne h_oc h_av (by simp)
      have ne7 : nq av o := gv_ne h_o h_av (by simp)
      refine k_view (V1 := gv_up (gv_up (gv_up V oc (.inl (cI, 486, .inl f1_w5))) o (.inr (4, [.ref oc, .int (nI n1_w5), .int tl1_w5, .int omk]))) av (.inl (cI, 30, .inl vl))) (gv_id ((gv_up_n ne7).trans ((gv_up_n ne6).trans h_av))).symm ?_
      have ne8 : nq ky oc := gv_ne h_oc h_ky (by simp)
      have ne9 : nq ky o := gv_ne h_o h_ky (by simp)
      have ne10 : nq ky av := gv_ne h_av h_ky (by simp)
      refine k_view (V1 := gv_up (gv_up (gv_up (gv_up V oc (.inl (cI, 486, .inl f1_w5))) o (.inr (4, [.ref oc, .int (nI n1_w5), .int tl1_w5, .int omk]))) av (.inl (cI, 30, .inl vl))) ky (.inl (cI, 80, .inl kf))) (gv_id ((gv_up_n ne10).trans ((gv_up_n ne9).trans ((gv_up_n ne8).trans h_ky)))).symm ?_
      have ne11 : nq pl oc := gv_ne h_oc h_pl (by simp)
      have ne12 : nq pl o := gv_ne h_o h_pl (by simp)
      have ne13 : nq pl av := gv_ne h_av h_pl (by simp)
      refine k_view (V1 := gv_up (gv_up (gv_up (gv_up (gv_up V oc (.inl (cI, 486, .inl f1_w5))) o (.inr (4, [.ref oc, .int (nI n1_w5), .int tl1_w5, .int omk]))) av (.inl (cI, 30, .inl vl))) ky (.inl (cI, 80, .inl kf))) pl (.inl (cI, 80, .inl pf))) (gv_id ((gv_up_n (Ne.symm hky)).trans ((gv_up_n ne13).trans ((gv_up_n ne12).trans ((gv_up_n ne11).trans h_pl))))).symm ?_
      refine k_view (V1 := gv_up (gv_up (gv_up (gv_up (gv_up V oc (.inl (cI, 486, .inl f1_w5))) av (.inl (cI, 30, .inl vl))) o (.inr (4, [.ref oc, .int (nI n1_w5), .int tl1_w5, .int omk]))) ky (.inl (cI, 80, .inl kf))) pl (.inl (cI, 80, .inl pf))) (congrArg (fun W => gv_up W pl (.inl (cI, 80, .inl pf))) (congrArg (fun W => gv_up W ky (.inl (cI, 80, .inl kf))) (gv_uc ne7))) ?_
      refine k_view (V1 := gv_up (gv_up (gv_up (gv_up (gv_up V av (.inl (cI, 30, .inl vl))) oc (.inl (cI, 486, .inl f1_w5))) o (.inr (4, [.ref oc, .int (nI n1_w5), .int tl1_w5, .int omk]))) ky (.inl (cI, 80, .inl kf))) pl (.inl (cI, 80, .inl pf))) (congrArg (fun W => gv_up W pl (.inl (cI, 80, .inl pf))) (congrArg (fun W => gv_up W ky (.inl (cI, 80, .inl kf))) (congrArg (fun W => gv_up W o (.inr (4, [.ref oc, .int (nI n1_w5), .int tl1_w5, .int omk]))) (gv_uc ne6)))) ?_
      refine k_view (V1 := gv_up (gv_up (gv_up (gv_up (gv_up V av (.inl (cI, 30, .inl vl))) oc (.inl (cI, 486, .inl f1_w5))) ky (.inl (cI, 80, .inl kf))) o (.inr (4, [.ref oc, .int (nI n1_w5), .int tl1_w5, .int omk]))) pl (.inl (cI, 80, .inl pf))) (congrArg (fun W => gv_up W pl (.inl (cI, 80, .inl pf))) (gv_uc ne9)) ?_
      refine k_view (V1 := gv_up (gv_up (gv_up (gv_up (gv_up V av (.inl (cI, 30, .inl vl))) ky (.inl (cI, 80, .inl kf))) oc (.inl (cI, 486, .inl f1_w5))) o (.inr (4, [.ref oc, .int (nI n1_w5), .int tl1_w5, .int omk]))) pl (.inl (cI, 80, .inl pf))) (congrArg (fun W => gv_up W pl (.inl (cI, 80, .inl pf))) (congrArg (fun W => gv_up W o (.inr (4, [.ref oc, .int (nI n1_w5), .int tl1_w5, .int omk]))) (gv_uc ne8))) ?_
      refine k_view (V1 := gv_up (gv_up (gv_up (gv_up (gv_up V av (.inl (cI, 30, .inl vl))) ky (.inl (cI, 80, .inl kf))) oc (.inl (cI, 486, .inl f1_w5))) pl (.inl (cI, 80, .inl pf))) o (.inr (4, [.ref oc, .int (nI n1_w5), .int tl1_w5, .int omk]))) (gv_uc ne12) ?_
      refine k_view (V1 := gv_up (gv_up (gv_up (gv_up (gv_up V av (.inl (cI, 30, .inl vl))) ky (.inl (cI, 80, .inl kf))) pl (.inl (cI, 80, .inl pf))) oc (.inl (cI, 486, .inl f1_w5))) o (.inr (4, [.ref oc, .int (nI n1_w5), .int tl1_w5, .int omk]))) (congrArg (fun W => gv_up W o (.inr (4, [.ref oc, .int (nI n1_w5), .int tl1_w5, .int omk]))) (gv_uc ne11)) ?_
      exact k_vret C zr zlk ⟨vl, kf, pf, n1_w5, tl1_w5, f1_w5, rfl, rfl, (by have h := hr1_w5; simp only [List.nil_append] at h; exact h.tr)⟩ (Nat.le_refl _) (Nat.le_refl _) dX1_makeOverTwo_96
    · skip
      exact absurd htl2 c11
set_option maxHeartbeats 4000000 in
set_option maxRecDepth 100000 in
theorem c_over3 {zl : Launch} {D : va_G} {cI cN cR : ClassId} {base : Nat} {V : gv_V} {mo tr nd tb wg ky pl : Nat} {no : Nat} {na nb ps pp po ex va st fr ln dn ag gr : Int32} {xe ak af as ap av ne : Nat} {kd fs sc pt vl : Nat → Int32} {a c n : Nat} {tl mk : Int32} {f : Nat → Int32} {b c2 n2 : Nat} {tl2 mk2 : Int32} {g : Nat → Int32} {o oc : Nat} {omk : Int32} {of : Nat → Int32} {kf pf : Nat → Int32} {A B : List Row} {E : Nat → Ex}  (h_mo : V mo = some (.inr (1, [.ref tr, .ref xe, .ref nd, .ref tb, .ref wg, .ref ky, .ref pl]))) (h_no : V no = some (.inr (2, [.int (nI 3), .int na, .int nb, .int ps, .int pp, .int po, .int ex, .int va, .int st, .int fr, .int ln, .int dn, .int ag, .int gr]))) (h_xe : V xe = some (.inr (0, [.ref ak, .ref af, .ref as, .ref ap, .ref av, .int (nI ne)]))) (h_ak : V ak = some (.inl (cI, 30, .inl kd))) (h_af : V af = some (.inl (cI, 30, .inl fs))) (h_as : V as = some (.inl (cI, 30, .inl sc))) (h_ap : V ap = some (.inl (cI, 30, .inl pt))) (h_av : V av = some (.inl (cI, 30, .inl vl))) (h_a : V a = some (.inr (4, [.ref c, .int (nI n), .int tl, .int mk]))) (h_c : V c = some (.inl (cI, 486, .inl f))) (h_b : V b = some (.inr (4, [.ref c2, .int (nI n2), .int tl2, .int mk2]))) (h_c2 : V c2 = some (.inl (cI, 486, .inl g))) (h_o : V o = some (.inr (4, [.ref oc, .int (nI 0), .int (nI 0), .int omk]))) (h_oc : V oc = some (.inl (cI, 486, .inl of))) (h_ky : V ky = some (.inl (cI, 80, .inl kf))) (h_pl : V pl = some (.inl (cI, 80, .inl pf))) (hX : ExR E ne kd fs sc pt) (hd : [ak, af, as, ap, av].Nodup) (hA : Tab A n f) (hoa : nq o a) (hca : nq oc c) (hB : Tab B n2 g) (hob : nq o b) (hcb : nq oc c2) (htl : tl = 0) (htl2 : tl2 = 0) (hky : nq ky pl) : ct zl D [(cI, .int), (cN, .object "AlgebraTree$Node"), (cR, .object "AlgebraTree$Rows")] base yX1_makeOverTwo cX1_makeOverTwo 5 none 4 0 0 [.ref mo, .ref no, .ref a, .ref b, .ref o] V (fun zv zV => ∃ vl1 : Nat → Int32, ∃ kf1 : Nat → Int32, ∃ pf1 : Nat → Int32, ∃ n1 : Nat, ∃ tl1 : Int32, ∃ f1 : Nat → Int32, zv = none ∧ zV = gv_up (gv_up (gv_up (gv_up (gv_up V av (.inl (cI, 30, .inl vl1))) ky (.inl (cI, 80, .inl kf1))) pl (.inl (cI, 80, .inl pf1))) oc (.inl (cI, 486, .inl f1))) o (.inr (4, [.ref oc, .int (nI n1), .int tl1, .int omk])) ∧ (TRep (cap (minusL A B)) n1 tl1 f1)) := by
  refine ct_of "AlgebraTree$Maker" rfl (by decide) (Nat.le_of_ble_eq_true rfl) ?_
  intro zp ze zs zm zargs zbelow zmeth zc C zr zlk znm
  refine k_pc (pc' := 0) (st' := []) rfl rfl ?_
  show K zp zl ze (gv_rm 4 0 0) zs zm zargs zbelow zmeth zc D base 5 (gv_E D [(cI, .int), (cN, .object "AlgebraTree$Node"), (cR, .object "AlgebraTree$Rows")] base zbelow zargs zs 0 0 (fun zv zV => ∃ vl1 : Nat → Int32, ∃ kf1 : Nat → Int32, ∃ pf1 : Nat → Int32, ∃ n1 : Nat, ∃ tl1 : Int32, ∃ f1 : Nat → Int32, zv = none ∧ zV = gv_up (gv_up (gv_up (gv_up (gv_up V av (.inl (cI, 30, .inl vl1))) ky (.inl (cI, 80, .inl kf1))) pl (.inl (cI, 80, .inl pf1))) oc (.inl (cI, 486, .inl f1))) o (.inr (4, [.ref oc, .int (nI n1), .int tl1, .int omk])) ∧ (TRep (cap (minusL A B)) n1 tl1 f1))) V 0 0 [(0, .ref mo), (1, .ref no), (2, .ref a), (3, .ref b), (4, .ref o)] 0 []
  refine k_aload_n C dX1_makeOverTwo_0 rfl 2 rfl ?_
  refine k_get (ci := 4) (k := 2) C fl_1_109 h_a rfl dX1_makeOverTwo_1 ?_
  refine k_if_ne (tgt := 14) C dX1_makeOverTwo_4 (by decide) (fun c4 => ?_) (fun c4 => ?_)
  · skip
    exact absurd htl c4
  · skip
    refine k_aload_n C dX1_makeOverTwo_7 rfl 3 rfl ?_
    refine k_get (ci := 4) (k := 2) C fl_1_109 h_b rfl dX1_makeOverTwo_8 ?_
    refine k_if_eq (tgt := 21) C dX1_makeOverTwo_11 (by decide) (fun c11 => ?_) (fun c11 => ?_)
    · skip
      refine k_aload_n C dX1_makeOverTwo_21 rfl 1 rfl ?_
      refine k_get (ci := 2) (k := 0) C fl_1_77 h_no rfl dX1_makeOverTwo_22 ?_
      have sw25 : 3 = 3 := rfl
      refine k_val (y := nI 3) (by rw [sw25]) ?_
      refine k_tableIn (tgt := 77) C dX1_makeOverTwo_25 (by decide) (by decide) rfl (by decide) ?_
      refine k_aload_n C dX1_makeOverTwo_77 rfl 2 rfl ?_
      refine k_aload_n C dX1_makeOverTwo_78 rfl 3 rfl ?_
      refine k_aload C dX1_makeOverTwo_79 4 rfl ?_
      refine k_callS C ms_1_149 (c_X1_makeMinus  h_a h_c h_b h_c2 h_o h_oc (by first | assumption | omega) hoa hca (by first | assumption | omega) hob hcb) rfl rfl (by simp [Value.category]) ⟨by decide, by decide⟩ ⟨(by decide), (by decide)⟩ dX1_makeOverTwo_81 (fun zv zV zh => ?_)
      obtain ⟨n1_w1, tl1_w1, f1_w1, rfl, rfl, hr1_w1⟩ := zh
      refine k_pc (pc' := 84) (st' := []) rfl rfl ?_
      refine k_goto (tgt := 96) C dX1_makeOverTwo_84 (by decide) ?_
      have ne2 : nq av oc := gv_ne h_oc h_av (by simp)
      have ne3 : nq av o := gv_ne h_o h_av (by simp)
      refine k_view (V1 := gv_up (gv_up (gv_up V oc (.inl (cI, 486, .inl f1_w1))) o (.inr (4, [.ref oc, .int (nI n1_w1), .int tl1_w1, .int omk]))) av (.inl (cI, 30, .inl vl))) (gv_id ((gv_up_n ne3).trans ((gv_up_n ne2).trans h_av))).symm ?_
      have ne4 : nq ky oc := gv_ne h_oc h_ky (by simp)
      have ne5 : nq ky o := gv_ne h_o h_ky (by simp)
      have ne6 : nq ky av := gv_ne h_av h_ky (by simp)
      refine k_view (V1 := gv_up (gv_up (gv_up (gv_up V oc (.inl (cI, 486, .inl f1_w1))) o (.inr (4, [.ref oc, .int (nI n1_w1), .int tl1_w1, .int omk]))) av (.inl (cI, 30, .inl vl))) ky (.inl (cI, 80, .inl kf))) (gv_id ((gv_up_n ne6).trans ((gv_up_n ne5).trans ((gv_up_n ne4).trans h_ky)))).symm ?_
      have ne7 : nq pl oc := gv_ne h_oc h_pl (by simp)
      have ne8 : nq pl o := gv_ne h_o h_pl (by simp)
      have ne9 : nq pl av := gv_ne h_av h_pl (by simp)
      refine k_view (V1 := gv_up (gv_up (gv_up (gv_up (gv_up V oc (.inl (cI, 486, .inl f1_w1))) o (.inr (4, [.ref oc, .int (nI n1_w1), .int tl1_w1, .int omk]))) av (.inl (cI, 30, .inl vl))) ky (.inl (cI, 80, .inl kf))) pl (.inl (cI, 80, .inl pf))) (gv_id ((gv_up_n (Ne.symm hky)).trans ((gv_up_n ne9).trans ((gv_up_n ne8).trans ((gv_up_n ne7).trans h_pl))))).symm ?_
      refine k_view (V1 := gv_up (gv_up (gv_up (gv_up (gv_up V oc (.inl (cI, 486, .inl f1_w1))) av (.inl (cI, 30, .inl vl))) o (.inr (4, [.ref oc, .int (nI n1_w1), .int tl1_w1, .int omk]))) ky (.inl (cI, 80, .inl kf))) pl (.inl (cI, 80, .inl pf))) (congrArg (fun W => gv_up W pl (.inl (cI, 80, .inl pf))) (congrArg (fun W => gv_up W ky (.inl (cI, 80, .inl kf))) (gv_uc ne3))) ?_
      refine k_view (V1 := gv_up (gv_up (gv_up (gv_up (gv_up V av (.inl (cI, 30, .inl vl))) oc (.inl (cI, 486, .inl f1_w1))) o (.inr (4, [.ref oc, .int (nI n1_w1), .int tl1_w1, .int omk]))) ky (.inl (cI, 80, .inl kf))) pl (.inl (cI, 80, .inl pf))) (congrArg (fun W => gv_up W pl (.inl (cI, 80, .inl pf))) (congrArg (fun W => gv_up W ky (.inl (cI, 80, .inl kf))) (congrArg (fun W => gv_up W o (.inr (4, [.ref oc, .int (nI n1_w1), .int tl1_w1, .int omk]))) (gv_uc ne2)))) ?_
      refine k_view (V1 := gv_up (gv_up (gv_up (gv_up (gv_up V av (.inl (cI, 30, .inl vl))) oc (.inl (cI, 486, .inl f1_w1))) ky (.inl (cI, 80, .inl kf))) o (.inr (4, [.ref oc, .int (nI n1_w1), .int tl1_w1, .int omk]))) pl (.inl (cI, 80, .inl pf))) (congrArg (fun W => gv_up W pl (.inl (cI, 80, .inl pf))) (gv_uc ne5)) ?_
      refine k_view (V1 := gv_up (gv_up (gv_up (gv_up (gv_up V av (.inl (cI, 30, .inl vl))) ky (.inl (cI, 80, .inl kf))) oc (.inl (cI, 486, .inl f1_w1))) o (.inr (4, [.ref oc, .int (nI n1_w1), .int tl1_w1, .int omk]))) pl (.inl (cI, 80, .inl pf))) (congrArg (fun W => gv_up W pl (.inl (cI, 80, .inl pf))) (congrArg (fun W => gv_up W o (.inr (4, [.ref oc, .int (nI n1_w1), .int tl1_w1, .int omk]))) (gv_uc ne4))) ?_
      refine k_view (V1 := gv_up (gv_up (gv_up (gv_up (gv_up V av (.inl (cI, 30, .inl vl))) ky (.inl (cI, 80, .inl kf))) oc (.inl (cI, 486, .inl f1_w1))) pl (.inl (cI, 80, .inl pf))) o (.inr (4, [.ref oc, .int (nI n1_w1), .int tl1_w1, .int omk]))) (gv_uc ne8) ?_
      refine k_view (V1 := gv_up (gv_up (gv_up (gv_up (gv_up V av (.inl (cI, 30, .inl vl))) ky (.inl (cI, 80, .inl kf))) pl (.inl (cI, 80, .inl pf))) oc (.inl (cI, 486, .inl f1_w1))) o (.inr (4, [.ref oc, .int (nI n1_w1), .int tl1_w1, .int omk]))) (congrArg (fun W => gv_up W o (.inr (4, [.ref oc, .int (nI n1_w1), .int tl1_w1, .int omk]))) (gv_uc ne7)) ?_
      exact k_vret C zr zlk ⟨vl, kf, pf, n1_w1, tl1_w1, f1_w1, rfl, rfl, hr1_w1.tr⟩ (Nat.le_refl _) (Nat.le_refl _) dX1_makeOverTwo_96
    · skip
      exact absurd htl2 c11
set_option maxHeartbeats 4000000 in
set_option maxRecDepth 100000 in
theorem c_over4N {zl : Launch} {D : va_G} {cI cN cR : ClassId} {base : Nat} {V : gv_V} {mo tr nd tb wg ky pl : Nat} {no : Nat} {na nb ps pp po va st fr ln dn ag gr : Int32} {xe ak af as ap av ne : Nat} {kd fs sc pt vl : Nat → Int32} {a c n : Nat} {tl mk : Int32} {f : Nat → Int32} {b c2 n2 : Nat} {tl2 mk2 : Int32} {g : Nat → Int32} {o oc : Nat} {omk : Int32} {of : Nat → Int32} {kf pf : Nat → Int32} {A B : List Row} {E : Nat → Ex}  (h_mo : V mo = some (.inr (1, [.ref tr, .ref xe, .ref nd, .ref tb, .ref wg, .ref ky, .ref pl]))) (h_no : V no = some (.inr (2, [.int (nI 4), .int na, .int nb, .int ps, .int pp, .int po, .int (-1 : Int32), .int va, .int st, .int fr, .int ln, .int dn, .int ag, .int gr]))) (h_xe : V xe = some (.inr (0, [.ref ak, .ref af, .ref as, .ref ap, .ref av, .int (nI ne)]))) (h_ak : V ak = some (.inl (cI, 30, .inl kd))) (h_af : V af = some (.inl (cI, 30, .inl fs))) (h_as : V as = some (.inl (cI, 30, .inl sc))) (h_ap : V ap = some (.inl (cI, 30, .inl pt))) (h_av : V av = some (.inl (cI, 30, .inl vl))) (h_a : V a = some (.inr (4, [.ref c, .int (nI n), .int tl, .int mk]))) (h_c : V c = some (.inl (cI, 486, .inl f))) (h_b : V b = some (.inr (4, [.ref c2, .int (nI n2), .int tl2, .int mk2]))) (h_c2 : V c2 = some (.inl (cI, 486, .inl g))) (h_o : V o = some (.inr (4, [.ref oc, .int (nI 0), .int (nI 0), .int omk]))) (h_oc : V oc = some (.inl (cI, 486, .inl of))) (h_ky : V ky = some (.inl (cI, 80, .inl kf))) (h_pl : V pl = some (.inl (cI, 80, .inl pf))) (hX : ExR E ne kd fs sc pt) (hd : [ak, af, as, ap, av].Nodup) (hA : Tab A n f) (hoa : nq o a) (hca : nq oc c) (hB : Tab B n2 g) (hob : nq o b) (hcb : nq oc c2) (htl : tl = 0) (htl2 : tl2 = 0) (hky : nq ky pl) : ct zl D [(cI, .int), (cN, .object "AlgebraTree$Node"), (cR, .object "AlgebraTree$Rows")] base yX1_makeOverTwo cX1_makeOverTwo 5 none 4 0 0 [.ref mo, .ref no, .ref a, .ref b, .ref o] V (fun zv zV => ∃ vl1 : Nat → Int32, ∃ kf1 : Nat → Int32, ∃ pf1 : Nat → Int32, ∃ n1 : Nat, ∃ tl1 : Int32, ∃ f1 : Nat → Int32, zv = none ∧ zV = gv_up (gv_up (gv_up (gv_up (gv_up V av (.inl (cI, 30, .inl vl1))) ky (.inl (cI, 80, .inl kf1))) pl (.inl (cI, 80, .inl pf1))) oc (.inl (cI, 486, .inl f1))) o (.inr (4, [.ref oc, .int (nI n1), .int tl1, .int omk])) ∧ (TRep (cap (leftL (fun _ => true) A B)) n1 tl1 f1)) := by
  refine ct_of "AlgebraTree$Maker" rfl (by decide) (Nat.le_of_ble_eq_true rfl) ?_
  intro zp ze zs zm zargs zbelow zmeth zc C zr zlk znm
  refine k_pc (pc' := 0) (st' := []) rfl rfl ?_
  show K zp zl ze (gv_rm 4 0 0) zs zm zargs zbelow zmeth zc D base 5 (gv_E D [(cI, .int), (cN, .object "AlgebraTree$Node"), (cR, .object "AlgebraTree$Rows")] base zbelow zargs zs 0 0 (fun zv zV => ∃ vl1 : Nat → Int32, ∃ kf1 : Nat → Int32, ∃ pf1 : Nat → Int32, ∃ n1 : Nat, ∃ tl1 : Int32, ∃ f1 : Nat → Int32, zv = none ∧ zV = gv_up (gv_up (gv_up (gv_up (gv_up V av (.inl (cI, 30, .inl vl1))) ky (.inl (cI, 80, .inl kf1))) pl (.inl (cI, 80, .inl pf1))) oc (.inl (cI, 486, .inl f1))) o (.inr (4, [.ref oc, .int (nI n1), .int tl1, .int omk])) ∧ (TRep (cap (leftL (fun _ => true) A B)) n1 tl1 f1))) V 0 0 [(0, .ref mo), (1, .ref no), (2, .ref a), (3, .ref b), (4, .ref o)] 0 []
  refine k_aload_n C dX1_makeOverTwo_0 rfl 2 rfl ?_
  refine k_get (ci := 4) (k := 2) C fl_1_109 h_a rfl dX1_makeOverTwo_1 ?_
  refine k_if_ne (tgt := 14) C dX1_makeOverTwo_4 (by decide) (fun c4 => ?_) (fun c4 => ?_)
  · skip
    exact absurd htl c4
  · skip
    refine k_aload_n C dX1_makeOverTwo_7 rfl 3 rfl ?_
    refine k_get (ci := 4) (k := 2) C fl_1_109 h_b rfl dX1_makeOverTwo_8 ?_
    refine k_if_eq (tgt := 21) C dX1_makeOverTwo_11 (by decide) (fun c11 => ?_) (fun c11 => ?_)
    · skip
      refine k_aload_n C dX1_makeOverTwo_21 rfl 1 rfl ?_
      refine k_get (ci := 2) (k := 0) C fl_1_77 h_no rfl dX1_makeOverTwo_22 ?_
      have sw25 : 4 = 4 := rfl
      refine k_val (y := nI 4) (by rw [sw25]) ?_
      refine k_tableOut (tgt := 87) C dX1_makeOverTwo_25 (by decide) (by decide) ?_
      refine k_aload_n C dX1_makeOverTwo_87 rfl 0 rfl ?_
      refine k_aload_n C dX1_makeOverTwo_88 rfl 1 rfl ?_
      refine k_aload_n C dX1_makeOverTwo_89 rfl 2 rfl ?_
      refine k_aload_n C dX1_makeOverTwo_90 rfl 3 rfl ?_
      refine k_aload C dX1_makeOverTwo_91 4 rfl ?_
      refine k_callV C mv_1_152 (c_makeLeftN  h_mo h_no h_a h_c h_b h_c2 h_o h_oc (by first | assumption | omega) hoa hca (by first | assumption | omega) hob hcb) h_mo rfl rfl (by simp [Value.category]) ⟨by decide, by decide⟩ ⟨(by decide), (by decide)⟩ dX1_makeOverTwo_93 (fun zv zV zh => ?_)
      obtain ⟨n1_w1, tl1_w1, f1_w1, rfl, rfl, hr1_w1⟩ := zh
      refine k_pc (pc' := 96) (st' := []) rfl rfl ?_
      have ne2 : nq av oc := gv_ne h_oc h_av (by simp)
      have ne3 : nq av o := gv_ne h_o h_av (by simp)
      refine k_view (V1 := gv_up (gv_up (gv_up V oc (.inl (cI, 486, .inl f1_w1))) o (.inr (4, [.ref oc, .int (nI n1_w1), .int tl1_w1, .int omk]))) av (.inl (cI, 30, .inl vl))) (gv_id ((gv_up_n ne3).trans ((gv_up_n ne2).trans h_av))).symm ?_
      have ne4 : nq ky oc := gv_ne h_oc h_ky (by simp)
      have ne5 : nq ky o := gv_ne h_o h_ky (by simp)
      have ne6 : nq ky av := gv_ne h_av h_ky (by simp)
      refine k_view (V1 := gv_up (gv_up (gv_up (gv_up V oc (.inl (cI, 486, .inl f1_w1))) o (.inr (4, [.ref oc, .int (nI n1_w1), .int tl1_w1, .int omk]))) av (.inl (cI, 30, .inl vl))) ky (.inl (cI, 80, .inl kf))) (gv_id ((gv_up_n ne6).trans ((gv_up_n ne5).trans ((gv_up_n ne4).trans h_ky)))).symm ?_
      have ne7 : nq pl oc := gv_ne h_oc h_pl (by simp)
      have ne8 : nq pl o := gv_ne h_o h_pl (by simp)
      have ne9 : nq pl av := gv_ne h_av h_pl (by simp)
      refine k_view (V1 := gv_up (gv_up (gv_up (gv_up (gv_up V oc (.inl (cI, 486, .inl f1_w1))) o (.inr (4, [.ref oc, .int (nI n1_w1), .int tl1_w1, .int omk]))) av (.inl (cI, 30, .inl vl))) ky (.inl (cI, 80, .inl kf))) pl (.inl (cI, 80, .inl pf))) (gv_id ((gv_up_n (Ne.symm hky)).trans ((gv_up_n ne9).trans ((gv_up_n ne8).trans ((gv_up_n ne7).trans h_pl))))).symm ?_
      refine k_view (V1 := gv_up (gv_up (gv_up (gv_up (gv_up V oc (.inl (cI, 486, .inl f1_w1))) av (.inl (cI, 30, .inl vl))) o (.inr (4, [.ref oc, .int (nI n1_w1), .int tl1_w1, .int omk]))) ky (.inl (cI, 80, .inl kf))) pl (.inl (cI, 80, .inl pf))) (congrArg (fun W => gv_up W pl (.inl (cI, 80, .inl pf))) (congrArg (fun W => gv_up W ky (.inl (cI, 80, .inl kf))) (gv_uc ne3))) ?_
      refine k_view (V1 := gv_up (gv_up (gv_up (gv_up (gv_up V av (.inl (cI, 30, .inl vl))) oc (.inl (cI, 486, .inl f1_w1))) o (.inr (4, [.ref oc, .int (nI n1_w1), .int tl1_w1, .int omk]))) ky (.inl (cI, 80, .inl kf))) pl (.inl (cI, 80, .inl pf))) (congrArg (fun W => gv_up W pl (.inl (cI, 80, .inl pf))) (congrArg (fun W => gv_up W ky (.inl (cI, 80, .inl kf))) (congrArg (fun W => gv_up W o (.inr (4, [.ref oc, .int (nI n1_w1), .int tl1_w1, .int omk]))) (gv_uc ne2)))) ?_
      refine k_view (V1 := gv_up (gv_up (gv_up (gv_up (gv_up V av (.inl (cI, 30, .inl vl))) oc (.inl (cI, 486, .inl f1_w1))) ky (.inl (cI, 80, .inl kf))) o (.inr (4, [.ref oc, .int (nI n1_w1), .int tl1_w1, .int omk]))) pl (.inl (cI, 80, .inl pf))) (congrArg (fun W => gv_up W pl (.inl (cI, 80, .inl pf))) (gv_uc ne5)) ?_
      refine k_view (V1 := gv_up (gv_up (gv_up (gv_up (gv_up V av (.inl (cI, 30, .inl vl))) ky (.inl (cI, 80, .inl kf))) oc (.inl (cI, 486, .inl f1_w1))) o (.inr (4, [.ref oc, .int (nI n1_w1), .int tl1_w1, .int omk]))) pl (.inl (cI, 80, .inl pf))) (congrArg (fun W => gv_up W pl (.inl (cI, 80, .inl pf))) (congrArg (fun W => gv_up W o (.inr (4, [.ref oc, .int (nI n1_w1), .int tl1_w1, .int omk]))) (gv_uc ne4))) ?_
      refine k_view (V1 := gv_up (gv_up (gv_up (gv_up (gv_up V av (.inl (cI, 30, .inl vl))) ky (.inl (cI, 80, .inl kf))) oc (.inl (cI, 486, .inl f1_w1))) pl (.inl (cI, 80, .inl pf))) o (.inr (4, [.ref oc, .int (nI n1_w1), .int tl1_w1, .int omk]))) (gv_uc ne8) ?_
      refine k_view (V1 := gv_up (gv_up (gv_up (gv_up (gv_up V av (.inl (cI, 30, .inl vl))) ky (.inl (cI, 80, .inl kf))) pl (.inl (cI, 80, .inl pf))) oc (.inl (cI, 486, .inl f1_w1))) o (.inr (4, [.ref oc, .int (nI n1_w1), .int tl1_w1, .int omk]))) (congrArg (fun W => gv_up W o (.inr (4, [.ref oc, .int (nI n1_w1), .int tl1_w1, .int omk]))) (gv_uc ne7)) ?_
      exact k_vret C zr zlk ⟨vl, kf, pf, n1_w1, tl1_w1, f1_w1, rfl, rfl, hr1_w1.tr⟩ (Nat.le_refl _) (Nat.le_refl _) dX1_makeOverTwo_96
    · skip
      exact absurd htl2 c11
set_option maxHeartbeats 4000000 in
set_option maxRecDepth 100000 in
theorem c_over4E {zl : Launch} {D : va_G} {cI cN cR : ClassId} {base : Nat} {V : gv_V} {mo tr nd tb wg ky pl : Nat} {no : Nat} {na nb ps pp po va st fr ln dn ag gr : Int32} {e : Nat} {xe ak af as ap av ne : Nat} {kd fs sc pt vl : Nat → Int32} {a c n : Nat} {tl mk : Int32} {f : Nat → Int32} {b c2 n2 : Nat} {tl2 mk2 : Int32} {g : Nat → Int32} {o oc : Nat} {omk : Int32} {of : Nat → Int32} {kf pf : Nat → Int32} {A B : List Row} {E : Nat → Ex}  (h_mo : V mo = some (.inr (1, [.ref tr, .ref xe, .ref nd, .ref tb, .ref wg, .ref ky, .ref pl]))) (h_no : V no = some (.inr (2, [.int (nI 4), .int na, .int nb, .int ps, .int pp, .int po, .int (nI e), .int va, .int st, .int fr, .int ln, .int dn, .int ag, .int gr]))) (h_xe : V xe = some (.inr (0, [.ref ak, .ref af, .ref as, .ref ap, .ref av, .int (nI ne)]))) (h_ak : V ak = some (.inl (cI, 30, .inl kd))) (h_af : V af = some (.inl (cI, 30, .inl fs))) (h_as : V as = some (.inl (cI, 30, .inl sc))) (h_ap : V ap = some (.inl (cI, 30, .inl pt))) (h_av : V av = some (.inl (cI, 30, .inl vl))) (h_a : V a = some (.inr (4, [.ref c, .int (nI n), .int tl, .int mk]))) (h_c : V c = some (.inl (cI, 486, .inl f))) (h_b : V b = some (.inr (4, [.ref c2, .int (nI n2), .int tl2, .int mk2]))) (h_c2 : V c2 = some (.inl (cI, 486, .inl g))) (h_o : V o = some (.inr (4, [.ref oc, .int (nI 0), .int (nI 0), .int omk]))) (h_oc : V oc = some (.inl (cI, 486, .inl of))) (h_ky : V ky = some (.inl (cI, 80, .inl kf))) (h_pl : V pl = some (.inl (cI, 80, .inl pf))) (hX : ExR E ne kd fs sc pt) (hd : [ak, af, as, ap, av].Nodup) (hA : Tab A n f) (hoa : nq o a) (hca : nq oc c) (hB : Tab B n2 g) (hob : nq o b) (hcb : nq oc c2) (htl : tl = 0) (htl2 : tl2 = 0) (hky : nq ky pl) (he : e < ne) : ct zl D [(cI, .int), (cN, .object "AlgebraTree$Node"), (cR, .object "AlgebraTree$Rows")] base yX1_makeOverTwo cX1_makeOverTwo 5 none 4 0 0 [.ref mo, .ref no, .ref a, .ref b, .ref o] V (fun zv zV => ∃ vl1 : Nat → Int32, ∃ kf1 : Nat → Int32, ∃ pf1 : Nat → Int32, ∃ n1 : Nat, ∃ tl1 : Int32, ∃ f1 : Nat → Int32, zv = none ∧ zV = gv_up (gv_up (gv_up (gv_up (gv_up V av (.inl (cI, 30, .inl vl1))) ky (.inl (cI, 80, .inl kf1))) pl (.inl (cI, 80, .inl pf1))) oc (.inl (cI, 486, .inl f1))) o (.inr (4, [.ref oc, .int (nI n1), .int tl1, .int omk])) ∧ (TRep (cap (leftL (fun x => isT (ev E x e)) A B)) n1 tl1 f1)) := by
  refine ct_of "AlgebraTree$Maker" rfl (by decide) (Nat.le_of_ble_eq_true rfl) ?_
  intro zp ze zs zm zargs zbelow zmeth zc C zr zlk znm
  refine k_pc (pc' := 0) (st' := []) rfl rfl ?_
  show K zp zl ze (gv_rm 4 0 0) zs zm zargs zbelow zmeth zc D base 5 (gv_E D [(cI, .int), (cN, .object "AlgebraTree$Node"), (cR, .object "AlgebraTree$Rows")] base zbelow zargs zs 0 0 (fun zv zV => ∃ vl1 : Nat → Int32, ∃ kf1 : Nat → Int32, ∃ pf1 : Nat → Int32, ∃ n1 : Nat, ∃ tl1 : Int32, ∃ f1 : Nat → Int32, zv = none ∧ zV = gv_up (gv_up (gv_up (gv_up (gv_up V av (.inl (cI, 30, .inl vl1))) ky (.inl (cI, 80, .inl kf1))) pl (.inl (cI, 80, .inl pf1))) oc (.inl (cI, 486, .inl f1))) o (.inr (4, [.ref oc, .int (nI n1), .int tl1, .int omk])) ∧ (TRep (cap (leftL (fun x => isT (ev E x e)) A B)) n1 tl1 f1))) V 0 0 [(0, .ref mo), (1, .ref no), (2, .ref a), (3, .ref b), (4, .ref o)] 0 []
  refine k_aload_n C dX1_makeOverTwo_0 rfl 2 rfl ?_
  refine k_get (ci := 4) (k := 2) C fl_1_109 h_a rfl dX1_makeOverTwo_1 ?_
  refine k_if_ne (tgt := 14) C dX1_makeOverTwo_4 (by decide) (fun c4 => ?_) (fun c4 => ?_)
  · skip
    exact absurd htl c4
  · skip
    refine k_aload_n C dX1_makeOverTwo_7 rfl 3 rfl ?_
    refine k_get (ci := 4) (k := 2) C fl_1_109 h_b rfl dX1_makeOverTwo_8 ?_
    refine k_if_eq (tgt := 21) C dX1_makeOverTwo_11 (by decide) (fun c11 => ?_) (fun c11 => ?_)
    · skip
      refine k_aload_n C dX1_makeOverTwo_21 rfl 1 rfl ?_
      refine k_get (ci := 2) (k := 0) C fl_1_77 h_no rfl dX1_makeOverTwo_22 ?_
      have sw25 : 4 = 4 := rfl
      refine k_val (y := nI 4) (by rw [sw25]) ?_
      refine k_tableOut (tgt := 87) C dX1_makeOverTwo_25 (by decide) (by decide) ?_
      refine k_aload_n C dX1_makeOverTwo_87 rfl 0 rfl ?_
      refine k_aload_n C dX1_makeOverTwo_88 rfl 1 rfl ?_
      refine k_aload_n C dX1_makeOverTwo_89 rfl 2 rfl ?_
      refine k_aload_n C dX1_makeOverTwo_90 rfl 3 rfl ?_
      refine k_aload C dX1_makeOverTwo_91 4 rfl ?_
      refine k_callV C mv_1_152 (c_makeLeftE  h_mo h_no h_xe h_ak h_af h_as h_ap h_av h_a h_c h_b h_c2 h_o h_oc (by first | assumption | omega) (by first | assumption | omega) (by first | assumption | omega) (by first | assumption | omega) hoa hca (by first | assumption | omega) hob hcb) h_mo rfl rfl (by simp [Value.category]) ⟨by decide, by decide⟩ ⟨(by decide), (by decide)⟩ dX1_makeOverTwo_93 (fun zv zV zh => ?_)
      obtain ⟨n1_w1, tl1_w1, f1_w1, vl1_w1, rfl, rfl, hr1_w1⟩ := zh
      refine k_pc (pc' := 96) (st' := []) rfl rfl ?_
      have ne2 : nq ky av := gv_ne h_av h_ky (by simp)
      have ne3 : nq ky oc := gv_ne h_oc h_ky (by simp)
      have ne4 : nq ky o := gv_ne h_o h_ky (by simp)
      refine k_view (V1 := gv_up (gv_up (gv_up (gv_up V av (.inl (cI, 30, .inl vl1_w1))) oc (.inl (cI, 486, .inl f1_w1))) o (.inr (4, [.ref oc, .int (nI n1_w1), .int tl1_w1, .int omk]))) ky (.inl (cI, 80, .inl kf))) (gv_id ((gv_up_n ne4).trans ((gv_up_n ne3).trans ((gv_up_n ne2).trans h_ky)))).symm ?_
      have ne5 : nq pl av := gv_ne h_av h_pl (by simp)
      have ne6 : nq pl oc := gv_ne h_oc h_pl (by simp)
      have ne7 : nq pl o := gv_ne h_o h_pl (by simp)
      refine k_view (V1 := gv_up (gv_up (gv_up (gv_up (gv_up V av (.inl (cI, 30, .inl vl1_w1))) oc (.inl (cI, 486, .inl f1_w1))) o (.inr (4, [.ref oc, .int (nI n1_w1), .int tl1_w1, .int omk]))) ky (.inl (cI, 80, .inl kf))) pl (.inl (cI, 80, .inl pf))) (gv_id ((gv_up_n (Ne.symm hky)).trans ((gv_up_n ne7).trans ((gv_up_n ne6).trans ((gv_up_n ne5).trans h_pl))))).symm ?_
      refine k_view (V1 := gv_up (gv_up (gv_up (gv_up (gv_up V av (.inl (cI, 30, .inl vl1_w1))) oc (.inl (cI, 486, .inl f1_w1))) ky (.inl (cI, 80, .inl kf))) o (.inr (4, [.ref oc, .int (nI n1_w1), .int tl1_w1, .int omk]))) pl (.inl (cI, 80, .inl pf))) (congrArg (fun W => gv_up W pl (.inl (cI, 80, .inl pf))) (gv_uc ne4)) ?_
      refine k_view (V1 := gv_up (gv_up (gv_up (gv_up (gv_up V av (.inl (cI, 30, .inl vl1_w1))) ky (.inl (cI, 80, .inl kf))) oc (.inl (cI, 486, .inl f1_w1))) o (.inr (4, [.ref oc, .int (nI n1_w1), .int tl1_w1, .int omk]))) pl (.inl (cI, 80, .inl pf))) (congrArg (fun W => gv_up W pl (.inl (cI, 80, .inl pf))) (congrArg (fun W => gv_up W o (.inr (4, [.ref oc, .int (nI n1_w1), .int tl1_w1, .int omk]))) (gv_uc ne3))) ?_
      refine k_view (V1 := gv_up (gv_up (gv_up (gv_up (gv_up V av (.inl (cI, 30, .inl vl1_w1))) ky (.inl (cI, 80, .inl kf))) oc (.inl (cI, 486, .inl f1_w1))) pl (.inl (cI, 80, .inl pf))) o (.inr (4, [.ref oc, .int (nI n1_w1), .int tl1_w1, .int omk]))) (gv_uc ne7) ?_
      refine k_view (V1 := gv_up (gv_up (gv_up (gv_up (gv_up V av (.inl (cI, 30, .inl vl1_w1))) ky (.inl (cI, 80, .inl kf))) pl (.inl (cI, 80, .inl pf))) oc (.inl (cI, 486, .inl f1_w1))) o (.inr (4, [.ref oc, .int (nI n1_w1), .int tl1_w1, .int omk]))) (congrArg (fun W => gv_up W o (.inr (4, [.ref oc, .int (nI n1_w1), .int tl1_w1, .int omk]))) (gv_uc ne6)) ?_
      exact k_vret C zr zlk ⟨vl1_w1, kf, pf, n1_w1, tl1_w1, f1_w1, rfl, rfl, hr1_w1.tr⟩ (Nat.le_refl _) (Nat.le_refl _) dX1_makeOverTwo_96
    · skip
      exact absurd htl2 c11
set_option maxHeartbeats 4000000 in
set_option maxRecDepth 100000 in
theorem c_overL2 {zl : Launch} {D : va_G} {cI cN cR : ClassId} {base : Nat} {V : gv_V} {mo tr nd tb wg ky pl : Nat} {no : Nat} {kind na nb ps pp po ex va st fr ln dn ag gr : Int32} {xe ak af as ap av ne : Nat} {kd fs sc pt vl : Nat → Int32} {a c n : Nat} {tl mk : Int32} {f : Nat → Int32} {b c2 n2 : Nat} {tl2 mk2 : Int32} {g : Nat → Int32} {o oc : Nat} {omk : Int32} {of : Nat → Int32} {kf pf : Nat → Int32}  (h_mo : V mo = some (.inr (1, [.ref tr, .ref xe, .ref nd, .ref tb, .ref wg, .ref ky, .ref pl]))) (h_no : V no = some (.inr (2, [.int kind, .int na, .int nb, .int ps, .int pp, .int po, .int ex, .int va, .int st, .int fr, .int ln, .int dn, .int ag, .int gr]))) (h_xe : V xe = some (.inr (0, [.ref ak, .ref af, .ref as, .ref ap, .ref av, .int (nI ne)]))) (h_ak : V ak = some (.inl (cI, 30, .inl kd))) (h_af : V af = some (.inl (cI, 30, .inl fs))) (h_as : V as = some (.inl (cI, 30, .inl sc))) (h_ap : V ap = some (.inl (cI, 30, .inl pt))) (h_av : V av = some (.inl (cI, 30, .inl vl))) (h_a : V a = some (.inr (4, [.ref c, .int (nI n), .int tl, .int mk]))) (h_c : V c = some (.inl (cI, 486, .inl f))) (h_b : V b = some (.inr (4, [.ref c2, .int (nI n2), .int tl2, .int mk2]))) (h_c2 : V c2 = some (.inl (cI, 486, .inl g))) (h_o : V o = some (.inr (4, [.ref oc, .int (nI 0), .int (nI 0), .int omk]))) (h_oc : V oc = some (.inl (cI, 486, .inl of))) (h_ky : V ky = some (.inl (cI, 80, .inl kf))) (h_pl : V pl = some (.inl (cI, 80, .inl pf))) (htl : ¬ tl = 0 ∨ ¬ tl2 = 0) (hd : [ak, af, as, ap, av].Nodup) (hoa : nq o a) (hca : nq oc c) (hob : nq o b) (hcb : nq oc c2) (hky : nq ky pl) : ct zl D [(cI, .int), (cN, .object "AlgebraTree$Node"), (cR, .object "AlgebraTree$Rows")] base yX1_makeOverTwo cX1_makeOverTwo 5 none 4 0 0 [.ref mo, .ref no, .ref a, .ref b, .ref o] V (fun zv zV => ∃ vl1 : Nat → Int32, ∃ kf1 : Nat → Int32, ∃ pf1 : Nat → Int32, ∃ n1 : Nat, ∃ tl1 : Int32, ∃ f1 : Nat → Int32, zv = none ∧ zV = gv_up (gv_up (gv_up (gv_up (gv_up V av (.inl (cI, 30, .inl vl1))) ky (.inl (cI, 80, .inl kf1))) pl (.inl (cI, 80, .inl pf1))) oc (.inl (cI, 486, .inl f1))) o (.inr (4, [.ref oc, .int (nI n1), .int tl1, .int omk])) ∧ (¬ tl1 = 0)) := by
  refine ct_of "AlgebraTree$Maker" rfl (by decide) (Nat.le_of_ble_eq_true rfl) ?_
  intro zp ze zs zm zargs zbelow zmeth zc C zr zlk znm
  refine k_pc (pc' := 0) (st' := []) rfl rfl ?_
  show K zp zl ze (gv_rm 4 0 0) zs zm zargs zbelow zmeth zc D base 5 (gv_E D [(cI, .int), (cN, .object "AlgebraTree$Node"), (cR, .object "AlgebraTree$Rows")] base zbelow zargs zs 0 0 (fun zv zV => ∃ vl1 : Nat → Int32, ∃ kf1 : Nat → Int32, ∃ pf1 : Nat → Int32, ∃ n1 : Nat, ∃ tl1 : Int32, ∃ f1 : Nat → Int32, zv = none ∧ zV = gv_up (gv_up (gv_up (gv_up (gv_up V av (.inl (cI, 30, .inl vl1))) ky (.inl (cI, 80, .inl kf1))) pl (.inl (cI, 80, .inl pf1))) oc (.inl (cI, 486, .inl f1))) o (.inr (4, [.ref oc, .int (nI n1), .int tl1, .int omk])) ∧ (¬ tl1 = 0))) V 0 0 [(0, .ref mo), (1, .ref no), (2, .ref a), (3, .ref b), (4, .ref o)] 0 []
  refine k_aload_n C dX1_makeOverTwo_0 rfl 2 rfl ?_
  refine k_get (ci := 4) (k := 2) C fl_1_109 h_a rfl dX1_makeOverTwo_1 ?_
  refine k_if_ne (tgt := 14) C dX1_makeOverTwo_4 (by decide) (fun c4 => ?_) (fun c4 => ?_)
  · skip
    refine k_aload C dX1_makeOverTwo_14 4 rfl ?_
    refine k_iconst (v := nI 1) C dX1_makeOverTwo_16 rfl ?_
    refine k_put (ci := 4) (k := 2) (fs' := [.ref oc, .int (nI 0), .int (nI 1), .int omk]) C fl_1_109 pf_4_2 h_o rfl rfl (Nat.le_of_ble_eq_true rfl) rfl dX1_makeOverTwo_17 ?_
    have ne1 : nq av o := gv_ne h_o h_av (by simp)
    refine k_view (V1 := gv_up (gv_up V o (.inr (4, [.ref oc, .int (nI 0), .int (nI 1), .int omk]))) av (.inl (cI, 30, .inl vl))) (gv_id ((gv_up_n ne1).trans h_av)).symm ?_
    have ne2 : nq ky o := gv_ne h_o h_ky (by simp)
    have ne3 : nq ky av := gv_ne h_av h_ky (by simp)
    refine k_view (V1 := gv_up (gv_up (gv_up V o (.inr (4, [.ref oc, .int (nI 0), .int (nI 1), .int omk]))) av (.inl (cI, 30, .inl vl))) ky (.inl (cI, 80, .inl kf))) (gv_id ((gv_up_n ne3).trans ((gv_up_n ne2).trans h_ky))).symm ?_
    have ne4 : nq pl o := gv_ne h_o h_pl (by simp)
    have ne5 : nq pl av := gv_ne h_av h_pl (by simp)
    refine k_view (V1 := gv_up (gv_up (gv_up (gv_up V o (.inr (4, [.ref oc, .int (nI 0), .int (nI 1), .int omk]))) av (.inl (cI, 30, .inl vl))) ky (.inl (cI, 80, .inl kf))) pl (.inl (cI, 80, .inl pf))) (gv_id ((gv_up_n (Ne.symm hky)).trans ((gv_up_n ne5).trans ((gv_up_n ne4).trans h_pl)))).symm ?_
    have ne6 : nq oc o := gv_ne h_o h_oc (by simp)
    have ne7 : nq oc av := gv_ne h_av h_oc (by simp)
    have ne8 : nq oc ky := gv_ne h_ky h_oc (by simp)
    have ne9 : nq oc pl := gv_ne h_pl h_oc (by simp)
    refine k_view (V1 := gv_up (gv_up (gv_up (gv_up (gv_up V o (.inr (4, [.ref oc, .int (nI 0), .int (nI 1), .int omk]))) av (.inl (cI, 30, .inl vl))) ky (.inl (cI, 80, .inl kf))) pl (.inl (cI, 80, .inl pf))) oc (.inl (cI, 486, .inl of))) (gv_id ((gv_up_n ne9).trans ((gv_up_n ne8).trans ((gv_up_n ne7).trans ((gv_up_n ne6).trans h_oc))))).symm ?_
    refine k_view (V1 := gv_up (gv_up (gv_up (gv_up (gv_up V av (.inl (cI, 30, .inl vl))) o (.inr (4, [.ref oc, .int (nI 0), .int (nI 1), .int omk]))) ky (.inl (cI, 80, .inl kf))) pl (.inl (cI, 80, .inl pf))) oc (.inl (cI, 486, .inl of))) (congrArg (fun W => gv_up W oc (.inl (cI, 486, .inl of))) (congrArg (fun W => gv_up W pl (.inl (cI, 80, .inl pf))) (congrArg (fun W => gv_up W ky (.inl (cI, 80, .inl kf))) (gv_uc ne1)))) ?_
    refine k_view (V1 := gv_up (gv_up (gv_up (gv_up (gv_up V av (.inl (cI, 30, .inl vl))) ky (.inl (cI, 80, .inl kf))) o (.inr (4, [.ref oc, .int (nI 0), .int (nI 1), .int omk]))) pl (.inl (cI, 80, .inl pf))) oc (.inl (cI, 486, .inl of))) (congrArg (fun W => gv_up W oc (.inl (cI, 486, .inl of))) (congrArg (fun W => gv_up W pl (.inl (cI, 80, .inl pf))) (gv_uc ne2))) ?_
    refine k_view (V1 := gv_up (gv_up (gv_up (gv_up (gv_up V av (.inl (cI, 30, .inl vl))) ky (.inl (cI, 80, .inl kf))) pl (.inl (cI, 80, .inl pf))) o (.inr (4, [.ref oc, .int (nI 0), .int (nI 1), .int omk]))) oc (.inl (cI, 486, .inl of))) (congrArg (fun W => gv_up W oc (.inl (cI, 486, .inl of))) (gv_uc ne4)) ?_
    refine k_view (V1 := gv_up (gv_up (gv_up (gv_up (gv_up V av (.inl (cI, 30, .inl vl))) ky (.inl (cI, 80, .inl kf))) pl (.inl (cI, 80, .inl pf))) oc (.inl (cI, 486, .inl of))) o (.inr (4, [.ref oc, .int (nI 0), .int (nI 1), .int omk]))) (gv_uc ne6) ?_
    exact k_vret C zr zlk ⟨vl, kf, pf, 0, nI 1, of, rfl, rfl, (by decide)⟩ (Nat.le_refl _) (Nat.le_refl _) dX1_makeOverTwo_20
  · skip
    refine k_aload_n C dX1_makeOverTwo_7 rfl 3 rfl ?_
    refine k_get (ci := 4) (k := 2) C fl_1_109 h_b rfl dX1_makeOverTwo_8 ?_
    refine k_if_eq (tgt := 21) C dX1_makeOverTwo_11 (by decide) (fun c11 => ?_) (fun c11 => ?_)
    · skip
      exact absurd c11 (htl.resolve_left (fun h => h c4))
    · skip
      refine k_aload C dX1_makeOverTwo_14 4 rfl ?_
      refine k_iconst (v := nI 1) C dX1_makeOverTwo_16 rfl ?_
      refine k_put (ci := 4) (k := 2) (fs' := [.ref oc, .int (nI 0), .int (nI 1), .int omk]) C fl_1_109 pf_4_2 h_o rfl rfl (Nat.le_of_ble_eq_true rfl) rfl dX1_makeOverTwo_17 ?_
      have ne10 : nq av o := gv_ne h_o h_av (by simp)
      refine k_view (V1 := gv_up (gv_up V o (.inr (4, [.ref oc, .int (nI 0), .int (nI 1), .int omk]))) av (.inl (cI, 30, .inl vl))) (gv_id ((gv_up_n ne10).trans h_av)).symm ?_
      have ne11 : nq ky o := gv_ne h_o h_ky (by simp)
      have ne12 : nq ky av := gv_ne h_av h_ky (by simp)
      refine k_view (V1 := gv_up (gv_up (gv_up V o (.inr (4, [.ref oc, .int (nI 0), .int (nI 1), .int omk]))) av (.inl (cI, 30, .inl vl))) ky (.inl (cI, 80, .inl kf))) (gv_id ((gv_up_n ne12).trans ((gv_up_n ne11).trans h_ky))).symm ?_
      have ne13 : nq pl o := gv_ne h_o h_pl (by simp)
      have ne14 : nq pl av := gv_ne h_av h_pl (by simp)
      refine k_view (V1 := gv_up (gv_up (gv_up (gv_up V o (.inr (4, [.ref oc, .int (nI 0), .int (nI 1), .int omk]))) av (.inl (cI, 30, .inl vl))) ky (.inl (cI, 80, .inl kf))) pl (.inl (cI, 80, .inl pf))) (gv_id ((gv_up_n (Ne.symm hky)).trans ((gv_up_n ne14).trans ((gv_up_n ne13).trans h_pl)))).symm ?_
      have ne15 : nq oc o := gv_ne h_o h_oc (by simp)
      have ne16 : nq oc av := gv_ne h_av h_oc (by simp)
      have ne17 : nq oc ky := gv_ne h_ky h_oc (by simp)
      have ne18 : nq oc pl := gv_ne h_pl h_oc (by simp)
      refine k_view (V1 := gv_up (gv_up (gv_up (gv_up (gv_up V o (.inr (4, [.ref oc, .int (nI 0), .int (nI 1), .int omk]))) av (.inl (cI, 30, .inl vl))) ky (.inl (cI, 80, .inl kf))) pl (.inl (cI, 80, .inl pf))) oc (.inl (cI, 486, .inl of))) (gv_id ((gv_up_n ne18).trans ((gv_up_n ne17).trans ((gv_up_n ne16).trans ((gv_up_n ne15).trans h_oc))))).symm ?_
      refine k_view (V1 := gv_up (gv_up (gv_up (gv_up (gv_up V av (.inl (cI, 30, .inl vl))) o (.inr (4, [.ref oc, .int (nI 0), .int (nI 1), .int omk]))) ky (.inl (cI, 80, .inl kf))) pl (.inl (cI, 80, .inl pf))) oc (.inl (cI, 486, .inl of))) (congrArg (fun W => gv_up W oc (.inl (cI, 486, .inl of))) (congrArg (fun W => gv_up W pl (.inl (cI, 80, .inl pf))) (congrArg (fun W => gv_up W ky (.inl (cI, 80, .inl kf))) (gv_uc ne10)))) ?_
      refine k_view (V1 := gv_up (gv_up (gv_up (gv_up (gv_up V av (.inl (cI, 30, .inl vl))) ky (.inl (cI, 80, .inl kf))) o (.inr (4, [.ref oc, .int (nI 0), .int (nI 1), .int omk]))) pl (.inl (cI, 80, .inl pf))) oc (.inl (cI, 486, .inl of))) (congrArg (fun W => gv_up W oc (.inl (cI, 486, .inl of))) (congrArg (fun W => gv_up W pl (.inl (cI, 80, .inl pf))) (gv_uc ne11))) ?_
      refine k_view (V1 := gv_up (gv_up (gv_up (gv_up (gv_up V av (.inl (cI, 30, .inl vl))) ky (.inl (cI, 80, .inl kf))) pl (.inl (cI, 80, .inl pf))) o (.inr (4, [.ref oc, .int (nI 0), .int (nI 1), .int omk]))) oc (.inl (cI, 486, .inl of))) (congrArg (fun W => gv_up W oc (.inl (cI, 486, .inl of))) (gv_uc ne13)) ?_
      refine k_view (V1 := gv_up (gv_up (gv_up (gv_up (gv_up V av (.inl (cI, 30, .inl vl))) ky (.inl (cI, 80, .inl kf))) pl (.inl (cI, 80, .inl pf))) oc (.inl (cI, 486, .inl of))) o (.inr (4, [.ref oc, .int (nI 0), .int (nI 1), .int omk]))) (gv_uc ne15) ?_
      exact k_vret C zr zlk ⟨vl, kf, pf, 0, nI 1, of, rfl, rfl, (by decide)⟩ (Nat.le_refl _) (Nat.le_refl _) dX1_makeOverTwo_20
set_option maxHeartbeats 4000000 in
set_option maxRecDepth 100000 in
theorem c_X1_makeEachGraph {zl : Launch} {D : va_G} {cI cN cR : ClassId} {base : Nat} {V : gv_V} {mo tr nd tb wg ky pl : Nat} {xe a0 vv : Nat} {no : Nat} {kind nb ps pp po ex st fr ln dn ag gr : Int32} {tf : Nat → Option Nat} {o oc : Nat} {omk : Int32} {of : Nat → Int32} {tA cA nA : Nat → Nat} {tlA mkA : Nat → Int32} {fA : Nat → Nat → Int32} {SA : Nat → Option (List Row)}  (h_mo : V mo = some (.inr (1, [.ref tr, .ref xe, .ref nd, .ref tb, .ref wg, .ref ky, .ref pl]))) (h_no : V no = some (.inr (2, [.int kind, .int (nI a0), .int nb, .int ps, .int pp, .int po, .int ex, .int (nI vv), .int st, .int fr, .int ln, .int dn, .int ag, .int gr]))) (h_tb : V tb = some (.inl (cR, 120, .inr (.inr (.inr (.inr tf)))))) (h_o : V o = some (.inr (4, [.ref oc, .int (nI 0), .int (nI 0), .int omk]))) (h_oc : V oc = some (.inl (cI, 486, .inl of))) (ha0 : a0 < 30) (hvv : vv < 6) (hch : ∀ g, 1 ≤ g → g < 4 → tf (a0 * 4 + g) = some (tA g) ∧ V (tA g) = some (.inr (4, [.ref (cA g), .int (nI (nA g)), .int (tlA g), .int (mkA g)])) ∧ V (cA g) = some (.inl (cI, 486, .inl (fA g))) ∧ nq o (tA g) ∧ nq oc (cA g) ∧ TRep (SA g) (nA g) (tlA g) (fA g)) : ct zl D [(cI, .int), (cN, .object "AlgebraTree$Node"), (cR, .object "AlgebraTree$Rows")] base yX1_makeEachGraph cX1_makeEachGraph 6 none 3 0 0 [.ref mo, .ref no, .ref o] V (fun zv zV => ∃ n1 : Nat, ∃ tl1 : Int32, ∃ f1 : Nat → Int32, zv = none ∧ zV = gv_up (gv_up V oc (.inl (cI, 486, .inl f1))) o (.inr (4, [.ref oc, .int (nI n1), .int tl1, .int omk])) ∧ (TRep (eachS SA vv) n1 tl1 f1)) := by
  refine ct_of "AlgebraTree$Maker" rfl (by decide) (Nat.le_of_ble_eq_true rfl) ?_
  intro zp ze zs zm zargs zbelow zmeth zc C zr zlk znm
  refine k_pc (pc' := 0) (st' := []) rfl rfl ?_
  show K zp zl ze (gv_rm 3 0 0) zs zm zargs zbelow zmeth zc D base 6 (gv_E D [(cI, .int), (cN, .object "AlgebraTree$Node"), (cR, .object "AlgebraTree$Rows")] base zbelow zargs zs 0 0 (fun zv zV => ∃ n1 : Nat, ∃ tl1 : Int32, ∃ f1 : Nat → Int32, zv = none ∧ zV = gv_up (gv_up V oc (.inl (cI, 486, .inl f1))) o (.inr (4, [.ref oc, .int (nI n1), .int tl1, .int omk])) ∧ (TRep (eachS SA vv) n1 tl1 f1))) V 0 0 [(0, .ref mo), (1, .ref no), (2, .ref o)] 0 []
  refine k_iconst (v := nI 1) C dX1_makeEachGraph_0 rfl ?_
  refine k_istore_n (lv' := [(3, .int (nI 1)), (0, .ref mo), (1, .ref no), (2, .ref o)]) C dX1_makeEachGraph_1 rfl (by decide) rfl ?_
  have L2 : ∀ (zn1 : Nat) (g : Nat) (n1 : Nat) (tl1 : Int32) (f1 : Nat → Int32), 4 - g < zn1 → (1 ≤ g ∧ g ≤ 4) → (∀ z, 1 ≤ z → z < g → (SA z).isNone = false) → (Rep (grP SA vv g) n1 tl1 f1) → K zp zl ze (gv_rm 3 0 0) zs zm zargs zbelow zmeth zc D base 6 (gv_E D [(cI, .int), (cN, .object "AlgebraTree$Node"), (cR, .object "AlgebraTree$Rows")] base zbelow zargs zs 0 0 (fun zv zV => ∃ n1 : Nat, ∃ tl1 : Int32, ∃ f1 : Nat → Int32, zv = none ∧ zV = gv_up (gv_up V oc (.inl (cI, 486, .inl f1))) o (.inr (4, [.ref oc, .int (nI n1), .int tl1, .int omk])) ∧ (TRep (eachS SA vv) n1 tl1 f1))) (gv_up (gv_up V oc (.inl (cI, 486, .inl f1))) o (.inr (4, [.ref oc, .int (nI n1), .int tl1, .int omk]))) 0 0 [(3, .int (nI g)), (0, .ref mo), (1, .ref no), (2, .ref o)] 2 [] := by
    intro zn1
    induction zn1 with
    | zero => intro g n1 tl1 f1 hlt; exact absurd hlt (Nat.not_lt_zero _)
    | succ zn1 ih2 =>
      intro g n1 tl1 f1 hlt2  hg hall hr1
      have hn1 := hr1.le
      refine k_iload_n C dX1_makeEachGraph_2 rfl 0 rfl ?_
      refine k_iconst (v := nI 4) C dX1_makeEachGraph_3 rfl ?_
      refine k_icmp_ge (tgt := 83) C dX1_makeEachGraph_4 (by decide) (fun c4 => ?_) (fun c4 => ?_)
      · skip
        have b4 : 4 ≤ g := (nI_leI (a := 4) (b := g) (by omega) (by omega)).mp c4
        exact k_vret C zr zlk ⟨n1, tl1, f1, rfl, rfl, by
          have he : eachS SA vv = cap (grP SA vv 4) := if_neg (by rw [hall 1 (by omega) (by omega), hall 2 (by omega) (by omega), hall 3 (by omega) (by omega)]; decide)
          rw [show g = 4 by omega] at hr1; rw [he]; exact hr1.tr⟩ (Nat.le_refl _) (Nat.le_refl _) dX1_makeEachGraph_83
      · skip
        have b4 : ¬ 4 ≤ g := fun z => c4 ((nI_leI (a := 4) (b := g) (by omega) (by omega)).mpr z)
        obtain ⟨htg, hra, hca, hoa, hoc, hS⟩ := hch g (by omega) (by omega)
        refine k_aload_n C dX1_makeEachGraph_7 rfl 1 rfl ?_
        refine k_aload_n C dX1_makeEachGraph_8 rfl 2 rfl ?_
        have ne2 : nq no oc := gv_ne h_oc h_no (by simp)
        have ne3 : nq no o := gv_ne h_o h_no (by simp)
        refine k_get (ci := 2) (k := 1) C fl_1_68 ((gv_up_n ne3).trans ((gv_up_n ne2).trans h_no)) rfl dX1_makeEachGraph_9 ?_
        refine k_iload_n C dX1_makeEachGraph_12 rfl 0 rfl ?_
        have ne4 : nq mo oc := gv_ne h_oc h_mo (by simp)
        have ne5 : nq mo o := gv_ne h_o h_mo (by simp)
        have ne6 : nq tb oc := gv_ne h_oc h_tb (by simp)
        have ne7 : nq tb o := gv_ne h_o h_tb (by simp)
        refine k_callV_pr C mv_1_56 (c_tableOf  ((gv_up_n ne5).trans ((gv_up_n ne4).trans h_mo)) ((gv_up_n ne7).trans ((gv_up_n ne6).trans h_tb)) (by first | assumption | omega) (by first | assumption | omega) htg) ((gv_up_n ne5).trans ((gv_up_n ne4).trans h_mo)) rfl rfl (by simp [Value.category]) ⟨by decide, by decide⟩ ⟨(by decide), (by decide)⟩ dX1_makeEachGraph_13 ?_
        refine k_astore (lv' := [(4, .ref (tA g)), (3, .int (nI g)), (0, .ref mo), (1, .ref no), (2, .ref o)]) C dX1_makeEachGraph_16 (by decide) rfl ?_
        refine k_aload C dX1_makeEachGraph_18 0 rfl ?_
        have ne8 : nq (tA g) oc := gv_ne h_oc hra (by simp)
        refine k_get (ci := 4) (k := 2) C fl_1_109 ((gv_up_n (Ne.symm hoa)).trans ((gv_up_n ne8).trans hra)) rfl dX1_makeEachGraph_20 ?_
        refine k_if_eq (tgt := 32) C dX1_makeEachGraph_23 (by decide) (fun c23 => ?_) (fun c23 => ?_)
        · skip
          obtain ⟨A, hSg, hT⟩ : ∃ A, SA g = some A ∧ Tab A (nA g) (fA g) := by
            cases hq : SA g with
            | none => rw [hq] at hS; exact absurd c23 hS
            | some A => rw [hq] at hS; exact ⟨A, rfl, hS.2⟩
          have hT1 := hT.1
          have hT2 := hT.2.1
          have hg4 : g < 4 := by omega
          refine k_iconst (v := nI 0) C dX1_makeEachGraph_32 rfl ?_
          refine k_istore (lv' := [(5, .int (nI 0)), (4, .ref (tA g)), (3, .int (nI g)), (0, .ref mo), (1, .ref no), (2, .ref o)]) C dX1_makeEachGraph_33 (by decide) rfl ?_
          have L35 : ∀ (zn9 : Nat) (j : Nat) (n3 : Nat) (tl3 : Int32) (f3 : Nat → Int32), nA g - j < zn9 → (j ≤ nA g) → (Rep (grP SA vv g ++ grL vv g (A.take j)) n3 tl3 f3) → K zp zl ze (gv_rm 3 0 0) zs zm zargs zbelow zmeth zc D base 6 (gv_E D [(cI, .int), (cN, .object "AlgebraTree$Node"), (cR, .object "AlgebraTree$Rows")] base zbelow zargs zs 0 0 (fun zv zV => ∃ n1 : Nat, ∃ tl1 : Int32, ∃ f1 : Nat → Int32, zv = none ∧ zV = gv_up (gv_up V oc (.inl (cI, 486, .inl f1))) o (.inr (4, [.ref oc, .int (nI n1), .int tl1, .int omk])) ∧ (TRep (eachS SA vv) n1 tl1 f1))) (gv_up (gv_up V oc (.inl (cI, 486, .inl f3))) o (.inr (4, [.ref oc, .int (nI n3), .int tl3, .int omk]))) 0 0 [(5, .int (nI j)), (4, .ref (tA g)), (3, .int (nI g)), (0, .ref mo), (1, .ref no), (2, .ref o)] 35 [] := by
            intro zn9
            induction zn9 with
            | zero => intro j n3 tl3 f3 hlt; exact absurd hlt (Nat.not_lt_zero _)
            | succ zn9 ih35 =>
              intro j n3 tl3 f3 hlt35  hj hr2
              have hn3 := hr2.le
              refine k_iload C dX1_makeEachGraph_35 0 rfl ?_
              refine k_aload C dX1_makeEachGraph_37 1 rfl ?_
              refine k_get (ci := 4) (k := 1) C fl_1_186 ((gv_up_n (Ne.symm hoa)).trans ((gv_up_n ne8).trans hra)) rfl dX1_makeEachGraph_39 ?_
              refine k_icmp_ge (tgt := 77) C dX1_makeEachGraph_42 (by decide) (fun c42 => ?_) (fun c42 => ?_)
              · skip
                have b42 : (nA g) ≤ j := (nI_leI (a := nA g) (b := j) (by omega) (by omega)).mp c42
                refine k_iinc (v := nI (g + 1)) (lv' := [(3, .int (nI (g + 1))), (5, .int (nI j)), (4, .ref (tA g)), (0, .ref mo), (1, .ref no), (2, .ref o)]) C dX1_makeEachGraph_77 (k := 2) rfl (nI_add g 1) (by decide) rfl ?_
                refine k_goto (tgt := 2) C dX1_makeEachGraph_80 (by decide) ?_
                refine k_sub [0, 3, 4, 5] (lv' := [(3, .int (nI (g + 1))), (0, .ref mo), (1, .ref no), (2, .ref o)]) rfl ?_
                exact ih2 (g + 1) n3 tl3 f3 (by omega)  (by omega) (fun z h1 h2 => by rcases Nat.lt_or_ge z g with h | h; (exact hall z h1 h); (rw [show z = g by omega, hSg]; rfl)) (by simp only [grP]; rw [if_neg (by omega), show opL (SA g) = A from by rw [hSg]; rfl]; rw [take_all (M := A) hT1 (show nA g ≤ j by omega)] at hr2; exact hr2)
              · skip
                have b42 : ¬ (nA g) ≤ j := fun z => c42 ((nI_leI (a := nA g) (b := j) (by omega) (by omega)).mpr z)
                refine k_aload_n C dX1_makeEachGraph_45 rfl 5 rfl ?_
                refine k_aload C dX1_makeEachGraph_46 1 rfl ?_
                refine k_iload C dX1_makeEachGraph_48 0 rfl ?_
                refine k_bipush (v := nI 63) C dX1_makeEachGraph_50 rfl ?_
                have ne10 : nq oc o := gv_ne h_o h_oc (by simp)
                have ne11 : nq (cA g) o := gv_ne h_o hca (by simp)
                refine k_callV_pv C mv_1_187 (c_X4_draftOf  gv_up_s ((gv_up_n ne10).trans gv_up_s) ((gv_up_n (Ne.symm hoa)).trans ((gv_up_n ne8).trans hra)) ((gv_up_n ne11).trans ((gv_up_n (Ne.symm hoc)).trans hca)) (by first | assumption | omega) (by first | assumption | omega) hoc) gv_up_s rfl rfl (by simp [Value.category]) ⟨by decide, by decide⟩ ⟨(by decide), (by decide)⟩ dX1_makeEachGraph_52 ?_
                refine k_view (V1 := gv_up (gv_up V oc (.inl (cI, 486, .inl (wrk f3 n3 (prj (nI 63) (rwf (fA g) j)) 6)))) o (.inr (4, [.ref oc, .int (nI n3), .int tl3, .int omk]))) ((gv_uc ne10).trans (congrArg (fun W => gv_up W o (.inr (4, [.ref oc, .int (nI n3), .int tl3, .int omk]))) gv_uu)) ?_
                refine k_aload_n C dX1_makeEachGraph_55 rfl 5 rfl ?_
                refine k_aload_n C dX1_makeEachGraph_56 rfl 4 rfl ?_
                refine k_get (ci := 2) (k := 7) C fl_1_191 ((gv_up_n ne3).trans ((gv_up_n ne2).trans h_no)) rfl dX1_makeEachGraph_57 ?_
                refine k_iload_n C dX1_makeEachGraph_60 rfl 2 rfl ?_
                refine k_callV_pi C mv_1_182 (c_X4_draftTakes  gv_up_s ((gv_up_n ne10).trans gv_up_s) (by first | assumption | omega) (by first | assumption | omega)) gv_up_s rfl rfl (by simp [Value.category]) ⟨by decide, by decide⟩ ⟨(by decide), (by decide)⟩ dX1_makeEachGraph_61 ?_
                refine k_view (V1 := gv_up (gv_up V oc (.inl (cI, 486, .inl (tk (wrk f3 n3 (prj (nI 63) (rwf (fA g) j)) 6) (n3 * 6 + vv) (nI g))))) o (.inr (4, [.ref oc, .int (nI n3), .int tl3, .int omk]))) ((gv_uc ne10).trans (congrArg (fun W => gv_up W o (.inr (4, [.ref oc, .int (nI n3), .int tl3, .int omk]))) gv_uu)) ?_
                refine k_if_eq (tgt := 71) C dX1_makeEachGraph_64 (by decide) (fun c64 => ?_) (fun c64 => ?_)
                · skip
                  have b64 : (tk (wrk f3 n3 (prj (nI 63) (rwf (fA g) j)) 6) (n3 * 6 + vv) (nI g) (n3 * 6 + vv) == (nI g)) = false := bI_0.mp c64
                  refine k_iinc (v := nI (j + 1)) (lv' := [(5, .int (nI (j + 1))), (4, .ref (tA g)), (3, .int (nI g)), (0, .ref mo), (1, .ref no), (2, .ref o)]) C dX1_makeEachGraph_71 (k := 0) rfl (nI_add j 1) (by decide) rfl ?_
                  refine k_goto (tgt := 35) C dX1_makeEachGraph_74 (by decide) ?_
                  exact ih35 (j + 1) n3 tl3 (tk (wrk f3 n3 (prj (nI 63) (rwf (fA g) j)) 6) (n3 * 6 + vv) (nI g)) (by omega)  (by omega) (by rw [grL_s (by omega), if_neg (by rw [← grX_tk (f := f3) (n := n3) hvv hg4 (eq6_prj (hT.at (show j < nA g by omega))), b64]; decide), List.append_nil]; exact hr2.lo (fun z hz => by rw [tk_lo (by omega)]; exact wrk_lo hz))
                · skip
                  have b64 : (tk (wrk f3 n3 (prj (nI 63) (rwf (fA g) j)) 6) (n3 * 6 + vv) (nI g) (n3 * 6 + vv) == (nI g)) = true := bI_n.mp c64
                  refine k_aload_n C dX1_makeEachGraph_67 rfl 5 rfl ?_
                  refine k_callV_pv C mv_1_179 (c_X4_keepDraft  gv_up_s ((gv_up_n ne10).trans gv_up_s) (by first | assumption | omega)) gv_up_s rfl rfl (by simp [Value.category]) ⟨by decide, by decide⟩ ⟨(by decide), (by decide)⟩ dX1_makeEachGraph_68 ?_
                  refine k_view (V1 := gv_up (gv_up V oc (.inl (cI, 486, .inl (tk (wrk f3 n3 (prj (nI 63) (rwf (fA g) j)) 6) (n3 * 6 + vv) (nI g))))) o (.inr (4, [.ref oc, .int (nI (if n3 = 80 then 80 else n3 + 1)), .int (if n3 = 80 then 1 else tl3), .int omk]))) gv_uu ?_
                  refine k_iinc (v := nI (j + 1)) (lv' := [(5, .int (nI (j + 1))), (4, .ref (tA g)), (3, .int (nI g)), (0, .ref mo), (1, .ref no), (2, .ref o)]) C dX1_makeEachGraph_71 (k := 0) rfl (nI_add j 1) (by decide) rfl ?_
                  refine k_goto (tgt := 35) C dX1_makeEachGraph_74 (by decide) ?_
                  exact ih35 (j + 1) (if n3 = 80 then 80 else n3 + 1) (if n3 = 80 then 1 else tl3) (tk (wrk f3 n3 (prj (nI 63) (rwf (fA g) j)) 6) (n3 * 6 + vv) (nI g)) (by omega)  (by omega) (by rw [grL_s (by omega), if_pos (by rw [← grX_tk (f := f3) (n := n3) hvv hg4 (eq6_prj (hT.at (show j < nA g by omega))), b64]), ← List.append_assoc]; exact hr2.addx (fun w hw => by rw [extR_tk hw hvv]; exact extR_c (eq6_prj (hT.at (by omega))) w hw) (fun z hz => by rw [tk_lo (by omega)]; exact wrk_lo hz))
          exact L35 _ 0 n1 tl1 f1 (Nat.lt_succ_self _)  (by omega) (by simpa [grL] using hr1)
        · skip
          refine k_aload_n C dX1_makeEachGraph_26 rfl 4 rfl ?_
          refine k_iconst (v := nI 1) C dX1_makeEachGraph_27 rfl ?_
          refine k_put (ci := 4) (k := 2) (fs' := [.ref oc, .int (nI n1), .int (nI 1), .int omk]) C fl_1_109 pf_4_2 gv_up_s rfl rfl (Nat.le_of_ble_eq_true rfl) rfl dX1_makeEachGraph_28 ?_
          refine k_view (V1 := gv_up (gv_up V oc (.inl (cI, 486, .inl f1))) o (.inr (4, [.ref oc, .int (nI n1), .int (nI 1), .int omk]))) gv_uu ?_
          exact k_vret C zr zlk ⟨n1, nI 1, f1, rfl, rfl, (by
            have hSg : SA g = none := by
              cases hq : SA g with
              | none => rfl
              | some A => rw [hq] at hS; exact absurd hS.1 c23
            have he : eachS SA vv = none := if_pos (by
              rcases (show g = 1 ∨ g = 2 ∨ g = 3 by omega) with h | h | h
              · exact Or.inl (by rw [← h, hSg]; rfl)
              · exact Or.inr (Or.inl (by rw [← h, hSg]; rfl))
              · exact Or.inr (Or.inr (by rw [← h, hSg]; rfl)))
            rw [he]; exact (by decide : ¬ nI 1 = 0))⟩ (Nat.le_refl _) (Nat.le_refl _) dX1_makeEachGraph_31
  refine k_view (V1 := gv_up V oc (.inl (cI, 486, .inl of))) (gv_id h_oc).symm ?_
  have ne12 : nq o oc := gv_ne h_oc h_o (by simp)
  refine k_view (V1 := gv_up (gv_up V oc (.inl (cI, 486, .inl of))) o (.inr (4, [.ref oc, .int (nI 0), .int (nI 0), .int omk]))) (gv_id ((gv_up_n ne12).trans h_o)).symm ?_
  exact L2 _ 1 0 (nI 0) of (Nat.lt_succ_self _)  (by omega) (fun z h1 h2 => by omega) Rep.nil
