set_option maxHeartbeats 4000000 in
set_option maxRecDepth 100000 in
theorem c_X7_init {zl : Launch} {D : va_G} {cI cN cR : ClassId} {base : Nat} {V : gv_V} {m : Nat}  (h_m : V m = some (.inr (7, [.int 0, .null, .int 0, .null, .null, .int 0, .null, .int 0, .null, .null, .null, .int 0, .null, .null, .null])))  : ct zl D [(cI, .int), (cN, .object "AlgebraTree$Node"), (cR, .object "AlgebraTree$Rows")] base yX7_init cX7_init 1 none 1 10 58906 [.ref m] V (fun zv zV => ∃ wt : Nat, ∃ wa : Nat, ∃ wv : Nat, ∃ wm : Nat, ∃ wr : Nat, ∃ wc : Nat, ∃ wn : Nat, ∃ ws : Nat, ∃ wk : Nat, ∃ wp : Nat, zv = none ∧ zV = gv_up (gv_up (gv_up (gv_up (gv_up (gv_up (gv_up (gv_up (gv_up (gv_up (gv_up V m (.inr (7, [.int 0, .ref wt, .int 0, .ref wa, .ref wv, .int 0, .ref wm, .int (nI 1), .ref wr, .ref wc, .ref wn, .int 0, .ref ws, .ref wk, .ref wp]))) wt (.inl (cI, 240, .inl (fun _ => 0)))) wa (.inl (cI, 90, .inl (fun _ => 0)))) wv (.inl (cI, 30, .inl (fun _ => 0)))) wm (.inl (cI, 180, .inl (fun _ => 0)))) wr (.inl (cI, 57600, .inl (fun _ => 0)))) wc (.inl (cI, 120, .inl (fun _ => 0)))) wn (.inl (cI, 6, .inl (fun _ => 0)))) ws (.inl (cI, 480, .inl (fun _ => 0)))) wk (.inl (cI, 80, .inl (fun _ => 0)))) wp (.inl (cI, 80, .inl (fun _ => 0))) ∧ (V wt = none) ∧ (V wa = none) ∧ (V wv = none) ∧ (V wm = none) ∧ (V wr = none) ∧ (V wc = none) ∧ (V wn = none) ∧ (V ws = none) ∧ (V wk = none) ∧ (V wp = none) ∧ ([wt, wa, wv, wm, wr, wc, wn, ws, wk, wp].Nodup)) := by
  refine ct_of "AlgebraTreeModel" rfl (by decide) (Nat.le_of_ble_eq_true rfl) ?_
  intro zp ze zs zm zargs zbelow zmeth zc C zr zlk znm
  refine k_pc (pc' := 0) (st' := []) rfl rfl ?_
  show K zp zl ze (gv_rm 1 10 58906) zs zm zargs zbelow zmeth zc D base 1 (gv_E D [(cI, .int), (cN, .object "AlgebraTree$Node"), (cR, .object "AlgebraTree$Rows")] base zbelow zargs zs 10 58906 (fun zv zV => ∃ wt : Nat, ∃ wa : Nat, ∃ wv : Nat, ∃ wm : Nat, ∃ wr : Nat, ∃ wc : Nat, ∃ wn : Nat, ∃ ws : Nat, ∃ wk : Nat, ∃ wp : Nat, zv = none ∧ zV = gv_up (gv_up (gv_up (gv_up (gv_up (gv_up (gv_up (gv_up (gv_up (gv_up (gv_up V m (.inr (7, [.int 0, .ref wt, .int 0, .ref wa, .ref wv, .int 0, .ref wm, .int (nI 1), .ref wr, .ref wc, .ref wn, .int 0, .ref ws, .ref wk, .ref wp]))) wt (.inl (cI, 240, .inl (fun _ => 0)))) wa (.inl (cI, 90, .inl (fun _ => 0)))) wv (.inl (cI, 30, .inl (fun _ => 0)))) wm (.inl (cI, 180, .inl (fun _ => 0)))) wr (.inl (cI, 57600, .inl (fun _ => 0)))) wc (.inl (cI, 120, .inl (fun _ => 0)))) wn (.inl (cI, 6, .inl (fun _ => 0)))) ws (.inl (cI, 480, .inl (fun _ => 0)))) wk (.inl (cI, 80, .inl (fun _ => 0)))) wp (.inl (cI, 80, .inl (fun _ => 0))) ∧ (V wt = none) ∧ (V wa = none) ∧ (V wv = none) ∧ (V wm = none) ∧ (V wr = none) ∧ (V wc = none) ∧ (V wn = none) ∧ (V ws = none) ∧ (V wk = none) ∧ (V wp = none) ∧ ([wt, wa, wv, wm, wr, wc, wn, ws, wk, wp].Nodup))) V 0 0 [(0, .ref m)] 0 []
  refine k_aload_n C dX7_init_0 rfl 0 rfl ?_
  refine k_objInit C wd_626 wd_61 wd_62 dX7_init_1 (by decide) (by decide) ?_
  refine k_aload_n C dX7_init_4 rfl 0 rfl ?_
  refine k_sipush (v := nI 240) C dX7_init_5 rfl ?_
  refine k_newi C 0 rfl wd_96 (nI_pos (by decide)) (nI_clamp (by decide)) (by decide) (by decide) (by decide) dX7_init_8 (fun q1 hq1 => ?_)
  have ne2 : nq m q1 := gv_nf hq1 h_m
  refine k_putF (ci := 7) (k := 1) (fs' := [.int 0, .ref q1, .int 0, .null, .null, .int 0, .null, .int 0, .null, .null, .null, .int 0, .null, .null, .null]) C znm ff_7_7 pf_7_1 ((gv_up_n ne2).trans h_m) rfl rfl (Nat.le_of_ble_eq_true rfl) rfl dX7_init_10 ?_
  refine k_aload_n C dX7_init_13 rfl 0 rfl ?_
  refine k_bipush (v := nI 90) C dX7_init_14 rfl ?_
  refine k_newi C 0 rfl wd_96 (nI_pos (by decide)) (nI_clamp (by decide)) (by decide) (by decide) (by decide) dX7_init_16 (fun q3 hq3 => ?_)
  have ne4 : nq m q3 := gv_nf hq3 gv_up_s
  have ne5 : nq q1 q3 := gv_nf hq3 ((gv_up_n (Ne.symm ne2)).trans gv_up_s)
  refine k_putF (ci := 7) (k := 3) (fs' := [.int 0, .ref q1, .int 0, .ref q3, .null, .int 0, .null, .int 0, .null, .null, .null, .int 0, .null, .null, .null]) C znm ff_7_13 pf_7_3 ((gv_up_n ne4).trans gv_up_s) rfl rfl (Nat.le_of_ble_eq_true rfl) rfl dX7_init_18 ?_
  refine k_view (V1 := gv_up (gv_up (gv_up V q1 (.inl (cI, 240, .inl (fun _ => 0)))) m (.inr (7, [.int 0, .ref q1, .int 0, .ref q3, .null, .int 0, .null, .int 0, .null, .null, .null, .int 0, .null, .null, .null]))) q3 (.inl (cI, 90, .inl (fun _ => 0)))) ((gv_uc ne4).trans (congrArg (fun W => gv_up W q3 (.inl (cI, 90, .inl (fun _ => 0)))) gv_uu)) ?_
  refine k_aload_n C dX7_init_21 rfl 0 rfl ?_
  refine k_bipush (v := nI 30) C dX7_init_22 rfl ?_
  refine k_newi C 0 rfl wd_96 (nI_pos (by decide)) (nI_clamp (by decide)) (by decide) (by decide) (by decide) dX7_init_24 (fun q6 hq6 => ?_)
  have ne7 : nq m q6 := gv_nf hq6 ((gv_up_n ne4).trans gv_up_s)
  have ne8 : nq q1 q6 := gv_nf hq6 ((gv_up_n ne5).trans ((gv_up_n (Ne.symm ne2)).trans gv_up_s))
  have ne9 : nq q3 q6 := gv_nf hq6 gv_up_s
  refine k_putF (ci := 7) (k := 4) (fs' := [.int 0, .ref q1, .int 0, .ref q3, .ref q6, .int 0, .null, .int 0, .null, .null, .null, .int 0, .null, .null, .null]) C znm ff_7_16 pf_7_4 ((gv_up_n ne7).trans ((gv_up_n ne4).trans gv_up_s)) rfl rfl (Nat.le_of_ble_eq_true rfl) rfl dX7_init_26 ?_
  refine k_view (V1 := gv_up (gv_up (gv_up (gv_up V q1 (.inl (cI, 240, .inl (fun _ => 0)))) m (.inr (7, [.int 0, .ref q1, .int 0, .ref q3, .ref q6, .int 0, .null, .int 0, .null, .null, .null, .int 0, .null, .null, .null]))) q3 (.inl (cI, 90, .inl (fun _ => 0)))) q6 (.inl (cI, 30, .inl (fun _ => 0)))) ((gv_uc ne7).trans (congrArg (fun W => gv_up W q6 (.inl (cI, 30, .inl (fun _ => 0)))) ((gv_uc ne4).trans (congrArg (fun W => gv_up W q3 (.inl (cI, 90, .inl (fun _ => 0)))) gv_uu)))) ?_
  refine k_aload_n C dX7_init_29 rfl 0 rfl ?_
  refine k_sipush (v := nI 180) C dX7_init_30 rfl ?_
  refine k_newi C 0 rfl wd_96 (nI_pos (by decide)) (nI_clamp (by decide)) (by decide) (by decide) (by decide) dX7_init_33 (fun q10 hq10 => ?_)
  have ne11 : nq m q10 := gv_nf hq10 ((gv_up_n ne7).trans ((gv_up_n ne4).trans gv_up_s))
  have ne12 : nq q1 q10 := gv_nf hq10 ((gv_up_n ne8).trans ((gv_up_n ne5).trans ((gv_up_n (Ne.symm ne2)).trans gv_up_s)))
  have ne13 : nq q3 q10 := gv_nf hq10 ((gv_up_n ne9).trans gv_up_s)
  have ne14 : nq q6 q10 := gv_nf hq10 gv_up_s
  refine k_putF (ci := 7) (k := 6) (fs' := [.int 0, .ref q1, .int 0, .ref q3, .ref q6, .int 0, .ref q10, .int 0, .null, .null, .null, .int 0, .null, .null, .null]) C znm ff_7_19 pf_7_6 ((gv_up_n ne11).trans ((gv_up_n ne7).trans ((gv_up_n ne4).trans gv_up_s))) rfl rfl (Nat.le_of_ble_eq_true rfl) rfl dX7_init_35 ?_
  refine k_view (V1 := gv_up (gv_up (gv_up (gv_up (gv_up V q1 (.inl (cI, 240, .inl (fun _ => 0)))) m (.inr (7, [.int 0, .ref q1, .int 0, .ref q3, .ref q6, .int 0, .ref q10, .int 0, .null, .null, .null, .int 0, .null, .null, .null]))) q3 (.inl (cI, 90, .inl (fun _ => 0)))) q6 (.inl (cI, 30, .inl (fun _ => 0)))) q10 (.inl (cI, 180, .inl (fun _ => 0)))) ((gv_uc ne11).trans (congrArg (fun W => gv_up W q10 (.inl (cI, 180, .inl (fun _ => 0)))) ((gv_uc ne7).trans (congrArg (fun W => gv_up W q6 (.inl (cI, 30, .inl (fun _ => 0)))) ((gv_uc ne4).trans (congrArg (fun W => gv_up W q3 (.inl (cI, 90, .inl (fun _ => 0)))) gv_uu)))))) ?_
  refine k_aload_n C dX7_init_38 rfl 0 rfl ?_
  refine k_ldc (v := (57600)) C wd_627 dX7_init_39 ?_
  refine k_val (y := nI 57600) rfl ?_
  refine k_newi C 0 rfl wd_96 (nI_pos (by decide)) (nI_clamp (by decide)) (by decide) (by decide) (by decide) dX7_init_41 (fun q15 hq15 => ?_)
  have ne16 : nq m q15 := gv_nf hq15 ((gv_up_n ne11).trans ((gv_up_n ne7).trans ((gv_up_n ne4).trans gv_up_s)))
  have ne17 : nq q1 q15 := gv_nf hq15 ((gv_up_n ne12).trans ((gv_up_n ne8).trans ((gv_up_n ne5).trans ((gv_up_n (Ne.symm ne2)).trans gv_up_s))))
  have ne18 : nq q3 q15 := gv_nf hq15 ((gv_up_n ne13).trans ((gv_up_n ne9).trans gv_up_s))
  have ne19 : nq q6 q15 := gv_nf hq15 ((gv_up_n ne14).trans gv_up_s)
  have ne20 : nq q10 q15 := gv_nf hq15 gv_up_s
  refine k_putF (ci := 7) (k := 8) (fs' := [.int 0, .ref q1, .int 0, .ref q3, .ref q6, .int 0, .ref q10, .int 0, .ref q15, .null, .null, .int 0, .null, .null, .null]) C znm ff_7_23 pf_7_8 ((gv_up_n ne16).trans ((gv_up_n ne11).trans ((gv_up_n ne7).trans ((gv_up_n ne4).trans gv_up_s)))) rfl rfl (Nat.le_of_ble_eq_true rfl) rfl dX7_init_43 ?_
  refine k_view (V1 := gv_up (gv_up (gv_up (gv_up (gv_up (gv_up V q1 (.inl (cI, 240, .inl (fun _ => 0)))) m (.inr (7, [.int 0, .ref q1, .int 0, .ref q3, .ref q6, .int 0, .ref q10, .int 0, .ref q15, .null, .null, .int 0, .null, .null, .null]))) q3 (.inl (cI, 90, .inl (fun _ => 0)))) q6 (.inl (cI, 30, .inl (fun _ => 0)))) q10 (.inl (cI, 180, .inl (fun _ => 0)))) q15 (.inl (cI, 57600, .inl (fun _ => 0)))) ((gv_uc ne16).trans (congrArg (fun W => gv_up W q15 (.inl (cI, 57600, .inl (fun _ => 0)))) ((gv_uc ne11).trans (congrArg (fun W => gv_up W q10 (.inl (cI, 180, .inl (fun _ => 0)))) ((gv_uc ne7).trans (congrArg (fun W => gv_up W q6 (.inl (cI, 30, .inl (fun _ => 0)))) ((gv_uc ne4).trans (congrArg (fun W => gv_up W q3 (.inl (cI, 90, .inl (fun _ => 0)))) gv_uu)))))))) ?_
  refine k_aload_n C dX7_init_46 rfl 0 rfl ?_
  refine k_bipush (v := nI 120) C dX7_init_47 rfl ?_
  refine k_newi C 0 rfl wd_96 (nI_pos (by decide)) (nI_clamp (by decide)) (by decide) (by decide) (by decide) dX7_init_49 (fun q21 hq21 => ?_)
  have ne22 : nq m q21 := gv_nf hq21 ((gv_up_n ne16).trans ((gv_up_n ne11).trans ((gv_up_n ne7).trans ((gv_up_n ne4).trans gv_up_s))))
  have ne23 : nq q1 q21 := gv_nf hq21 ((gv_up_n ne17).trans ((gv_up_n ne12).trans ((gv_up_n ne8).trans ((gv_up_n ne5).trans ((gv_up_n (Ne.symm ne2)).trans gv_up_s)))))
  have ne24 : nq q3 q21 := gv_nf hq21 ((gv_up_n ne18).trans ((gv_up_n ne13).trans ((gv_up_n ne9).trans gv_up_s)))
  have ne25 : nq q6 q21 := gv_nf hq21 ((gv_up_n ne19).trans ((gv_up_n ne14).trans gv_up_s))
  have ne26 : nq q10 q21 := gv_nf hq21 ((gv_up_n ne20).trans gv_up_s)
  have ne27 : nq q15 q21 := gv_nf hq21 gv_up_s
  refine k_putF (ci := 7) (k := 9) (fs' := [.int 0, .ref q1, .int 0, .ref q3, .ref q6, .int 0, .ref q10, .int 0, .ref q15, .ref q21, .null, .int 0, .null, .null, .null]) C znm ff_7_26 pf_7_9 ((gv_up_n ne22).trans ((gv_up_n ne16).trans ((gv_up_n ne11).trans ((gv_up_n ne7).trans ((gv_up_n ne4).trans gv_up_s))))) rfl rfl (Nat.le_of_ble_eq_true rfl) rfl dX7_init_51 ?_
  refine k_view (V1 := gv_up (gv_up (gv_up (gv_up (gv_up (gv_up (gv_up V q1 (.inl (cI, 240, .inl (fun _ => 0)))) m (.inr (7, [.int 0, .ref q1, .int 0, .ref q3, .ref q6, .int 0, .ref q10, .int 0, .ref q15, .ref q21, .null, .int 0, .null, .null, .null]))) q3 (.inl (cI, 90, .inl (fun _ => 0)))) q6 (.inl (cI, 30, .inl (fun _ => 0)))) q10 (.inl (cI, 180, .inl (fun _ => 0)))) q15 (.inl (cI, 57600, .inl (fun _ => 0)))) q21 (.inl (cI, 120, .inl (fun _ => 0)))) ((gv_uc ne22).trans (congrArg (fun W => gv_up W q21 (.inl (cI, 120, .inl (fun _ => 0)))) ((gv_uc ne16).trans (congrArg (fun W => gv_up W q15 (.inl (cI, 57600, .inl (fun _ => 0)))) ((gv_uc ne11).trans (congrArg (fun W => gv_up W q10 (.inl (cI, 180, .inl (fun _ => 0)))) ((gv_uc ne7).trans (congrArg (fun W => gv_up W q6 (.inl (cI, 30, .inl (fun _ => 0)))) ((gv_uc ne4).trans (congrArg (fun W => gv_up W q3 (.inl (cI, 90, .inl (fun _ => 0)))) gv_uu)))))))))) ?_
  refine k_aload_n C dX7_init_54 rfl 0 rfl ?_
  refine k_bipush (v := nI 6) C dX7_init_55 rfl ?_
  refine k_newi C 0 rfl wd_96 (nI_pos (by decide)) (nI_clamp (by decide)) (by decide) (by decide) (by decide) dX7_init_57 (fun q28 hq28 => ?_)
  have ne29 : nq m q28 := gv_nf hq28 ((gv_up_n ne22).trans ((gv_up_n ne16).trans ((gv_up_n ne11).trans ((gv_up_n ne7).trans ((gv_up_n ne4).trans gv_up_s)))))
  have ne30 : nq q1 q28 := gv_nf hq28 ((gv_up_n ne23).trans ((gv_up_n ne17).trans ((gv_up_n ne12).trans ((gv_up_n ne8).trans ((gv_up_n ne5).trans ((gv_up_n (Ne.symm ne2)).trans gv_up_s))))))
  have ne31 : nq q3 q28 := gv_nf hq28 ((gv_up_n ne24).trans ((gv_up_n ne18).trans ((gv_up_n ne13).trans ((gv_up_n ne9).trans gv_up_s))))
  have ne32 : nq q6 q28 := gv_nf hq28 ((gv_up_n ne25).trans ((gv_up_n ne19).trans ((gv_up_n ne14).trans gv_up_s)))
  have ne33 : nq q10 q28 := gv_nf hq28 ((gv_up_n ne26).trans ((gv_up_n ne20).trans gv_up_s))
  have ne34 : nq q15 q28 := gv_nf hq28 ((gv_up_n ne27).trans gv_up_s)
  have ne35 : nq q21 q28 := gv_nf hq28 gv_up_s
  refine k_putF (ci := 7) (k := 10) (fs' := [.int 0, .ref q1, .int 0, .ref q3, .ref q6, .int 0, .ref q10, .int 0, .ref q15, .ref q21, .ref q28, .int 0, .null, .null, .null]) C znm ff_7_29 pf_7_10 ((gv_up_n ne29).trans ((gv_up_n ne22).trans ((gv_up_n ne16).trans ((gv_up_n ne11).trans ((gv_up_n ne7).trans ((gv_up_n ne4).trans gv_up_s)))))) rfl rfl (Nat.le_of_ble_eq_true rfl) rfl dX7_init_59 ?_
  refine k_view (V1 := gv_up (gv_up (gv_up (gv_up (gv_up (gv_up (gv_up (gv_up V q1 (.inl (cI, 240, .inl (fun _ => 0)))) m (.inr (7, [.int 0, .ref q1, .int 0, .ref q3, .ref q6, .int 0, .ref q10, .int 0, .ref q15, .ref q21, .ref q28, .int 0, .null, .null, .null]))) q3 (.inl (cI, 90, .inl (fun _ => 0)))) q6 (.inl (cI, 30, .inl (fun _ => 0)))) q10 (.inl (cI, 180, .inl (fun _ => 0)))) q15 (.inl (cI, 57600, .inl (fun _ => 0)))) q21 (.inl (cI, 120, .inl (fun _ => 0)))) q28 (.inl (cI, 6, .inl (fun _ => 0)))) ((gv_uc ne29).trans (congrArg (fun W => gv_up W q28 (.inl (cI, 6, .inl (fun _ => 0)))) ((gv_uc ne22).trans (congrArg (fun W => gv_up W q21 (.inl (cI, 120, .inl (fun _ => 0)))) ((gv_uc ne16).trans (congrArg (fun W => gv_up W q15 (.inl (cI, 57600, .inl (fun _ => 0)))) ((gv_uc ne11).trans (congrArg (fun W => gv_up W q10 (.inl (cI, 180, .inl (fun _ => 0)))) ((gv_uc ne7).trans (congrArg (fun W => gv_up W q6 (.inl (cI, 30, .inl (fun _ => 0)))) ((gv_uc ne4).trans (congrArg (fun W => gv_up W q3 (.inl (cI, 90, .inl (fun _ => 0)))) gv_uu)))))))))))) ?_
  refine k_aload_n C dX7_init_62 rfl 0 rfl ?_
  refine k_sipush (v := nI 480) C dX7_init_63 rfl ?_
  refine k_newi C 0 rfl wd_96 (nI_pos (by decide)) (nI_clamp (by decide)) (by decide) (by decide) (by decide) dX7_init_66 (fun q36 hq36 => ?_)
  have ne37 : nq m q36 := gv_nf hq36 ((gv_up_n ne29).trans ((gv_up_n ne22).trans ((gv_up_n ne16).trans ((gv_up_n ne11).trans ((gv_up_n ne7).trans ((gv_up_n ne4).trans gv_up_s))))))
  have ne38 : nq q1 q36 := gv_nf hq36 ((gv_up_n ne30).trans ((gv_up_n ne23).trans ((gv_up_n ne17).trans ((gv_up_n ne12).trans ((gv_up_n ne8).trans ((gv_up_n ne5).trans ((gv_up_n (Ne.symm ne2)).trans gv_up_s)))))))
  have ne39 : nq q3 q36 := gv_nf hq36 ((gv_up_n ne31).trans ((gv_up_n ne24).trans ((gv_up_n ne18).trans ((gv_up_n ne13).trans ((gv_up_n ne9).trans gv_up_s)))))
  have ne40 : nq q6 q36 := gv_nf hq36 ((gv_up_n ne32).trans ((gv_up_n ne25).trans ((gv_up_n ne19).trans ((gv_up_n ne14).trans gv_up_s))))
  have ne41 : nq q10 q36 := gv_nf hq36 ((gv_up_n ne33).trans ((gv_up_n ne26).trans ((gv_up_n ne20).trans gv_up_s)))
  have ne42 : nq q15 q36 := gv_nf hq36 ((gv_up_n ne34).trans ((gv_up_n ne27).trans gv_up_s))
  have ne43 : nq q21 q36 := gv_nf hq36 ((gv_up_n ne35).trans gv_up_s)
  have ne44 : nq q28 q36 := gv_nf hq36 gv_up_s
  refine k_putF (ci := 7) (k := 12) (fs' := [.int 0, .ref q1, .int 0, .ref q3, .ref q6, .int 0, .ref q10, .int 0, .ref q15, .ref q21, .ref q28, .int 0, .ref q36, .null, .null]) C znm ff_7_32 pf_7_12 ((gv_up_n ne37).trans ((gv_up_n ne29).trans ((gv_up_n ne22).trans ((gv_up_n ne16).trans ((gv_up_n ne11).trans ((gv_up_n ne7).trans ((gv_up_n ne4).trans gv_up_s))))))) rfl rfl (Nat.le_of_ble_eq_true rfl) rfl dX7_init_68 ?_
  refine k_view (V1 := gv_up (gv_up (gv_up (gv_up (gv_up (gv_up (gv_up (gv_up (gv_up V q1 (.inl (cI, 240, .inl (fun _ => 0)))) m (.inr (7, [.int 0, .ref q1, .int 0, .ref q3, .ref q6, .int 0, .ref q10, .int 0, .ref q15, .ref q21, .ref q28, .int 0, .ref q36, .null, .null]))) q3 (.inl (cI, 90, .inl (fun _ => 0)))) q6 (.inl (cI, 30, .inl (fun _ => 0)))) q10 (.inl (cI, 180, .inl (fun _ => 0)))) q15 (.inl (cI, 57600, .inl (fun _ => 0)))) q21 (.inl (cI, 120, .inl (fun _ => 0)))) q28 (.inl (cI, 6, .inl (fun _ => 0)))) q36 (.inl (cI, 480, .inl (fun _ => 0)))) ((gv_uc ne37).trans (congrArg (fun W => gv_up W q36 (.inl (cI, 480, .inl (fun _ => 0)))) ((gv_uc ne29).trans (congrArg (fun W => gv_up W q28 (.inl (cI, 6, .inl (fun _ => 0)))) ((gv_uc ne22).trans (congrArg (fun W => gv_up W q21 (.inl (cI, 120, .inl (fun _ => 0)))) ((gv_uc ne16).trans (congrArg (fun W => gv_up W q15 (.inl (cI, 57600, .inl (fun _ => 0)))) ((gv_uc ne11).trans (congrArg (fun W => gv_up W q10 (.inl (cI, 180, .inl (fun _ => 0)))) ((gv_uc ne7).trans (congrArg (fun W => gv_up W q6 (.inl (cI, 30, .inl (fun _ => 0)))) ((gv_uc ne4).trans (congrArg (fun W => gv_up W q3 (.inl (cI, 90, .inl (fun _ => 0)))) gv_uu)))))))))))))) ?_
  refine k_aload_n C dX7_init_71 rfl 0 rfl ?_
  refine k_bipush (v := nI 80) C dX7_init_72 rfl ?_
  refine k_newi C 0 rfl wd_96 (nI_pos (by decide)) (nI_clamp (by decide)) (by decide) (by decide) (by decide) dX7_init_74 (fun q45 hq45 => ?_)
  have ne46 : nq m q45 := gv_nf hq45 ((gv_up_n ne37).trans ((gv_up_n ne29).trans ((gv_up_n ne22).trans ((gv_up_n ne16).trans ((gv_up_n ne11).trans ((gv_up_n ne7).trans ((gv_up_n ne4).trans gv_up_s)))))))
  have ne47 : nq q1 q45 := gv_nf hq45 ((gv_up_n ne38).trans ((gv_up_n ne30).trans ((gv_up_n ne23).trans ((gv_up_n ne17).trans ((gv_up_n ne12).trans ((gv_up_n ne8).trans ((gv_up_n ne5).trans ((gv_up_n (Ne.symm ne2)).trans gv_up_s))))))))
  have ne48 : nq q3 q45 := gv_nf hq45 ((gv_up_n ne39).trans ((gv_up_n ne31).trans ((gv_up_n ne24).trans ((gv_up_n ne18).trans ((gv_up_n ne13).trans ((gv_up_n ne9).trans gv_up_s))))))
  have ne49 : nq q6 q45 := gv_nf hq45 ((gv_up_n ne40).trans ((gv_up_n ne32).trans ((gv_up_n ne25).trans ((gv_up_n ne19).trans ((gv_up_n ne14).trans gv_up_s)))))
  have ne50 : nq q10 q45 := gv_nf hq45 ((gv_up_n ne41).trans ((gv_up_n ne33).trans ((gv_up_n ne26).trans ((gv_up_n ne20).trans gv_up_s))))
  have ne51 : nq q15 q45 := gv_nf hq45 ((gv_up_n ne42).trans ((gv_up_n ne34).trans ((gv_up_n ne27).trans gv_up_s)))
  have ne52 : nq q21 q45 := gv_nf hq45 ((gv_up_n ne43).trans ((gv_up_n ne35).trans gv_up_s))
  have ne53 : nq q28 q45 := gv_nf hq45 ((gv_up_n ne44).trans gv_up_s)
  have ne54 : nq q36 q45 := gv_nf hq45 gv_up_s
  refine k_putF (ci := 7) (k := 13) (fs' := [.int 0, .ref q1, .int 0, .ref q3, .ref q6, .int 0, .ref q10, .int 0, .ref q15, .ref q21, .ref q28, .int 0, .ref q36, .ref q45, .null]) C znm ff_7_35 pf_7_13 ((gv_up_n ne46).trans ((gv_up_n ne37).trans ((gv_up_n ne29).trans ((gv_up_n ne22).trans ((gv_up_n ne16).trans ((gv_up_n ne11).trans ((gv_up_n ne7).trans ((gv_up_n ne4).trans gv_up_s)))))))) rfl rfl (Nat.le_of_ble_eq_true rfl) rfl dX7_init_76 ?_
  refine k_view (V1 := gv_up (gv_up (gv_up (gv_up (gv_up (gv_up (gv_up (gv_up (gv_up (gv_up V q1 (.inl (cI, 240, .inl (fun _ => 0)))) m (.inr (7, [.int 0, .ref q1, .int 0, .ref q3, .ref q6, .int 0, .ref q10, .int 0, .ref q15, .ref q21, .ref q28, .int 0, .ref q36, .ref q45, .null]))) q3 (.inl (cI, 90, .inl (fun _ => 0)))) q6 (.inl (cI, 30, .inl (fun _ => 0)))) q10 (.inl (cI, 180, .inl (fun _ => 0)))) q15 (.inl (cI, 57600, .inl (fun _ => 0)))) q21 (.inl (cI, 120, .inl (fun _ => 0)))) q28 (.inl (cI, 6, .inl (fun _ => 0)))) q36 (.inl (cI, 480, .inl (fun _ => 0)))) q45 (.inl (cI, 80, .inl (fun _ => 0)))) ((gv_uc ne46).trans (congrArg (fun W => gv_up W q45 (.inl (cI, 80, .inl (fun _ => 0)))) ((gv_uc ne37).trans (congrArg (fun W => gv_up W q36 (.inl (cI, 480, .inl (fun _ => 0)))) ((gv_uc ne29).trans (congrArg (fun W => gv_up W q28 (.inl (cI, 6, .inl (fun _ => 0)))) ((gv_uc ne22).trans (congrArg (fun W => gv_up W q21 (.inl (cI, 120, .inl (fun _ => 0)))) ((gv_uc ne16).trans (congrArg (fun W => gv_up W q15 (.inl (cI, 57600, .inl (fun _ => 0)))) ((gv_uc ne11).trans (congrArg (fun W => gv_up W q10 (.inl (cI, 180, .inl (fun _ => 0)))) ((gv_uc ne7).trans (congrArg (fun W => gv_up W q6 (.inl (cI, 30, .inl (fun _ => 0)))) ((gv_uc ne4).trans (congrArg (fun W => gv_up W q3 (.inl (cI, 90, .inl (fun _ => 0)))) gv_uu)))))))))))))))) ?_
  refine k_aload_n C dX7_init_79 rfl 0 rfl ?_
  refine k_bipush (v := nI 80) C dX7_init_80 rfl ?_
  refine k_newi C 0 rfl wd_96 (nI_pos (by decide)) (nI_clamp (by decide)) (by decide) (by decide) (by decide) dX7_init_82 (fun q55 hq55 => ?_)
  have ne56 : nq m q55 := gv_nf hq55 ((gv_up_n ne46).trans ((gv_up_n ne37).trans ((gv_up_n ne29).trans ((gv_up_n ne22).trans ((gv_up_n ne16).trans ((gv_up_n ne11).trans ((gv_up_n ne7).trans ((gv_up_n ne4).trans gv_up_s))))))))
  have ne57 : nq q1 q55 := gv_nf hq55 ((gv_up_n ne47).trans ((gv_up_n ne38).trans ((gv_up_n ne30).trans ((gv_up_n ne23).trans ((gv_up_n ne17).trans ((gv_up_n ne12).trans ((gv_up_n ne8).trans ((gv_up_n ne5).trans ((gv_up_n (Ne.symm ne2)).trans gv_up_s)))))))))
  have ne58 : nq q3 q55 := gv_nf hq55 ((gv_up_n ne48).trans ((gv_up_n ne39).trans ((gv_up_n ne31).trans ((gv_up_n ne24).trans ((gv_up_n ne18).trans ((gv_up_n ne13).trans ((gv_up_n ne9).trans gv_up_s)))))))
  have ne59 : nq q6 q55 := gv_nf hq55 ((gv_up_n ne49).trans ((gv_up_n ne40).trans ((gv_up_n ne32).trans ((gv_up_n ne25).trans ((gv_up_n ne19).trans ((gv_up_n ne14).trans gv_up_s))))))
  have ne60 : nq q10 q55 := gv_nf hq55 ((gv_up_n ne50).trans ((gv_up_n ne41).trans ((gv_up_n ne33).trans ((gv_up_n ne26).trans ((gv_up_n ne20).trans gv_up_s)))))
  have ne61 : nq q15 q55 := gv_nf hq55 ((gv_up_n ne51).trans ((gv_up_n ne42).trans ((gv_up_n ne34).trans ((gv_up_n ne27).trans gv_up_s))))
  have ne62 : nq q21 q55 := gv_nf hq55 ((gv_up_n ne52).trans ((gv_up_n ne43).trans ((gv_up_n ne35).trans gv_up_s)))
  have ne63 : nq q28 q55 := gv_nf hq55 ((gv_up_n ne53).trans ((gv_up_n ne44).trans gv_up_s))
  have ne64 : nq q36 q55 := gv_nf hq55 ((gv_up_n ne54).trans gv_up_s)
  have ne65 : nq q45 q55 := gv_nf hq55 gv_up_s
  refine k_putF (ci := 7) (k := 14) (fs' := [.int 0, .ref q1, .int 0, .ref q3, .ref q6, .int 0, .ref q10, .int 0, .ref q15, .ref q21, .ref q28, .int 0, .ref q36, .ref q45, .ref q55]) C znm ff_7_38 pf_7_14 ((gv_up_n ne56).trans ((gv_up_n ne46).trans ((gv_up_n ne37).trans ((gv_up_n ne29).trans ((gv_up_n ne22).trans ((gv_up_n ne16).trans ((gv_up_n ne11).trans ((gv_up_n ne7).trans ((gv_up_n ne4).trans gv_up_s))))))))) rfl rfl (Nat.le_of_ble_eq_true rfl) rfl dX7_init_84 ?_
  refine k_view (V1 := gv_up (gv_up (gv_up (gv_up (gv_up (gv_up (gv_up (gv_up (gv_up (gv_up (gv_up V q1 (.inl (cI, 240, .inl (fun _ => 0)))) m (.inr (7, [.int 0, .ref q1, .int 0, .ref q3, .ref q6, .int 0, .ref q10, .int 0, .ref q15, .ref q21, .ref q28, .int 0, .ref q36, .ref q45, .ref q55]))) q3 (.inl (cI, 90, .inl (fun _ => 0)))) q6 (.inl (cI, 30, .inl (fun _ => 0)))) q10 (.inl (cI, 180, .inl (fun _ => 0)))) q15 (.inl (cI, 57600, .inl (fun _ => 0)))) q21 (.inl (cI, 120, .inl (fun _ => 0)))) q28 (.inl (cI, 6, .inl (fun _ => 0)))) q36 (.inl (cI, 480, .inl (fun _ => 0)))) q45 (.inl (cI, 80, .inl (fun _ => 0)))) q55 (.inl (cI, 80, .inl (fun _ => 0)))) ((gv_uc ne56).trans (congrArg (fun W => gv_up W q55 (.inl (cI, 80, .inl (fun _ => 0)))) ((gv_uc ne46).trans (congrArg (fun W => gv_up W q45 (.inl (cI, 80, .inl (fun _ => 0)))) ((gv_uc ne37).trans (congrArg (fun W => gv_up W q36 (.inl (cI, 480, .inl (fun _ => 0)))) ((gv_uc ne29).trans (congrArg (fun W => gv_up W q28 (.inl (cI, 6, .inl (fun _ => 0)))) ((gv_uc ne22).trans (congrArg (fun W => gv_up W q21 (.inl (cI, 120, .inl (fun _ => 0)))) ((gv_uc ne16).trans (congrArg (fun W => gv_up W q15 (.inl (cI, 57600, .inl (fun _ => 0)))) ((gv_uc ne11).trans (congrArg (fun W => gv_up W q10 (.inl (cI, 180, .inl (fun _ => 0)))) ((gv_uc ne7).trans (congrArg (fun W => gv_up W q6 (.inl (cI, 30, .inl (fun _ => 0)))) ((gv_uc ne4).trans (congrArg (fun W => gv_up W q3 (.inl (cI, 90, .inl (fun _ => 0)))) gv_uu)))))))))))))))))) ?_
  refine k_aload_n C dX7_init_87 rfl 0 rfl ?_
  refine k_iconst (v := nI 1) C dX7_init_88 rfl ?_
  refine k_put (ci := 7) (k := 7) (fs' := [.int 0, .ref q1, .int 0, .ref q3, .ref q6, .int 0, .ref q10, .int (nI 1), .ref q15, .ref q21, .ref q28, .int 0, .ref q36, .ref q45, .ref q55]) C fl_7_41 pf_7_7 ((gv_up_n ne56).trans ((gv_up_n ne46).trans ((gv_up_n ne37).trans ((gv_up_n ne29).trans ((gv_up_n ne22).trans ((gv_up_n ne16).trans ((gv_up_n ne11).trans ((gv_up_n ne7).trans ((gv_up_n ne4).trans gv_up_s))))))))) rfl rfl (Nat.le_of_ble_eq_true rfl) rfl dX7_init_89 ?_
  refine k_view (V1 := gv_up (gv_up (gv_up (gv_up (gv_up (gv_up (gv_up (gv_up (gv_up (gv_up (gv_up V q1 (.inl (cI, 240, .inl (fun _ => 0)))) m (.inr (7, [.int 0, .ref q1, .int 0, .ref q3, .ref q6, .int 0, .ref q10, .int (nI 1), .ref q15, .ref q21, .ref q28, .int 0, .ref q36, .ref q45, .ref q55]))) q3 (.inl (cI, 90, .inl (fun _ => 0)))) q6 (.inl (cI, 30, .inl (fun _ => 0)))) q10 (.inl (cI, 180, .inl (fun _ => 0)))) q15 (.inl (cI, 57600, .inl (fun _ => 0)))) q21 (.inl (cI, 120, .inl (fun _ => 0)))) q28 (.inl (cI, 6, .inl (fun _ => 0)))) q36 (.inl (cI, 480, .inl (fun _ => 0)))) q45 (.inl (cI, 80, .inl (fun _ => 0)))) q55 (.inl (cI, 80, .inl (fun _ => 0)))) ((gv_uc ne56).trans (congrArg (fun W => gv_up W q55 (.inl (cI, 80, .inl (fun _ => 0)))) ((gv_uc ne46).trans (congrArg (fun W => gv_up W q45 (.inl (cI, 80, .inl (fun _ => 0)))) ((gv_uc ne37).trans (congrArg (fun W => gv_up W q36 (.inl (cI, 480, .inl (fun _ => 0)))) ((gv_uc ne29).trans (congrArg (fun W => gv_up W q28 (.inl (cI, 6, .inl (fun _ => 0)))) ((gv_uc ne22).trans (congrArg (fun W => gv_up W q21 (.inl (cI, 120, .inl (fun _ => 0)))) ((gv_uc ne16).trans (congrArg (fun W => gv_up W q15 (.inl (cI, 57600, .inl (fun _ => 0)))) ((gv_uc ne11).trans (congrArg (fun W => gv_up W q10 (.inl (cI, 180, .inl (fun _ => 0)))) ((gv_uc ne7).trans (congrArg (fun W => gv_up W q6 (.inl (cI, 30, .inl (fun _ => 0)))) ((gv_uc ne4).trans (congrArg (fun W => gv_up W q3 (.inl (cI, 90, .inl (fun _ => 0)))) gv_uu)))))))))))))))))) ?_
  refine k_view (V1 := gv_up (gv_up (gv_up (gv_up (gv_up (gv_up (gv_up (gv_up (gv_up (gv_up (gv_up V m (.inr (7, [.int 0, .ref q1, .int 0, .ref q3, .ref q6, .int 0, .ref q10, .int (nI 1), .ref q15, .ref q21, .ref q28, .int 0, .ref q36, .ref q45, .ref q55]))) q1 (.inl (cI, 240, .inl (fun _ => 0)))) q3 (.inl (cI, 90, .inl (fun _ => 0)))) q6 (.inl (cI, 30, .inl (fun _ => 0)))) q10 (.inl (cI, 180, .inl (fun _ => 0)))) q15 (.inl (cI, 57600, .inl (fun _ => 0)))) q21 (.inl (cI, 120, .inl (fun _ => 0)))) q28 (.inl (cI, 6, .inl (fun _ => 0)))) q36 (.inl (cI, 480, .inl (fun _ => 0)))) q45 (.inl (cI, 80, .inl (fun _ => 0)))) q55 (.inl (cI, 80, .inl (fun _ => 0)))) (congrArg (fun W => gv_up W q55 (.inl (cI, 80, .inl (fun _ => 0)))) (congrArg (fun W => gv_up W q45 (.inl (cI, 80, .inl (fun _ => 0)))) (congrArg (fun W => gv_up W q36 (.inl (cI, 480, .inl (fun _ => 0)))) (congrArg (fun W => gv_up W q28 (.inl (cI, 6, .inl (fun _ => 0)))) (congrArg (fun W => gv_up W q21 (.inl (cI, 120, .inl (fun _ => 0)))) (congrArg (fun W => gv_up W q15 (.inl (cI, 57600, .inl (fun _ => 0)))) (congrArg (fun W => gv_up W q10 (.inl (cI, 180, .inl (fun _ => 0)))) (congrArg (fun W => gv_up W q6 (.inl (cI, 30, .inl (fun _ => 0)))) (congrArg (fun W => gv_up W q3 (.inl (cI, 90, .inl (fun _ => 0)))) (gv_uc ne2)))))))))) ?_
  exact k_vret C zr zlk ⟨q1, q3, q6, q10, q15, q21, q28, q36, q45, q55, rfl, rfl, hq1, (gv_none (gv_none hq3).2).2, (gv_none (gv_none (gv_none hq6).2).2).2, (gv_none (gv_none (gv_none (gv_none hq10).2).2).2).2, (gv_none (gv_none (gv_none (gv_none (gv_none hq15).2).2).2).2).2, (gv_none (gv_none (gv_none (gv_none (gv_none (gv_none hq21).2).2).2).2).2).2, (gv_none (gv_none (gv_none (gv_none (gv_none (gv_none (gv_none hq28).2).2).2).2).2).2).2, (gv_none (gv_none (gv_none (gv_none (gv_none (gv_none (gv_none (gv_none hq36).2).2).2).2).2).2).2).2, (gv_none (gv_none (gv_none (gv_none (gv_none (gv_none (gv_none (gv_none (gv_none hq45).2).2).2).2).2).2).2).2).2, (gv_none (gv_none (gv_none (gv_none (gv_none (gv_none (gv_none (gv_none (gv_none (gv_none hq55).2).2).2).2).2).2).2).2).2).2, (by
    simp only [List.nodup_cons, List.mem_cons, List.not_mem_nil, or_false, not_or, not_false_eq_true, List.nodup_nil, and_true]
    exact ⟨⟨ne5, ne8, ne12, ne17, ne23, ne30, ne38, ne47, ne57⟩, ⟨ne9, ne13, ne18, ne24, ne31, ne39, ne48, ne58⟩, ⟨ne14, ne19, ne25, ne32, ne40, ne49, ne59⟩, ⟨ne20, ne26, ne33, ne41, ne50, ne60⟩, ⟨ne27, ne34, ne42, ne51, ne61⟩, ⟨ne35, ne43, ne52, ne62⟩, ⟨ne44, ne53, ne63⟩, ⟨ne54, ne64⟩, ne65⟩)⟩ (Nat.le_refl _) (Nat.le_refl _) dX7_init_92
/-! the reference, whole -/
def MC (cI : ClassId) (V : gv_V) (m wt wa wv wm wr wc wn ws wk wp : Nat) (T : List Tr) (E : Nat → Ex) (ne : Nat) (qk : Nat → Nat) (nv : Nat → Nat → Int32) (nn : Nat) (L0 : List Row) : Prop := ∃ (kn : Int32) (ft fa fv fm fr fc fw fs fk fp : Nat → Int32), V m = some (.inr (7, [.int (nI T.length), .ref wt, .int (nI ne), .ref wa, .ref wv, .int (nI nn), .ref wm, .int kn, .ref wr, .ref wc, .ref wn, .int (nI L0.length), .ref ws, .ref wk, .ref wp])) ∧ V wt = some (.inl (cI, 240, .inl ft)) ∧ V wa = some (.inl (cI, 90, .inl fa)) ∧ V wv = some (.inl (cI, 30, .inl fv)) ∧ V wm = some (.inl (cI, 180, .inl fm)) ∧ V wr = some (.inl (cI, 57600, .inl fr)) ∧ V wc = some (.inl (cI, 120, .inl fc)) ∧ V wn = some (.inl (cI, 6, .inl fw)) ∧ V ws = some (.inl (cI, 480, .inl fs)) ∧ V wk = some (.inl (cI, 80, .inl fk)) ∧ V wp = some (.inl (cI, 80, .inl fp)) ∧ nq wk wp ∧ MT T T.length ft ∧ MA E ne fa ∧ nn ≤ 30 ∧ (∀ k, k < nn → NW ne k (qk k) (nv k)) ∧ (∀ k, k < nn → MK fm k (qk k) (nv k)) ∧ (kn = nI 0 ∨ (kn = nI 1 ∧ ∀ j z, j < nn → z < 4 → MTb (sem T E qk nv j z) (fc (4 * j + z)) (tbl fr (4 * j + z)))) ∧ Tab L0 L0.length fs
def MO (m wt wa wv wm wr wc wn ws wk wp : Nat) (q : Nat) : Prop := q = m ∨ q = wt ∨ q = wa ∨ q = wv ∨ q = wm ∨ q = wr ∨ q = wc ∨ q = wn ∨ q = ws ∨ q = wk ∨ q = wp
section MOS
variable {m wt wa wv wm wr wc wn ws wk wp : Nat}
theorem mo_m : MO m wt wa wv wm wr wc wn ws wk wp m := by simp [MO]
theorem mo_wt : MO m wt wa wv wm wr wc wn ws wk wp wt := by simp [MO]
theorem mo_wa : MO m wt wa wv wm wr wc wn ws wk wp wa := by simp [MO]
theorem mo_wv : MO m wt wa wv wm wr wc wn ws wk wp wv := by simp [MO]
theorem mo_wm : MO m wt wa wv wm wr wc wn ws wk wp wm := by simp [MO]
theorem mo_wr : MO m wt wa wv wm wr wc wn ws wk wp wr := by simp [MO]
theorem mo_wc : MO m wt wa wv wm wr wc wn ws wk wp wc := by simp [MO]
theorem mo_wn : MO m wt wa wv wm wr wc wn ws wk wp wn := by simp [MO]
theorem mo_ws : MO m wt wa wv wm wr wc wn ws wk wp ws := by simp [MO]
theorem mo_wk : MO m wt wa wv wm wr wc wn ws wk wp wk := by simp [MO]
theorem mo_wp : MO m wt wa wv wm wr wc wn ws wk wp wp := by simp [MO]
theorem mo_up {V : gv_V} {a q : Nat} {x : va_E} (ha : MO m wt wa wv wm wr wc wn ws wk wp a) (hq : ¬ MO m wt wa wv wm wr wc wn ws wk wp q) : gv_up V a x q = V q := gv_up_n (fun e => hq (by rw [e]; exact ha))
end MOS
theorem MC.mv {cI : ClassId} {V : gv_V} {m wt wa wv wm wr wc wn ws wk wp : Nat} {T : List Tr} {E : Nat → Ex} {ne : Nat} {qk : Nat → Nat} {nv : Nat → Nat → Int32} {nn : Nat} {L0 : List Row} {V' : gv_V} (h : MC cI V m wt wa wv wm wr wc wn ws wk wp T E ne qk nv nn L0) (hv : ∀ q, MO m wt wa wv wm wr wc wn ws wk wp q → V' q = V q) : MC cI V' m wt wa wv wm wr wc wn ws wk wp T E ne qk nv nn L0 := by
  obtain ⟨kn, ft, fa, fv, fm, fr, fc, fw, fs, fk, fp, h_m, h_wt, h_wa, h_wv, h_wm, h_wr, h_wc, h_wn, h_ws, h_wk, h_wp, hwkp, hT, hM, hnn, hNW, hMK, hkn, hTb⟩ := h
  exact ⟨kn, ft, fa, fv, fm, fr, fc, fw, fs, fk, fp, (hv m mo_m).trans h_m, (hv wt mo_wt).trans h_wt, (hv wa mo_wa).trans h_wa, (hv wv mo_wv).trans h_wv, (hv wm mo_wm).trans h_wm, (hv wr mo_wr).trans h_wr, (hv wc mo_wc).trans h_wc, (hv wn mo_wn).trans h_wn, (hv ws mo_ws).trans h_ws, (hv wk mo_wk).trans h_wk, (hv wp mo_wp).trans h_wp, hwkp, hT, hM, hnn, hNW, hMK, hkn, hTb⟩
theorem MC.ns {cI : ClassId} {V : gv_V} {m wt wa wv wm wr wc wn ws wk wp : Nat} {T : List Tr} {E : Nat → Ex} {ne : Nat} {qk : Nat → Nat} {nv : Nat → Nat → Int32} {nn : Nat} {L0 : List Row} {q : Nat} (h : MC cI V m wt wa wv wm wr wc wn ws wk wp T E ne qk nv nn L0) (hq : MO m wt wa wv wm wr wc wn ws wk wp q) : ¬ V q = none := by
  obtain ⟨kn, ft, fa, fv, fm, fr, fc, fw, fs, fk, fp, h_m, h_wt, h_wa, h_wv, h_wm, h_wr, h_wc, h_wn, h_ws, h_wk, h_wp, hwkp, hT, hM, hnn, hNW, hMK, hkn, hTb⟩ := h
  rcases hq with rfl | rfl | rfl | rfl | rfl | rfl | rfl | rfl | rfl | rfl | rfl
  · rw [h_m]; exact Option.some_ne_none _
  · rw [h_wt]; exact Option.some_ne_none _
  · rw [h_wa]; exact Option.some_ne_none _
  · rw [h_wv]; exact Option.some_ne_none _
  · rw [h_wm]; exact Option.some_ne_none _
  · rw [h_wr]; exact Option.some_ne_none _
  · rw [h_wc]; exact Option.some_ne_none _
  · rw [h_wn]; exact Option.some_ne_none _
  · rw [h_ws]; exact Option.some_ne_none _
  · rw [h_wk]; exact Option.some_ne_none _
  · rw [h_wp]; exact Option.some_ne_none _
theorem MC.ob {cI : ClassId} {V : gv_V} {m wt wa wv wm wr wc wn ws wk wp : Nat} {T : List Tr} {E : Nat → Ex} {ne : Nat} {qk : Nat → Nat} {nv : Nat → Nat → Int32} {nn : Nat} {L0 : List Row} (h : MC cI V m wt wa wv wm wr wc wn ws wk wp T E ne qk nv nn L0) : ∃ fs, V m = some (.inr (7, fs)) := by
  obtain ⟨kn, ft, fa, fv, fm, fr, fc, fw, fs, fk, fp, h_m, h_wt, h_wa, h_wv, h_wm, h_wr, h_wc, h_wn, h_ws, h_wk, h_wp, hwkp, hT, hM, hnn, hNW, hMK, hkn, hTb⟩ := h
  exact ⟨_, h_m⟩
theorem upd_o {f : Nat → Int32} {i j : Nat} {x : Int32} (h : ¬ j = i) : upd f i x j = f j := if_neg h
theorem u6_o {fm : Nat → Int32} {nn q j : Nat} {x1 x2 x3 x4 x5 : Int32} (hj : j < 6 * nn) : (upd (upd (upd (upd (upd (upd fm (6 * nn) (nI q)) (6 * nn + 1) x1) (6 * nn + 2) x2) (6 * nn + 3) x3) (6 * nn + 4) x4) (6 * nn + 5) x5) j = fm j := by
  rw [upd_o (by omega), upd_o (by omega), upd_o (by omega), upd_o (by omega), upd_o (by omega), upd_o (by omega)]
theorem u6_r {fm : Nat → Int32} {nn q : Nat} {x1 x2 x3 x4 x5 : Int32} : (upd (upd (upd (upd (upd (upd fm (6 * nn) (nI q)) (6 * nn + 1) x1) (6 * nn + 2) x2) (6 * nn + 3) x3) (6 * nn + 4) x4) (6 * nn + 5) x5) (6 * nn) = nI q ∧ (upd (upd (upd (upd (upd (upd fm (6 * nn) (nI q)) (6 * nn + 1) x1) (6 * nn + 2) x2) (6 * nn + 3) x3) (6 * nn + 4) x4) (6 * nn + 5) x5) (6 * nn + 1) = x1 ∧ (upd (upd (upd (upd (upd (upd fm (6 * nn) (nI q)) (6 * nn + 1) x1) (6 * nn + 2) x2) (6 * nn + 3) x3) (6 * nn + 4) x4) (6 * nn + 5) x5) (6 * nn + 2) = x2 ∧ (upd (upd (upd (upd (upd (upd fm (6 * nn) (nI q)) (6 * nn + 1) x1) (6 * nn + 2) x2) (6 * nn + 3) x3) (6 * nn + 4) x4) (6 * nn + 5) x5) (6 * nn + 3) = x3 ∧ (upd (upd (upd (upd (upd (upd fm (6 * nn) (nI q)) (6 * nn + 1) x1) (6 * nn + 2) x2) (6 * nn + 3) x3) (6 * nn + 4) x4) (6 * nn + 5) x5) (6 * nn + 4) = x4 ∧ (upd (upd (upd (upd (upd (upd fm (6 * nn) (nI q)) (6 * nn + 1) x1) (6 * nn + 2) x2) (6 * nn + 3) x3) (6 * nn + 4) x4) (6 * nn + 5) x5) (6 * nn + 5) = x5 := by
  refine ⟨?_, ?_, ?_, ?_, ?_, ?_⟩
  · rw [upd_o (by omega), upd_o (by omega), upd_o (by omega), upd_o (by omega), upd_o (by omega), upd_at]
  · rw [upd_o (by omega), upd_o (by omega), upd_o (by omega), upd_o (by omega), upd_at]
  · rw [upd_o (by omega), upd_o (by omega), upd_o (by omega), upd_at]
  · rw [upd_o (by omega), upd_o (by omega), upd_at]
  · rw [upd_o (by omega), upd_at]
  · rw [upd_at]
theorem MK.c {fm fm' : Nat → Int32} {k q : Nat} {u : Nat → Int32} (h : MK fm k q u) (hf : ∀ j, j < 6 → fm' (6 * k + j) = fm (6 * k + j)) : MK fm' k q u := by
  have h0 := hf 0 (by omega)
  have h1 := hf 1 (by omega)
  have h2 := hf 2 (by omega)
  have h3 := hf 3 (by omega)
  have h4 := hf 4 (by omega)
  have h5 := hf 5 (by omega)
  unfold MK at h ⊢
  rw [Nat.add_zero] at h0
  rw [h0, h1, h2, h3, h4, h5]
  exact h
set_option maxHeartbeats 4000000 in
theorem MC.nd {cI : ClassId} {V : gv_V} {m wt wa wv wm wr wc wn ws wk wp : Nat} {T : List Tr} {E : Nat → Ex} {ne : Nat} {qk : Nat → Nat} {nv : Nat → Nat → Int32} {nn : Nat} {L0 : List Row} (h : MC cI V m wt wa wv wm wr wc wn ws wk wp T E ne qk nv nn L0) : ∃ (kn : Int32) (fm : Nat → Int32), V m = some (.inr (7, [.int (nI T.length), .ref wt, .int (nI ne), .ref wa, .ref wv, .int (nI nn), .ref wm, .int kn, .ref wr, .ref wc, .ref wn, .int (nI L0.length), .ref ws, .ref wk, .ref wp])) ∧ V wm = some (.inl (cI, 180, .inl fm)) ∧ nn ≤ 30 ∧ ne ≤ 30 ∧ ∀ (q : Nat) (u : Nat → Int32) (x1 x2 x3 x4 x5 : Int32), nn < 30 → NW ne nn q u → MK (upd (upd (upd (upd (upd (upd fm (6 * nn) (nI q)) (6 * nn + 1) x1) (6 * nn + 2) x2) (6 * nn + 3) x3) (6 * nn + 4) x4) (6 * nn + 5) x5) nn q u → MC cI (gv_up (gv_up V wm (.inl (cI, 180, .inl (upd (upd (upd (upd (upd (upd fm (6 * nn) (nI q)) (6 * nn + 1) x1) (6 * nn + 2) x2) (6 * nn + 3) x3) (6 * nn + 4) x4) (6 * nn + 5) x5)))) m (.inr (7, [.int (nI T.length), .ref wt, .int (nI ne), .ref wa, .ref wv, .int (nI (nn + 1)), .ref wm, .int (nI 0), .ref wr, .ref wc, .ref wn, .int (nI L0.length), .ref ws, .ref wk, .ref wp]))) m wt wa wv wm wr wc wn ws wk wp T E ne (va_up qk nn q) (va_up nv nn u) (nn + 1) L0 ∧ ∀ q0, ¬ MO m wt wa wv wm wr wc wn ws wk wp q0 → (gv_up (gv_up V wm (.inl (cI, 180, .inl (upd (upd (upd (upd (upd (upd fm (6 * nn) (nI q)) (6 * nn + 1) x1) (6 * nn + 2) x2) (6 * nn + 3) x3) (6 * nn + 4) x4) (6 * nn + 5) x5)))) m (.inr (7, [.int (nI T.length), .ref wt, .int (nI ne), .ref wa, .ref wv, .int (nI (nn + 1)), .ref wm, .int (nI 0), .ref wr, .ref wc, .ref wn, .int (nI L0.length), .ref ws, .ref wk, .ref wp]))) q0 = V q0 := by
  obtain ⟨kn, ft, fa, fv, fm, fr, fc, fw, fs, fk, fp, h_m, h_wt, h_wa, h_wv, h_wm, h_wr, h_wc, h_wn, h_ws, h_wk, h_wp, hwkp, hT, hM, hnn, hNW, hMK, hkn, hTb⟩ := h
  refine ⟨kn, fm, h_m, h_wm, hnn, hM.1, fun q u x1 x2 x3 x4 x5 hlt hw hk => ⟨?_, (fun q hq => ((mo_up mo_m hq).trans ((mo_up mo_wm hq).trans rfl)))⟩⟩
  have hNW2 : ∀ k, k < nn + 1 → NW ne k (va_up qk nn q k) (va_up nv nn u k) := fun k hk1 => by
    by_cases e : k = nn
    · subst e; rw [va_up_self, va_up_self]; exact hw
    · rw [va_up_ne _ _ e, va_up_ne _ _ e]; exact hNW k (by omega)
  have hMK2 : ∀ k, k < nn + 1 → MK (upd (upd (upd (upd (upd (upd fm (6 * nn) (nI q)) (6 * nn + 1) x1) (6 * nn + 2) x2) (6 * nn + 3) x3) (6 * nn + 4) x4) (6 * nn + 5) x5) k (va_up qk nn q k) (va_up nv nn u k) := fun k hk1 => by
    by_cases e : k = nn
    · subst e; rw [va_up_self, va_up_self]; exact hk
    · rw [va_up_ne _ _ e, va_up_ne _ _ e]
      exact (hMK k (by omega)).c (fun j hj => u6_o (by omega))
  exact ⟨nI 0, ft, fa, fv, _, fr, fc, fw, fs, fk, fp, gv_up_s, ((gv_up_n (gv_ne h_m h_wt (by simp))).trans ((gv_up_n (gv_ne h_wm h_wt (by simp))).trans h_wt)), ((gv_up_n (gv_ne h_m h_wa (by simp))).trans ((gv_up_n (gv_ne h_wm h_wa (by simp))).trans h_wa)), ((gv_up_n (gv_ne h_m h_wv (by simp))).trans ((gv_up_n (gv_ne h_wm h_wv (by simp))).trans h_wv)), ((gv_up_n (gv_ne h_m h_wm (by simp))).trans gv_up_s), ((gv_up_n (gv_ne h_m h_wr (by simp))).trans ((gv_up_n (gv_ne h_wm h_wr (by simp))).trans h_wr)), ((gv_up_n (gv_ne h_m h_wc (by simp))).trans ((gv_up_n (gv_ne h_wm h_wc (by simp))).trans h_wc)), ((gv_up_n (gv_ne h_m h_wn (by simp))).trans ((gv_up_n (gv_ne h_wm h_wn (by simp))).trans h_wn)), ((gv_up_n (gv_ne h_m h_ws (by simp))).trans ((gv_up_n (gv_ne h_wm h_ws (by simp))).trans h_ws)), ((gv_up_n (gv_ne h_m h_wk (by simp))).trans ((gv_up_n (gv_ne h_wm h_wk (by simp))).trans h_wk)), ((gv_up_n (gv_ne h_m h_wp (by simp))).trans ((gv_up_n (gv_ne h_wm h_wp (by simp))).trans h_wp)), hwkp, hT, hM, (by omega), hNW2, hMK2, Or.inl rfl, hTb⟩
def mkM (cI : ClassId) (V : gv_V) (m wt wa wv wm wr wc wn ws wk wp : Nat) (T : List Tr) (E : Nat → Ex) (ne : Nat) (qk : Nat → Nat) (nv : Nat → Nat → Int32) (nn : Nat) (L0 : List Row) (c : Bool) (q : Nat) (u : Nat → Int32) : Option Value → gv_V → Prop := fun zv zV => (c = true ∧ zv = some (.int (nI nn)) ∧ MC cI zV m wt wa wv wm wr wc wn ws wk wp T E ne (va_up qk nn q) (va_up nv nn u) (nn + 1) L0 ∧ ∀ a, ¬ MO m wt wa wv wm wr wc wn ws wk wp a → zV a = V a) ∨ (c = false ∧ zv = some (.int (-1 : Int32)) ∧ MC cI zV m wt wa wv wm wr wc wn ws wk wp T E ne qk nv nn L0 ∧ ∀ a, ¬ MO m wt wa wv wm wr wc wn ws wk wp a → zV a = V a)
set_option maxHeartbeats 4000000 in
theorem g_pattern {zl : Launch} {D : va_G} {cI cN cR : ClassId} {base : Nat} {V : gv_V} {m wt wa wv wm wr wc wn ws wk wp : Nat} {T : List Tr} {E : Nat → Ex} {ne : Nat} {qk : Nat → Nat} {nv : Nat → Nat → Int32} {nn : Nat} {L0 : List Row} {x y z : Int32} (h : MC cI V m wt wa wv wm wr wc wn ws wk wp T E ne qk nv nn L0) : ct zl D [(cI, .int), (cN, .object "AlgebraTree$Node"), (cR, .object "AlgebraTree$Rows")] base yX7_pattern cX7_pattern 4 (some .int) 2 0 0 [.ref m, .int x, .int y, .int z] V (mkM cI V m wt wa wv wm wr wc wn ws wk wp T E ne qk nv nn L0 (!decide (nn = 30) && plc x && plc y && plc z) (0) (uL [0, (-1 : Int32), (-1 : Int32), x, y, z, 0, 0, 0, 0, 0, 0, 0, 0])) := by
  obtain ⟨kn, fm, h_m, h_wm, hnn, hne30, hG⟩ := MC.nd h
  refine ct_mono (c_X7_pattern h_m h_wm hnn) (fun zv zV zh => ?_)
  rcases zh with ⟨hc, hzv, hzV⟩ | ⟨hc, hzv, hzV⟩
  · have hc2 := hc
    simp only [Bool.and_eq_true, Bool.not_eq_true', decide_eq_false_iff_not, Bool.or_eq_true, beq_iff_eq] at hc2
    obtain ⟨⟨⟨h3, hx⟩, hy⟩, hz⟩ := hc2
    have hlt : nn < 30 := by omega
    have hw9 : NW ne nn (0) (uL [0, (-1 : Int32), (-1 : Int32), x, y, z, 0, 0, 0, 0, 0, 0, 0, 0]) := ⟨(by omega), fun _ => ⟨rfl, rfl, hx, hy, hz⟩, fun h => absurd h (by omega), fun h => absurd h (by omega), fun h => absurd h (by omega), fun h => absurd h (by omega), fun h => absurd h (by omega), fun h => absurd h (by omega), fun h => absurd h (by omega), fun h => absurd h (by omega)⟩
    have hk9 : MK (upd (upd (upd (upd (upd (upd fm (6 * nn) (nI (0))) (6 * nn + 1) x) (6 * nn + 2) y) (6 * nn + 3) z) (6 * nn + 4) (nI 0)) (6 * nn + 5) (nI 0)) nn (0) (uL [0, (-1 : Int32), (-1 : Int32), x, y, z, 0, 0, 0, 0, 0, 0, 0, 0]) := by
      obtain ⟨r0, r1, r2, r3, r4, r5⟩ := u6_r (fm := fm) (nn := nn) (q := (0)) (x1 := x) (x2 := y) (x3 := z) (x4 := (nI 0)) (x5 := (nI 0))
      refine ⟨r0, fun h0 => ?_, fun h0 => ?_, fun h0 h1 => ?_, fun h0 => ?_, fun h0 => ?_, fun h0 => ?_, fun h0 => ?_, fun h0 => ?_, fun h0 => ?_, fun h0 => ?_, fun h0 => ?_⟩ <;> first | (exfalso; omega) | exact r1 | exact r2 | exact r3 | exact ⟨r1, r2, r3⟩ | exact ⟨r2, r3⟩ | exact ⟨r3, by cases bx <;> first | exact Or.inl rfl | exact Or.inr rfl⟩ | exact ⟨r3, r4, r5, w4, hw4, ew4⟩
    have hg := hG (0) (uL [0, (-1 : Int32), (-1 : Int32), x, y, z, 0, 0, 0, 0, 0, 0, 0, 0]) x y z (nI 0) (nI 0) hlt hw9 hk9
    rw [hzV]
    exact Or.inl ⟨hc, hzv, hg.1, hg.2⟩
  · rw [hzV]
    exact Or.inr ⟨hc, hzv, h, fun _ _ => rfl⟩

set_option maxHeartbeats 4000000 in
theorem g_both {zl : Launch} {D : va_G} {cI cN cR : ClassId} {base : Nat} {V : gv_V} {m wt wa wv wm wr wc wn ws wk wp : Nat} {T : List Tr} {E : Nat → Ex} {ne : Nat} {qk : Nat → Nat} {nv : Nat → Nat → Int32} {nn : Nat} {L0 : List Row} {x y z : Int32} (h : MC cI V m wt wa wv wm wr wc wn ws wk wp T E ne qk nv nn L0) : ct zl D [(cI, .int), (cN, .object "AlgebraTree$Node"), (cR, .object "AlgebraTree$Rows")] base yX7_both cX7_both 4 (some .int) 2 0 0 [.ref m, .int x, .int y, .int z] V (mkM cI V m wt wa wv wm wr wc wn ws wk wp T E ne qk nv nn L0 (blw x (nI 3) && (!decide (nn = 30) && blw y (nI nn)) && blw z (nI nn)) (1 + tn x) (uL [0, y, z, 0, 0, 0, 0, 0, 0, 0, 0, 0, 0, 0])) := by
  obtain ⟨kn, fm, h_m, h_wm, hnn, hne30, hG⟩ := MC.nd h
  refine ct_mono (c_X7_both h_m h_wm hnn) (fun zv zV zh => ?_)
  rcases zh with ⟨hc, hzv, hzV⟩ | ⟨hc, hzv, hzV⟩
  · have hc2 := hc
    simp only [Bool.and_eq_true, Bool.not_eq_true', decide_eq_false_iff_not, Bool.or_eq_true, beq_iff_eq] at hc2
    obtain ⟨⟨hx, h3, hy⟩, hz⟩ := hc2
    have hx3 : tn x < 3 := blw_lt (by omega) hx
    have hlt : nn < 30 := by omega
    have hw9 : NW ne nn (1 + tn x) (uL [0, y, z, 0, 0, 0, 0, 0, 0, 0, 0, 0, 0, 0]) := ⟨(by omega), fun h => absurd h (by omega), fun _ => (blw_nI (by omega) hy), fun _ _ => blw_nI (by omega) hz, fun h => absurd h (by omega), fun h => absurd h (by omega), fun h => absurd h (by omega), fun h => absurd h (by omega), fun h => absurd h (by omega), fun h => absurd h (by omega)⟩
    have hk9 : MK (upd (upd (upd (upd (upd (upd fm (6 * nn) (nI (1 + tn x))) (6 * nn + 1) y) (6 * nn + 2) z) (6 * nn + 3) (nI 0)) (6 * nn + 4) (nI 0)) (6 * nn + 5) (nI 0)) nn (1 + tn x) (uL [0, y, z, 0, 0, 0, 0, 0, 0, 0, 0, 0, 0, 0]) := by
      obtain ⟨r0, r1, r2, r3, r4, r5⟩ := u6_r (fm := fm) (nn := nn) (q := (1 + tn x)) (x1 := y) (x2 := z) (x3 := (nI 0)) (x4 := (nI 0)) (x5 := (nI 0))
      refine ⟨r0, fun h0 => ?_, fun h0 => ?_, fun h0 h1 => ?_, fun h0 => ?_, fun h0 => ?_, fun h0 => ?_, fun h0 => ?_, fun h0 => ?_, fun h0 => ?_, fun h0 => ?_, fun h0 => ?_⟩ <;> first | (exfalso; omega) | exact r1 | exact r2 | exact r3 | exact ⟨r1, r2, r3⟩ | exact ⟨r2, r3⟩ | exact ⟨r3, by cases bx <;> first | exact Or.inl rfl | exact Or.inr rfl⟩ | exact ⟨r3, r4, r5, w4, hw4, ew4⟩
    have hg := hG (1 + tn x) (uL [0, y, z, 0, 0, 0, 0, 0, 0, 0, 0, 0, 0, 0]) y z (nI 0) (nI 0) (nI 0) hlt hw9 hk9
    rw [hzV]
    exact Or.inl ⟨hc, hzv, hg.1, hg.2⟩
  · rw [hzV]
    exact Or.inr ⟨hc, hzv, h, fun _ _ => rfl⟩

set_option maxHeartbeats 4000000 in
theorem g_left {zl : Launch} {D : va_G} {cI cN cR : ClassId} {base : Nat} {V : gv_V} {m wt wa wv wm wr wc wn ws wk wp : Nat} {T : List Tr} {E : Nat → Ex} {ne : Nat} {qk : Nat → Nat} {nv : Nat → Nat → Int32} {nn : Nat} {L0 : List Row} {y z w : Int32} (h : MC cI V m wt wa wv wm wr wc wn ws wk wp T E ne qk nv nn L0) : ct zl D [(cI, .int), (cN, .object "AlgebraTree$Node"), (cR, .object "AlgebraTree$Rows")] base yX7_left cX7_left 4 (some .int) 2 0 0 [.ref m, .int y, .int z, .int w] V (mkM cI V m wt wa wv wm wr wc wn ws wk wp T E ne qk nv nn L0 ((!decide (nn = 30) && blw y (nI nn)) && blw z (nI nn) && (w == -1 || blw w (nI ne))) (4) (uL [0, y, z, 0, 0, 0, w, 0, 0, 0, 0, 0, 0, 0])) := by
  obtain ⟨kn, fm, h_m, h_wm, hnn, hne30, hG⟩ := MC.nd h
  refine ct_mono (c_X7_left h_m h_wm hnn) (fun zv zV zh => ?_)
  rcases zh with ⟨hc, hzv, hzV⟩ | ⟨hc, hzv, hzV⟩
  · have hc2 := hc
    simp only [Bool.and_eq_true, Bool.not_eq_true', decide_eq_false_iff_not, Bool.or_eq_true, beq_iff_eq] at hc2
    obtain ⟨⟨⟨h3, hy⟩, hz⟩, hw⟩ := hc2
    have hlt : nn < 30 := by omega
    have hw9 : NW ne nn (4) (uL [0, y, z, 0, 0, 0, w, 0, 0, 0, 0, 0, 0, 0]) := ⟨(by omega), fun h => absurd h (by omega), fun _ => (blw_nI (by omega) hy), fun _ _ => blw_nI (by omega) hz, fun h => absurd h (by omega), fun _ => hw.imp (fun h => h) (fun h => blw_nI (by omega) h), fun h => absurd h (by omega), fun h => absurd h (by omega), fun h => absurd h (by omega), fun h => absurd h (by omega)⟩
    have hk9 : MK (upd (upd (upd (upd (upd (upd fm (6 * nn) (nI (4))) (6 * nn + 1) y) (6 * nn + 2) z) (6 * nn + 3) w) (6 * nn + 4) (nI 0)) (6 * nn + 5) (nI 0)) nn (4) (uL [0, y, z, 0, 0, 0, w, 0, 0, 0, 0, 0, 0, 0]) := by
      obtain ⟨r0, r1, r2, r3, r4, r5⟩ := u6_r (fm := fm) (nn := nn) (q := (4)) (x1 := y) (x2 := z) (x3 := w) (x4 := (nI 0)) (x5 := (nI 0))
      refine ⟨r0, fun h0 => ?_, fun h0 => ?_, fun h0 h1 => ?_, fun h0 => ?_, fun h0 => ?_, fun h0 => ?_, fun h0 => ?_, fun h0 => ?_, fun h0 => ?_, fun h0 => ?_, fun h0 => ?_⟩ <;> first | (exfalso; omega) | exact r1 | exact r2 | exact r3 | exact ⟨r1, r2, r3⟩ | exact ⟨r2, r3⟩ | exact ⟨r3, by cases bx <;> first | exact Or.inl rfl | exact Or.inr rfl⟩ | exact ⟨r3, r4, r5, w4, hw4, ew4⟩
    have hg := hG (4) (uL [0, y, z, 0, 0, 0, w, 0, 0, 0, 0, 0, 0, 0]) y z w (nI 0) (nI 0) hlt hw9 hk9
    rw [hzV]
    exact Or.inl ⟨hc, hzv, hg.1, hg.2⟩
  · rw [hzV]
    exact Or.inr ⟨hc, hzv, h, fun _ _ => rfl⟩

set_option maxHeartbeats 4000000 in
theorem g_filter {zl : Launch} {D : va_G} {cI cN cR : ClassId} {base : Nat} {V : gv_V} {m wt wa wv wm wr wc wn ws wk wp : Nat} {T : List Tr} {E : Nat → Ex} {ne : Nat} {qk : Nat → Nat} {nv : Nat → Nat → Int32} {nn : Nat} {L0 : List Row} {y w : Int32} (h : MC cI V m wt wa wv wm wr wc wn ws wk wp T E ne qk nv nn L0) : ct zl D [(cI, .int), (cN, .object "AlgebraTree$Node"), (cR, .object "AlgebraTree$Rows")] base yX7_filter cX7_filter 3 (some .int) 2 0 0 [.ref m, .int y, .int w] V (mkM cI V m wt wa wv wm wr wc wn ws wk wp T E ne qk nv nn L0 ((!decide (nn = 30) && blw y (nI nn)) && blw w (nI ne)) (5) (uL [0, y, (-1 : Int32), 0, 0, 0, w, 0, 0, 0, 0, 0, 0, 0])) := by
  obtain ⟨kn, fm, h_m, h_wm, hnn, hne30, hG⟩ := MC.nd h
  refine ct_mono (c_X7_filter h_m h_wm hnn) (fun zv zV zh => ?_)
  rcases zh with ⟨hc, hzv, hzV⟩ | ⟨hc, hzv, hzV⟩
  · have hc2 := hc
    simp only [Bool.and_eq_true, Bool.not_eq_true', decide_eq_false_iff_not, Bool.or_eq_true, beq_iff_eq] at hc2
    obtain ⟨⟨h3, hy⟩, hw⟩ := hc2
    have hlt : nn < 30 := by omega
    have hw9 : NW ne nn (5) (uL [0, y, (-1 : Int32), 0, 0, 0, w, 0, 0, 0, 0, 0, 0, 0]) := ⟨(by omega), fun h => absurd h (by omega), fun _ => (blw_nI (by omega) hy), fun h1 h2 => absurd h2 (by omega), fun _ => rfl, fun h => absurd h (by omega), fun _ => blw_nI (by omega) hw, fun h => absurd h (by omega), fun h => absurd h (by omega), fun h => absurd h (by omega)⟩
    have hk9 : MK (upd (upd (upd (upd (upd (upd fm (6 * nn) (nI (5))) (6 * nn + 1) y) (6 * nn + 2) w) (6 * nn + 3) (nI 0)) (6 * nn + 4) (nI 0)) (6 * nn + 5) (nI 0)) nn (5) (uL [0, y, (-1 : Int32), 0, 0, 0, w, 0, 0, 0, 0, 0, 0, 0]) := by
      obtain ⟨r0, r1, r2, r3, r4, r5⟩ := u6_r (fm := fm) (nn := nn) (q := (5)) (x1 := y) (x2 := w) (x3 := (nI 0)) (x4 := (nI 0)) (x5 := (nI 0))
      refine ⟨r0, fun h0 => ?_, fun h0 => ?_, fun h0 h1 => ?_, fun h0 => ?_, fun h0 => ?_, fun h0 => ?_, fun h0 => ?_, fun h0 => ?_, fun h0 => ?_, fun h0 => ?_, fun h0 => ?_⟩ <;> first | (exfalso; omega) | exact r1 | exact r2 | exact r3 | exact ⟨r1, r2, r3⟩ | exact ⟨r2, r3⟩ | exact ⟨r3, by cases bx <;> first | exact Or.inl rfl | exact Or.inr rfl⟩ | exact ⟨r3, r4, r5, w4, hw4, ew4⟩
    have hg := hG (5) (uL [0, y, (-1 : Int32), 0, 0, 0, w, 0, 0, 0, 0, 0, 0, 0]) y w (nI 0) (nI 0) (nI 0) hlt hw9 hk9
    rw [hzV]
    exact Or.inl ⟨hc, hzv, hg.1, hg.2⟩
  · rw [hzV]
    exact Or.inr ⟨hc, hzv, h, fun _ _ => rfl⟩

set_option maxHeartbeats 4000000 in
theorem g_extend {zl : Launch} {D : va_G} {cI cN cR : ClassId} {base : Nat} {V : gv_V} {m wt wa wv wm wr wc wn ws wk wp : Nat} {T : List Tr} {E : Nat → Ex} {ne : Nat} {qk : Nat → Nat} {nv : Nat → Nat → Int32} {nn : Nat} {L0 : List Row} {y x w : Int32} (h : MC cI V m wt wa wv wm wr wc wn ws wk wp T E ne qk nv nn L0) : ct zl D [(cI, .int), (cN, .object "AlgebraTree$Node"), (cR, .object "AlgebraTree$Rows")] base yX7_extend cX7_extend 4 (some .int) 2 0 0 [.ref m, .int y, .int x, .int w] V (mkM cI V m wt wa wv wm wr wc wn ws wk wp T E ne qk nv nn L0 ((!decide (nn = 30) && blw y (nI nn)) && blw x (nI 6) && blw w (nI ne)) (6) (uL [0, y, (-1 : Int32), 0, 0, 0, w, x, 0, 0, 0, 0, 0, 0])) := by
  obtain ⟨kn, fm, h_m, h_wm, hnn, hne30, hG⟩ := MC.nd h
  refine ct_mono (c_X7_extend h_m h_wm hnn) (fun zv zV zh => ?_)
  rcases zh with ⟨hc, hzv, hzV⟩ | ⟨hc, hzv, hzV⟩
  · have hc2 := hc
    simp only [Bool.and_eq_true, Bool.not_eq_true', decide_eq_false_iff_not, Bool.or_eq_true, beq_iff_eq] at hc2
    obtain ⟨⟨⟨h3, hy⟩, hx⟩, hw⟩ := hc2
    have hlt : nn < 30 := by omega
    have hw9 : NW ne nn (6) (uL [0, y, (-1 : Int32), 0, 0, 0, w, x, 0, 0, 0, 0, 0, 0]) := ⟨(by omega), fun h => absurd h (by omega), fun _ => (blw_nI (by omega) hy), fun h1 h2 => absurd h2 (by omega), fun _ => rfl, fun h => absurd h (by omega), fun _ => blw_nI (by omega) hw, fun _ => blw_nI (by omega) hx, fun h => absurd h (by omega), fun h => absurd h (by omega)⟩
    have hk9 : MK (upd (upd (upd (upd (upd (upd fm (6 * nn) (nI (6))) (6 * nn + 1) y) (6 * nn + 2) x) (6 * nn + 3) w) (6 * nn + 4) (nI 0)) (6 * nn + 5) (nI 0)) nn (6) (uL [0, y, (-1 : Int32), 0, 0, 0, w, x, 0, 0, 0, 0, 0, 0]) := by
      obtain ⟨r0, r1, r2, r3, r4, r5⟩ := u6_r (fm := fm) (nn := nn) (q := (6)) (x1 := y) (x2 := x) (x3 := w) (x4 := (nI 0)) (x5 := (nI 0))
      refine ⟨r0, fun h0 => ?_, fun h0 => ?_, fun h0 h1 => ?_, fun h0 => ?_, fun h0 => ?_, fun h0 => ?_, fun h0 => ?_, fun h0 => ?_, fun h0 => ?_, fun h0 => ?_, fun h0 => ?_⟩ <;> first | (exfalso; omega) | exact r1 | exact r2 | exact r3 | exact ⟨r1, r2, r3⟩ | exact ⟨r2, r3⟩ | exact ⟨r3, by cases bx <;> first | exact Or.inl rfl | exact Or.inr rfl⟩ | exact ⟨r3, r4, r5, w4, hw4, ew4⟩
    have hg := hG (6) (uL [0, y, (-1 : Int32), 0, 0, 0, w, x, 0, 0, 0, 0, 0, 0]) y x w (nI 0) (nI 0) hlt hw9 hk9
    rw [hzV]
    exact Or.inl ⟨hc, hzv, hg.1, hg.2⟩
  · rw [hzV]
    exact Or.inr ⟨hc, hzv, h, fun _ _ => rfl⟩

set_option maxHeartbeats 4000000 in
theorem g_project {zl : Launch} {D : va_G} {cI cN cR : ClassId} {base : Nat} {V : gv_V} {m wt wa wv wm wr wc wn ws wk wp : Nat} {T : List Tr} {E : Nat → Ex} {ne : Nat} {qk : Nat → Nat} {nv : Nat → Nat → Int32} {nn : Nat} {L0 : List Row} {y x : Int32} (h : MC cI V m wt wa wv wm wr wc wn ws wk wp T E ne qk nv nn L0) : ct zl D [(cI, .int), (cN, .object "AlgebraTree$Node"), (cR, .object "AlgebraTree$Rows")] base yX7_project cX7_project 3 (some .int) 2 0 0 [.ref m, .int y, .int x] V (mkM cI V m wt wa wv wm wr wc wn ws wk wp T E ne qk nv nn L0 ((!decide (nn = 30) && blw y (nI nn)) && blw x (nI 64)) (7) (uL [0, y, (-1 : Int32), 0, 0, 0, 0, 0, x, 0, 0, 0, 0, 0])) := by
  obtain ⟨kn, fm, h_m, h_wm, hnn, hne30, hG⟩ := MC.nd h
  refine ct_mono (c_X7_project h_m h_wm hnn) (fun zv zV zh => ?_)
  rcases zh with ⟨hc, hzv, hzV⟩ | ⟨hc, hzv, hzV⟩
  · have hc2 := hc
    simp only [Bool.and_eq_true, Bool.not_eq_true', decide_eq_false_iff_not, Bool.or_eq_true, beq_iff_eq] at hc2
    obtain ⟨⟨h3, hy⟩, hx⟩ := hc2
    have hlt : nn < 30 := by omega
    have hw9 : NW ne nn (7) (uL [0, y, (-1 : Int32), 0, 0, 0, 0, 0, x, 0, 0, 0, 0, 0]) := ⟨(by omega), fun h => absurd h (by omega), fun _ => (blw_nI (by omega) hy), fun h1 h2 => absurd h2 (by omega), fun _ => rfl, fun h => absurd h (by omega), fun h => absurd h (by omega), fun h => absurd h (by omega), fun h => absurd h (by omega), fun h => absurd h (by omega)⟩
    have hk9 : MK (upd (upd (upd (upd (upd (upd fm (6 * nn) (nI (7))) (6 * nn + 1) y) (6 * nn + 2) x) (6 * nn + 3) (nI 0)) (6 * nn + 4) (nI 0)) (6 * nn + 5) (nI 0)) nn (7) (uL [0, y, (-1 : Int32), 0, 0, 0, 0, 0, x, 0, 0, 0, 0, 0]) := by
      obtain ⟨r0, r1, r2, r3, r4, r5⟩ := u6_r (fm := fm) (nn := nn) (q := (7)) (x1 := y) (x2 := x) (x3 := (nI 0)) (x4 := (nI 0)) (x5 := (nI 0))
      refine ⟨r0, fun h0 => ?_, fun h0 => ?_, fun h0 h1 => ?_, fun h0 => ?_, fun h0 => ?_, fun h0 => ?_, fun h0 => ?_, fun h0 => ?_, fun h0 => ?_, fun h0 => ?_, fun h0 => ?_⟩ <;> first | (exfalso; omega) | exact r1 | exact r2 | exact r3 | exact ⟨r1, r2, r3⟩ | exact ⟨r2, r3⟩ | exact ⟨r3, by cases bx <;> first | exact Or.inl rfl | exact Or.inr rfl⟩ | exact ⟨r3, r4, r5, w4, hw4, ew4⟩
    have hg := hG (7) (uL [0, y, (-1 : Int32), 0, 0, 0, 0, 0, x, 0, 0, 0, 0, 0]) y x (nI 0) (nI 0) (nI 0) hlt hw9 hk9
    rw [hzV]
    exact Or.inl ⟨hc, hzv, hg.1, hg.2⟩
  · rw [hzV]
    exact Or.inr ⟨hc, hzv, h, fun _ _ => rfl⟩

set_option maxHeartbeats 4000000 in
theorem g_distinct {zl : Launch} {D : va_G} {cI cN cR : ClassId} {base : Nat} {V : gv_V} {m wt wa wv wm wr wc wn ws wk wp : Nat} {T : List Tr} {E : Nat → Ex} {ne : Nat} {qk : Nat → Nat} {nv : Nat → Nat → Int32} {nn : Nat} {L0 : List Row} {y : Int32} (h : MC cI V m wt wa wv wm wr wc wn ws wk wp T E ne qk nv nn L0) : ct zl D [(cI, .int), (cN, .object "AlgebraTree$Node"), (cR, .object "AlgebraTree$Rows")] base yX7_distinct cX7_distinct 2 (some .int) 2 0 0 [.ref m, .int y] V (mkM cI V m wt wa wv wm wr wc wn ws wk wp T E ne qk nv nn L0 (!decide (nn = 30) && blw y (nI nn)) (8) (uL [0, y, (-1 : Int32), 0, 0, 0, 0, 0, 0, 0, 0, 0, 0, 0])) := by
  obtain ⟨kn, fm, h_m, h_wm, hnn, hne30, hG⟩ := MC.nd h
  refine ct_mono (c_X7_distinct h_m h_wm hnn) (fun zv zV zh => ?_)
  rcases zh with ⟨hc, hzv, hzV⟩ | ⟨hc, hzv, hzV⟩
  · have hc2 := hc
    simp only [Bool.and_eq_true, Bool.not_eq_true', decide_eq_false_iff_not, Bool.or_eq_true, beq_iff_eq] at hc2
    obtain ⟨h3, hy⟩ := hc2
    have hlt : nn < 30 := by omega
    have hw9 : NW ne nn (8) (uL [0, y, (-1 : Int32), 0, 0, 0, 0, 0, 0, 0, 0, 0, 0, 0]) := ⟨(by omega), fun h => absurd h (by omega), fun _ => (blw_nI (by omega) hy), fun h1 h2 => absurd h2 (by omega), fun _ => rfl, fun h => absurd h (by omega), fun h => absurd h (by omega), fun h => absurd h (by omega), fun h => absurd h (by omega), fun h => absurd h (by omega)⟩
    have hk9 : MK (upd (upd (upd (upd (upd (upd fm (6 * nn) (nI (8))) (6 * nn + 1) y) (6 * nn + 2) (nI 0)) (6 * nn + 3) (nI 0)) (6 * nn + 4) (nI 0)) (6 * nn + 5) (nI 0)) nn (8) (uL [0, y, (-1 : Int32), 0, 0, 0, 0, 0, 0, 0, 0, 0, 0, 0]) := by
      obtain ⟨r0, r1, r2, r3, r4, r5⟩ := u6_r (fm := fm) (nn := nn) (q := (8)) (x1 := y) (x2 := (nI 0)) (x3 := (nI 0)) (x4 := (nI 0)) (x5 := (nI 0))
      refine ⟨r0, fun h0 => ?_, fun h0 => ?_, fun h0 h1 => ?_, fun h0 => ?_, fun h0 => ?_, fun h0 => ?_, fun h0 => ?_, fun h0 => ?_, fun h0 => ?_, fun h0 => ?_, fun h0 => ?_⟩ <;> first | (exfalso; omega) | exact r1 | exact r2 | exact r3 | exact ⟨r1, r2, r3⟩ | exact ⟨r2, r3⟩ | exact ⟨r3, by cases bx <;> first | exact Or.inl rfl | exact Or.inr rfl⟩ | exact ⟨r3, r4, r5, w4, hw4, ew4⟩
    have hg := hG (8) (uL [0, y, (-1 : Int32), 0, 0, 0, 0, 0, 0, 0, 0, 0, 0, 0]) y (nI 0) (nI 0) (nI 0) (nI 0) hlt hw9 hk9
    rw [hzV]
    exact Or.inl ⟨hc, hzv, hg.1, hg.2⟩
  · rw [hzV]
    exact Or.inr ⟨hc, hzv, h, fun _ _ => rfl⟩

set_option maxHeartbeats 4000000 in
theorem g_slice {zl : Launch} {D : va_G} {cI cN cR : ClassId} {base : Nat} {V : gv_V} {m wt wa wv wm wr wc wn ws wk wp : Nat} {T : List Tr} {E : Nat → Ex} {ne : Nat} {qk : Nat → Nat} {nv : Nat → Nat → Int32} {nn : Nat} {L0 : List Row} {y x z : Int32} (h : MC cI V m wt wa wv wm wr wc wn ws wk wp T E ne qk nv nn L0) : ct zl D [(cI, .int), (cN, .object "AlgebraTree$Node"), (cR, .object "AlgebraTree$Rows")] base yX7_slice cX7_slice 4 (some .int) 2 0 0 [.ref m, .int y, .int x, .int z] V (mkM cI V m wt wa wv wm wr wc wn ws wk wp T E ne qk nv nn L0 ((!decide (nn = 30) && blw y (nI nn)) && sln x && sln z) (9) (uL [0, y, (-1 : Int32), 0, 0, 0, 0, 0, 0, x, z, 0, 0, 0])) := by
  obtain ⟨kn, fm, h_m, h_wm, hnn, hne30, hG⟩ := MC.nd h
  refine ct_mono (c_X7_slice h_m h_wm hnn) (fun zv zV zh => ?_)
  rcases zh with ⟨hc, hzv, hzV⟩ | ⟨hc, hzv, hzV⟩
  · have hc2 := hc
    simp only [Bool.and_eq_true, Bool.not_eq_true', decide_eq_false_iff_not, Bool.or_eq_true, beq_iff_eq] at hc2
    obtain ⟨⟨⟨h3, hy⟩, hx⟩, hz⟩ := hc2
    have hlt : nn < 30 := by omega
    have hw9 : NW ne nn (9) (uL [0, y, (-1 : Int32), 0, 0, 0, 0, 0, 0, x, z, 0, 0, 0]) := ⟨(by omega), fun h => absurd h (by omega), fun _ => (blw_nI (by omega) hy), fun h1 h2 => absurd h2 (by omega), fun _ => rfl, fun h => absurd h (by omega), fun h => absurd h (by omega), fun h => absurd h (by omega), fun _ => by
      obtain ⟨u0, a1, a2⟩ := sln_nI hx
      obtain ⟨u1, a3, a4⟩ := sln_nI hz
      exact ⟨u0, u1, a1, a3, a2, a4⟩, fun h => absurd h (by omega)⟩
    have hk9 : MK (upd (upd (upd (upd (upd (upd fm (6 * nn) (nI (9))) (6 * nn + 1) y) (6 * nn + 2) x) (6 * nn + 3) z) (6 * nn + 4) (nI 0)) (6 * nn + 5) (nI 0)) nn (9) (uL [0, y, (-1 : Int32), 0, 0, 0, 0, 0, 0, x, z, 0, 0, 0]) := by
      obtain ⟨r0, r1, r2, r3, r4, r5⟩ := u6_r (fm := fm) (nn := nn) (q := (9)) (x1 := y) (x2 := x) (x3 := z) (x4 := (nI 0)) (x5 := (nI 0))
      refine ⟨r0, fun h0 => ?_, fun h0 => ?_, fun h0 h1 => ?_, fun h0 => ?_, fun h0 => ?_, fun h0 => ?_, fun h0 => ?_, fun h0 => ?_, fun h0 => ?_, fun h0 => ?_, fun h0 => ?_⟩ <;> first | (exfalso; omega) | exact r1 | exact r2 | exact r3 | exact ⟨r1, r2, r3⟩ | exact ⟨r2, r3⟩ | exact ⟨r3, by cases bx <;> first | exact Or.inl rfl | exact Or.inr rfl⟩ | exact ⟨r3, r4, r5, w4, hw4, ew4⟩
    have hg := hG (9) (uL [0, y, (-1 : Int32), 0, 0, 0, 0, 0, 0, x, z, 0, 0, 0]) y x z (nI 0) (nI 0) hlt hw9 hk9
    rw [hzV]
    exact Or.inl ⟨hc, hzv, hg.1, hg.2⟩
  · rw [hzV]
    exact Or.inr ⟨hc, hzv, h, fun _ _ => rfl⟩

set_option maxHeartbeats 4000000 in
theorem g_order {zl : Launch} {D : va_G} {cI cN cR : ClassId} {base : Nat} {V : gv_V} {m wt wa wv wm wr wc wn ws wk wp : Nat} {T : List Tr} {E : Nat → Ex} {ne : Nat} {qk : Nat → Nat} {nv : Nat → Nat → Int32} {nn : Nat} {L0 : List Row} {y w : Int32} {bx : Bool} (h : MC cI V m wt wa wv wm wr wc wn ws wk wp T E ne qk nv nn L0) : ct zl D [(cI, .int), (cN, .object "AlgebraTree$Node"), (cR, .object "AlgebraTree$Rows")] base yX7_order cX7_order 4 (some .int) 2 0 0 [.ref m, .int y, .int w, .int (bI bx)] V (mkM cI V m wt wa wv wm wr wc wn ws wk wp T E ne qk nv nn L0 ((!decide (nn = 30) && blw y (nI nn)) && blw w (nI ne)) (10) (uL [0, y, (-1 : Int32), 0, 0, 0, w, 0, 0, 0, 0, (bI bx), 0, 0])) := by
  obtain ⟨kn, fm, h_m, h_wm, hnn, hne30, hG⟩ := MC.nd h
  refine ct_mono (c_X7_order h_m h_wm hnn) (fun zv zV zh => ?_)
  rcases zh with ⟨hc, hzv, hzV⟩ | ⟨hc, hzv, hzV⟩
  · have hc2 := hc
    simp only [Bool.and_eq_true, Bool.not_eq_true', decide_eq_false_iff_not, Bool.or_eq_true, beq_iff_eq] at hc2
    obtain ⟨⟨h3, hy⟩, hw⟩ := hc2
    have hlt : nn < 30 := by omega
    have hw9 : NW ne nn (10) (uL [0, y, (-1 : Int32), 0, 0, 0, w, 0, 0, 0, 0, (bI bx), 0, 0]) := ⟨(by omega), fun h => absurd h (by omega), fun _ => (blw_nI (by omega) hy), fun h1 h2 => absurd h2 (by omega), fun _ => rfl, fun h => absurd h (by omega), fun _ => blw_nI (by omega) hw, fun h => absurd h (by omega), fun h => absurd h (by omega), fun h => absurd h (by omega)⟩
    have hk9 : MK (upd (upd (upd (upd (upd (upd fm (6 * nn) (nI (10))) (6 * nn + 1) y) (6 * nn + 2) w) (6 * nn + 3) (bI bx)) (6 * nn + 4) (nI 0)) (6 * nn + 5) (nI 0)) nn (10) (uL [0, y, (-1 : Int32), 0, 0, 0, w, 0, 0, 0, 0, (bI bx), 0, 0]) := by
      obtain ⟨r0, r1, r2, r3, r4, r5⟩ := u6_r (fm := fm) (nn := nn) (q := (10)) (x1 := y) (x2 := w) (x3 := (bI bx)) (x4 := (nI 0)) (x5 := (nI 0))
      refine ⟨r0, fun h0 => ?_, fun h0 => ?_, fun h0 h1 => ?_, fun h0 => ?_, fun h0 => ?_, fun h0 => ?_, fun h0 => ?_, fun h0 => ?_, fun h0 => ?_, fun h0 => ?_, fun h0 => ?_⟩ <;> first | (exfalso; omega) | exact r1 | exact r2 | exact r3 | exact ⟨r1, r2, r3⟩ | exact ⟨r2, r3⟩ | exact ⟨r3, by cases bx <;> first | exact Or.inl rfl | exact Or.inr rfl⟩ | exact ⟨r3, r4, r5, w4, hw4, ew4⟩
    have hg := hG (10) (uL [0, y, (-1 : Int32), 0, 0, 0, w, 0, 0, 0, 0, (bI bx), 0, 0]) y w (bI bx) (nI 0) (nI 0) hlt hw9 hk9
    rw [hzV]
    exact Or.inl ⟨hc, hzv, hg.1, hg.2⟩
  · rw [hzV]
    exact Or.inr ⟨hc, hzv, h, fun _ _ => rfl⟩

set_option maxHeartbeats 4000000 in
theorem g_group {zl : Launch} {D : va_G} {cI cN cR : ClassId} {base : Nat} {V : gv_V} {m wt wa wv wm wr wc wn ws wk wp : Nat} {T : List Tr} {E : Nat → Ex} {ne : Nat} {qk : Nat → Nat} {nv : Nat → Nat → Int32} {nn : Nat} {L0 : List Row} {y x z w v : Int32} (h : MC cI V m wt wa wv wm wr wc wn ws wk wp T E ne qk nv nn L0) : ct zl D [(cI, .int), (cN, .object "AlgebraTree$Node"), (cR, .object "AlgebraTree$Rows")] base yX7_group cX7_group 7 (some .int) 2 0 0 [.ref m, .int y, .int x, .int z, .int w, .int v] V (mkM cI V m wt wa wv wm wr wc wn ws wk wp T E ne qk nv nn L0 ((!decide (nn = 30) && blw y (nI nn)) && blw x (nI 64) && blw z (nI 4) && blw w (nI ne) && blw v (nI 6) && !inS x v) (11) (uL [0, y, (-1 : Int32), 0, 0, 0, w, v, x, 0, 0, 0, z, 0])) := by
  obtain ⟨kn, fm, h_m, h_wm, hnn, hne30, hG⟩ := MC.nd h
  refine ct_mono (c_X7_group h_m h_wm hnn) (fun zv zV zh => ?_)
  rcases zh with ⟨hc, hzv, hzV⟩ | ⟨hc, hzv, hzV⟩
  · have hc2 := hc
    simp only [Bool.and_eq_true, Bool.not_eq_true', decide_eq_false_iff_not, Bool.or_eq_true, beq_iff_eq] at hc2
    obtain ⟨⟨⟨⟨⟨⟨h3, hy⟩, hx⟩, hz⟩, hw⟩, hv⟩, hi⟩ := hc2
    have hlt : nn < 30 := by omega
    have hw9 : NW ne nn (11) (uL [0, y, (-1 : Int32), 0, 0, 0, w, v, x, 0, 0, 0, z, 0]) := ⟨(by omega), fun h => absurd h (by omega), fun _ => (blw_nI (by omega) hy), fun h1 h2 => absurd h2 (by omega), fun _ => rfl, fun h => absurd h (by omega), fun _ => blw_nI (by omega) hw, fun _ => blw_nI (by omega) hv, fun h => absurd h (by omega), fun h => absurd h (by omega)⟩
    obtain ⟨w4, hw4, ew4⟩ := blw_nI (show 4 < 2 ^ 31 by omega) hz
    have hk9 : MK (upd (upd (upd (upd (upd (upd fm (6 * nn) (nI (11))) (6 * nn + 1) y) (6 * nn + 2) x) (6 * nn + 3) z) (6 * nn + 4) w) (6 * nn + 5) v) nn (11) (uL [0, y, (-1 : Int32), 0, 0, 0, w, v, x, 0, 0, 0, z, 0]) := by
      obtain ⟨r0, r1, r2, r3, r4, r5⟩ := u6_r (fm := fm) (nn := nn) (q := (11)) (x1 := y) (x2 := x) (x3 := z) (x4 := w) (x5 := v)
      refine ⟨r0, fun h0 => ?_, fun h0 => ?_, fun h0 h1 => ?_, fun h0 => ?_, fun h0 => ?_, fun h0 => ?_, fun h0 => ?_, fun h0 => ?_, fun h0 => ?_, fun h0 => ?_, fun h0 => ?_⟩ <;> first | (exfalso; omega) | exact r1 | exact r2 | exact r3 | exact ⟨r1, r2, r3⟩ | exact ⟨r2, r3⟩ | exact ⟨r3, by cases bx <;> first | exact Or.inl rfl | exact Or.inr rfl⟩ | exact ⟨r3, r4, r5, w4, hw4, ew4⟩
    have hg := hG (11) (uL [0, y, (-1 : Int32), 0, 0, 0, w, v, x, 0, 0, 0, z, 0]) y x z w v hlt hw9 hk9
    rw [hzV]
    exact Or.inl ⟨hc, hzv, hg.1, hg.2⟩
  · rw [hzV]
    exact Or.inr ⟨hc, hzv, h, fun _ _ => rfl⟩

set_option maxHeartbeats 4000000 in
theorem g_graph {zl : Launch} {D : va_G} {cI cN cR : ClassId} {base : Nat} {V : gv_V} {m wt wa wv wm wr wc wn ws wk wp : Nat} {T : List Tr} {E : Nat → Ex} {ne : Nat} {qk : Nat → Nat} {nv : Nat → Nat → Int32} {nn : Nat} {L0 : List Row} {x y : Int32} (h : MC cI V m wt wa wv wm wr wc wn ws wk wp T E ne qk nv nn L0) : ct zl D [(cI, .int), (cN, .object "AlgebraTree$Node"), (cR, .object "AlgebraTree$Rows")] base yX7_graph cX7_graph 3 (some .int) 2 0 0 [.ref m, .int x, .int y] V (mkM cI V m wt wa wv wm wr wc wn ws wk wp T E ne qk nv nn L0 (blw x (nI 4) && (!decide (nn = 30) && blw y (nI nn))) (12) (uL [0, y, (-1 : Int32), 0, 0, 0, 0, 0, 0, 0, 0, 0, 0, x])) := by
  obtain ⟨kn, fm, h_m, h_wm, hnn, hne30, hG⟩ := MC.nd h
  refine ct_mono (c_X7_graph h_m h_wm hnn) (fun zv zV zh => ?_)
  rcases zh with ⟨hc, hzv, hzV⟩ | ⟨hc, hzv, hzV⟩
  · have hc2 := hc
    simp only [Bool.and_eq_true, Bool.not_eq_true', decide_eq_false_iff_not, Bool.or_eq_true, beq_iff_eq] at hc2
    obtain ⟨hx, h3, hy⟩ := hc2
    have hlt : nn < 30 := by omega
    have hw9 : NW ne nn (12) (uL [0, y, (-1 : Int32), 0, 0, 0, 0, 0, 0, 0, 0, 0, 0, x]) := ⟨(by omega), fun h => absurd h (by omega), fun _ => (blw_nI (by omega) hy), fun h1 h2 => absurd h2 (by omega), fun _ => rfl, fun h => absurd h (by omega), fun h => absurd h (by omega), fun h => absurd h (by omega), fun h => absurd h (by omega), fun _ => blw_nI (by omega) hx⟩
    have hk9 : MK (upd (upd (upd (upd (upd (upd fm (6 * nn) (nI (12))) (6 * nn + 1) y) (6 * nn + 2) x) (6 * nn + 3) (nI 0)) (6 * nn + 4) (nI 0)) (6 * nn + 5) (nI 0)) nn (12) (uL [0, y, (-1 : Int32), 0, 0, 0, 0, 0, 0, 0, 0, 0, 0, x]) := by
      obtain ⟨r0, r1, r2, r3, r4, r5⟩ := u6_r (fm := fm) (nn := nn) (q := (12)) (x1 := y) (x2 := x) (x3 := (nI 0)) (x4 := (nI 0)) (x5 := (nI 0))
      refine ⟨r0, fun h0 => ?_, fun h0 => ?_, fun h0 h1 => ?_, fun h0 => ?_, fun h0 => ?_, fun h0 => ?_, fun h0 => ?_, fun h0 => ?_, fun h0 => ?_, fun h0 => ?_, fun h0 => ?_⟩ <;> first | (exfalso; omega) | exact r1 | exact r2 | exact r3 | exact ⟨r1, r2, r3⟩ | exact ⟨r2, r3⟩ | exact ⟨r3, by cases bx <;> first | exact Or.inl rfl | exact Or.inr rfl⟩ | exact ⟨r3, r4, r5, w4, hw4, ew4⟩
    have hg := hG (12) (uL [0, y, (-1 : Int32), 0, 0, 0, 0, 0, 0, 0, 0, 0, 0, x]) y x (nI 0) (nI 0) (nI 0) hlt hw9 hk9
    rw [hzV]
    exact Or.inl ⟨hc, hzv, hg.1, hg.2⟩
  · rw [hzV]
    exact Or.inr ⟨hc, hzv, h, fun _ _ => rfl⟩

set_option maxHeartbeats 4000000 in
theorem g_graphs {zl : Launch} {D : va_G} {cI cN cR : ClassId} {base : Nat} {V : gv_V} {m wt wa wv wm wr wc wn ws wk wp : Nat} {T : List Tr} {E : Nat → Ex} {ne : Nat} {qk : Nat → Nat} {nv : Nat → Nat → Int32} {nn : Nat} {L0 : List Row} {x y : Int32} (h : MC cI V m wt wa wv wm wr wc wn ws wk wp T E ne qk nv nn L0) : ct zl D [(cI, .int), (cN, .object "AlgebraTree$Node"), (cR, .object "AlgebraTree$Rows")] base yX7_graphs cX7_graphs 3 (some .int) 2 0 0 [.ref m, .int x, .int y] V (mkM cI V m wt wa wv wm wr wc wn ws wk wp T E ne qk nv nn L0 (blw x (nI 6) && (!decide (nn = 30) && blw y (nI nn))) (13) (uL [0, y, (-1 : Int32), 0, 0, 0, 0, x, 0, 0, 0, 0, 0, 0])) := by
  obtain ⟨kn, fm, h_m, h_wm, hnn, hne30, hG⟩ := MC.nd h
  refine ct_mono (c_X7_graphs h_m h_wm hnn) (fun zv zV zh => ?_)
  rcases zh with ⟨hc, hzv, hzV⟩ | ⟨hc, hzv, hzV⟩
  · have hc2 := hc
    simp only [Bool.and_eq_true, Bool.not_eq_true', decide_eq_false_iff_not, Bool.or_eq_true, beq_iff_eq] at hc2
    obtain ⟨hx, h3, hy⟩ := hc2
    have hlt : nn < 30 := by omega
    have hw9 : NW ne nn (13) (uL [0, y, (-1 : Int32), 0, 0, 0, 0, x, 0, 0, 0, 0, 0, 0]) := ⟨(by omega), fun h => absurd h (by omega), fun _ => (blw_nI (by omega) hy), fun h1 h2 => absurd h2 (by omega), fun _ => rfl, fun h => absurd h (by omega), fun h => absurd h (by omega), fun _ => blw_nI (by omega) hx, fun h => absurd h (by omega), fun h => absurd h (by omega)⟩
    have hk9 : MK (upd (upd (upd (upd (upd (upd fm (6 * nn) (nI (13))) (6 * nn + 1) y) (6 * nn + 2) x) (6 * nn + 3) (nI 0)) (6 * nn + 4) (nI 0)) (6 * nn + 5) (nI 0)) nn (13) (uL [0, y, (-1 : Int32), 0, 0, 0, 0, x, 0, 0, 0, 0, 0, 0]) := by
      obtain ⟨r0, r1, r2, r3, r4, r5⟩ := u6_r (fm := fm) (nn := nn) (q := (13)) (x1 := y) (x2 := x) (x3 := (nI 0)) (x4 := (nI 0)) (x5 := (nI 0))
      refine ⟨r0, fun h0 => ?_, fun h0 => ?_, fun h0 h1 => ?_, fun h0 => ?_, fun h0 => ?_, fun h0 => ?_, fun h0 => ?_, fun h0 => ?_, fun h0 => ?_, fun h0 => ?_, fun h0 => ?_⟩ <;> first | (exfalso; omega) | exact r1 | exact r2 | exact r3 | exact ⟨r1, r2, r3⟩ | exact ⟨r2, r3⟩ | exact ⟨r3, by cases bx <;> first | exact Or.inl rfl | exact Or.inr rfl⟩ | exact ⟨r3, r4, r5, w4, hw4, ew4⟩
    have hg := hG (13) (uL [0, y, (-1 : Int32), 0, 0, 0, 0, x, 0, 0, 0, 0, 0, 0]) y x (nI 0) (nI 0) (nI 0) hlt hw9 hk9
    rw [hzV]
    exact Or.inl ⟨hc, hzv, hg.1, hg.2⟩
  · rw [hzV]
    exact Or.inr ⟨hc, hzv, h, fun _ _ => rfl⟩

set_option maxHeartbeats 4000000 in
theorem g_triple {zl : Launch} {D : va_G} {cI cN cR : ClassId} {base : Nat} {V : gv_V} {m wt wa wv wm wr wc wn ws wk wp : Nat} {T : List Tr} {E : Nat → Ex} {ne : Nat} {qk : Nat → Nat} {nv : Nat → Nat → Int32} {nn : Nat} {L0 : List Row} {x y z w : Int32} (h : MC cI V m wt wa wv wm wr wc wn ws wk wp T E ne qk nv nn L0) : ct zl D [(cI, .int), (cN, .object "AlgebraTree$Node"), (cR, .object "AlgebraTree$Rows")] base yX7_triple cX7_triple 6 (some .int) 1 0 0 [.ref m, .int x, .int y, .int z, .int w] V (fun zv zV => ((blw x (nI 4) && blw y (nI 1000) && blw z (nI 1000) && blw w (nI 1000) && !decide (T.length = 60) && !trIn T (x, y, z, w)) = true ∧ zv = some (.int (nI T.length)) ∧ MC cI zV m wt wa wv wm wr wc wn ws wk wp (T ++ [(x, y, z, w)]) E ne qk nv nn L0 ∧ ∀ a, ¬ MO m wt wa wv wm wr wc wn ws wk wp a → zV a = V a) ∨ ((blw x (nI 4) && blw y (nI 1000) && blw z (nI 1000) && blw w (nI 1000) && !decide (T.length = 60) && !trIn T (x, y, z, w)) = false ∧ zv = some (.int (-1 : Int32)) ∧ MC cI zV m wt wa wv wm wr wc wn ws wk wp T E ne qk nv nn L0 ∧ ∀ a, ¬ MO m wt wa wv wm wr wc wn ws wk wp a → zV a = V a)) := by
  have h' := h
  obtain ⟨kn, ft, fa, fv, fm, fr, fc, fw, fs, fk, fp, h_m, h_wt, h_wa, h_wv, h_wm, h_wr, h_wc, h_wn, h_ws, h_wk, h_wp, hwkp, hT, hM, hnn, hNW, hMK, hkn, hTb⟩ := h
  refine ct_mono (c_X7_triple (T := T) h_m h_wt hT) (fun zv zV zh => ?_)
  rcases zh with ⟨hc, hzv, hzV⟩ | ⟨hc, hzv, hzV⟩
  · have hlt : T.length < 60 := by
      have := hT.2.1
      have hc2 := hc
      simp only [Bool.and_eq_true, Bool.not_eq_true', decide_eq_false_iff_not] at hc2
      omega
    have eT : (T ++ [(x, y, z, w)]).length = T.length + 1 := by simp
    rw [hzV]
    exact Or.inl ⟨hc, hzv, ⟨nI 0, _, fa, fv, fm, fr, fc, fw, fs, fk, fp, (by rw [eT]; exact gv_up_s), ((gv_up_n (gv_ne h_m h_wt (by simp))).trans gv_up_s), ((gv_up_n (gv_ne h_m h_wa (by simp))).trans ((gv_up_n (gv_ne h_wt h_wa (by simp))).trans h_wa)), ((gv_up_n (gv_ne h_m h_wv (by simp))).trans ((gv_up_n (gv_ne h_wt h_wv (by simp))).trans h_wv)), ((gv_up_n (gv_ne h_m h_wm (by simp))).trans ((gv_up_n (gv_ne h_wt h_wm (by simp))).trans h_wm)), ((gv_up_n (gv_ne h_m h_wr (by simp))).trans ((gv_up_n (gv_ne h_wt h_wr (by simp))).trans h_wr)), ((gv_up_n (gv_ne h_m h_wc (by simp))).trans ((gv_up_n (gv_ne h_wt h_wc (by simp))).trans h_wc)), ((gv_up_n (gv_ne h_m h_wn (by simp))).trans ((gv_up_n (gv_ne h_wt h_wn (by simp))).trans h_wn)), ((gv_up_n (gv_ne h_m h_ws (by simp))).trans ((gv_up_n (gv_ne h_wt h_ws (by simp))).trans h_ws)), ((gv_up_n (gv_ne h_m h_wk (by simp))).trans ((gv_up_n (gv_ne h_wt h_wk (by simp))).trans h_wk)), ((gv_up_n (gv_ne h_m h_wp (by simp))).trans ((gv_up_n (gv_ne h_wt h_wp (by simp))).trans h_wp)), hwkp, (by rw [eT]; exact hT.add hlt), hM, hnn, hNW, hMK, Or.inl rfl, hTb⟩, (fun q hq => ((mo_up mo_m hq).trans ((mo_up mo_wt hq).trans rfl)))⟩
  · rw [hzV]; exact Or.inr ⟨hc, hzv, h', fun _ _ => rfl⟩

set_option maxHeartbeats 4000000 in
theorem g_leaf {zl : Launch} {D : va_G} {cI cN cR : ClassId} {base : Nat} {V : gv_V} {m wt wa wv wm wr wc wn ws wk wp : Nat} {T : List Tr} {E : Nat → Ex} {ne : Nat} {qk : Nat → Nat} {nv : Nat → Nat → Int32} {nn : Nat} {L0 : List Row} {x y : Int32} (h : MC cI V m wt wa wv wm wr wc wn ws wk wp T E ne qk nv nn L0) : ct zl D [(cI, .int), (cN, .object "AlgebraTree$Node"), (cR, .object "AlgebraTree$Rows")] base yX7_leaf cX7_leaf 4 (some .int) 1 0 0 [.ref m, .int x, .int y] V (fun zv zV => ((blw x (nI 3) && (if x = 0 then wtn y.toInt64 (1000000 : Int32) else blw y (nI 6)) && !decide (ne = 30)) = true ∧ zv = some (.int (nI ne)) ∧ MC cI zV m wt wa wv wm wr wc wn ws wk wp T (va_up E ne (9 + tn x, y, 0)) (ne + 1) qk nv nn L0 ∧ ∀ a, ¬ MO m wt wa wv wm wr wc wn ws wk wp a → zV a = V a) ∨ ((blw x (nI 3) && (if x = 0 then wtn y.toInt64 (1000000 : Int32) else blw y (nI 6)) && !decide (ne = 30)) = false ∧ zv = some (.int (-1 : Int32)) ∧ MC cI zV m wt wa wv wm wr wc wn ws wk wp T E ne qk nv nn L0 ∧ ∀ a, ¬ MO m wt wa wv wm wr wc wn ws wk wp a → zV a = V a)) := by
  have h' := h
  obtain ⟨kn, ft, fa, fv, fm, fr, fc, fw, fs, fk, fp, h_m, h_wt, h_wa, h_wv, h_wm, h_wr, h_wc, h_wn, h_ws, h_wk, h_wp, hwkp, hT, hM, hnn, hNW, hMK, hkn, hTb⟩ := h
  have hne30 := hM.1
  refine ct_mono (c_X7_leaf h_m h_wa hM.1) (fun zv zV zh => ?_)
  rcases zh with ⟨hc, hzv, hzV⟩ | ⟨hc, hzv, hzV⟩
  · have hc2 := hc
    simp only [Bool.and_eq_true, Bool.not_eq_true', decide_eq_false_iff_not, Bool.or_eq_true, beq_iff_eq] at hc2
    obtain ⟨⟨hx, hy⟩, h3⟩ := hc2
    have hx3 : tn x < 3 := blw_lt (by omega) hx
    have hlt : ne < 30 := by omega
    rw [hzV]
    exact Or.inl ⟨hc, hzv, ⟨kn, ft, _, fv, fm, fr, fc, fw, fs, fk, fp, gv_up_s, ((gv_up_n (gv_ne h_m h_wt (by simp))).trans ((gv_up_n (gv_ne h_wa h_wt (by simp))).trans h_wt)), ((gv_up_n (gv_ne h_m h_wa (by simp))).trans gv_up_s), ((gv_up_n (gv_ne h_m h_wv (by simp))).trans ((gv_up_n (gv_ne h_wa h_wv (by simp))).trans h_wv)), ((gv_up_n (gv_ne h_m h_wm (by simp))).trans ((gv_up_n (gv_ne h_wa h_wm (by simp))).trans h_wm)), ((gv_up_n (gv_ne h_m h_wr (by simp))).trans ((gv_up_n (gv_ne h_wa h_wr (by simp))).trans h_wr)), ((gv_up_n (gv_ne h_m h_wc (by simp))).trans ((gv_up_n (gv_ne h_wa h_wc (by simp))).trans h_wc)), ((gv_up_n (gv_ne h_m h_wn (by simp))).trans ((gv_up_n (gv_ne h_wa h_wn (by simp))).trans h_wn)), ((gv_up_n (gv_ne h_m h_ws (by simp))).trans ((gv_up_n (gv_ne h_wa h_ws (by simp))).trans h_ws)), ((gv_up_n (gv_ne h_m h_wk (by simp))).trans ((gv_up_n (gv_ne h_wa h_wk (by simp))).trans h_wk)), ((gv_up_n (gv_ne h_m h_wp (by simp))).trans ((gv_up_n (gv_ne h_wa h_wp (by simp))).trans h_wp)), hwkp, hT, (hM.add (q := 9 + tn x) hlt (by omega) (by rw [if_pos (by omega), Nat.add_sub_cancel_left]; exact (blw_tn hx).symm) (fun hq => absurd hq (by omega)) (fun hq => by
      have h0 : ¬ x = 0 := fun e => by rw [e] at hq; exact absurd hq (by decide)
      rw [if_neg h0] at hy
      exact blw_nI (by omega) hy)), hnn, (fun k hk => (hNW k hk).mono (by omega)), hMK, (hkn.imp id (fun hh => ⟨hh.1, fun j0 z0 hj hz => by rw [sem_E hM.1 (fun k hk => va_up_ne _ _ (by omega)) hNW hj]; exact hh.2 j0 z0 hj hz⟩)), hTb⟩, (fun q hq => ((mo_up mo_m hq).trans ((mo_up mo_wa hq).trans rfl)))⟩
  · rw [hzV]; exact Or.inr ⟨hc, hzv, h', fun _ _ => rfl⟩

set_option maxHeartbeats 4000000 in
theorem g_apply {zl : Launch} {D : va_G} {cI cN cR : ClassId} {base : Nat} {V : gv_V} {m wt wa wv wm wr wc wn ws wk wp : Nat} {T : List Tr} {E : Nat → Ex} {ne : Nat} {qk : Nat → Nat} {nv : Nat → Nat → Int32} {nn : Nat} {L0 : List Row} {x y z : Int32} (h : MC cI V m wt wa wv wm wr wc wn ws wk wp T E ne qk nv nn L0) : ct zl D [(cI, .int), (cN, .object "AlgebraTree$Node"), (cR, .object "AlgebraTree$Rows")] base yX7_apply cX7_apply 5 (some .int) 1 0 0 [.ref m, .int x, .int y, .int z] V (fun zv zV => ((blw x (nI 9) && blw y (nI ne) && (x == 8 || blw z (nI ne)) && !decide (ne = 30)) = true ∧ zv = some (.int (nI ne)) ∧ MC cI zV m wt wa wv wm wr wc wn ws wk wp T (va_up E ne (tn x, y, z)) (ne + 1) qk nv nn L0 ∧ ∀ a, ¬ MO m wt wa wv wm wr wc wn ws wk wp a → zV a = V a) ∨ ((blw x (nI 9) && blw y (nI ne) && (x == 8 || blw z (nI ne)) && !decide (ne = 30)) = false ∧ zv = some (.int (-1 : Int32)) ∧ MC cI zV m wt wa wv wm wr wc wn ws wk wp T E ne qk nv nn L0 ∧ ∀ a, ¬ MO m wt wa wv wm wr wc wn ws wk wp a → zV a = V a)) := by
  have h' := h
  obtain ⟨kn, ft, fa, fv, fm, fr, fc, fw, fs, fk, fp, h_m, h_wt, h_wa, h_wv, h_wm, h_wr, h_wc, h_wn, h_ws, h_wk, h_wp, hwkp, hT, hM, hnn, hNW, hMK, hkn, hTb⟩ := h
  have hne30 := hM.1
  refine ct_mono (c_X7_apply h_m h_wa hM.1) (fun zv zV zh => ?_)
  rcases zh with ⟨hc, hzv, hzV⟩ | ⟨hc, hzv, hzV⟩
  · have hc2 := hc
    simp only [Bool.and_eq_true, Bool.not_eq_true', decide_eq_false_iff_not, Bool.or_eq_true, beq_iff_eq] at hc2
    obtain ⟨⟨⟨hx, hy⟩, hz⟩, h3⟩ := hc2
    have hx9 : tn x < 9 := blw_lt (by omega) hx
    have hlt : ne < 30 := by omega
    rw [hzV]
    exact Or.inl ⟨hc, hzv, ⟨kn, ft, _, fv, fm, fr, fc, fw, fs, fk, fp, gv_up_s, ((gv_up_n (gv_ne h_m h_wt (by simp))).trans ((gv_up_n (gv_ne h_wa h_wt (by simp))).trans h_wt)), ((gv_up_n (gv_ne h_m h_wa (by simp))).trans gv_up_s), ((gv_up_n (gv_ne h_m h_wv (by simp))).trans ((gv_up_n (gv_ne h_wa h_wv (by simp))).trans h_wv)), ((gv_up_n (gv_ne h_m h_wm (by simp))).trans ((gv_up_n (gv_ne h_wa h_wm (by simp))).trans h_wm)), ((gv_up_n (gv_ne h_m h_wr (by simp))).trans ((gv_up_n (gv_ne h_wa h_wr (by simp))).trans h_wr)), ((gv_up_n (gv_ne h_m h_wc (by simp))).trans ((gv_up_n (gv_ne h_wa h_wc (by simp))).trans h_wc)), ((gv_up_n (gv_ne h_m h_wn (by simp))).trans ((gv_up_n (gv_ne h_wa h_wn (by simp))).trans h_wn)), ((gv_up_n (gv_ne h_m h_ws (by simp))).trans ((gv_up_n (gv_ne h_wa h_ws (by simp))).trans h_ws)), ((gv_up_n (gv_ne h_m h_wk (by simp))).trans ((gv_up_n (gv_ne h_wa h_wk (by simp))).trans h_wk)), ((gv_up_n (gv_ne h_m h_wp (by simp))).trans ((gv_up_n (gv_ne h_wa h_wp (by simp))).trans h_wp)), hwkp, hT, (hM.add (q := tn x) hlt (by omega) (by rw [if_neg (by omega), ← nI_add, blw_tn hx]) (fun _ => ⟨blw_nI (by omega) hy, fun h8 => hz.elim (fun e => absurd (show tn x = 8 by rw [e]; rfl) h8) (fun e => blw_nI (by omega) e)⟩) (fun hq => absurd hq (by omega))), hnn, (fun k hk => (hNW k hk).mono (by omega)), hMK, (hkn.imp id (fun hh => ⟨hh.1, fun j0 z0 hj hz => by rw [sem_E hM.1 (fun k hk => va_up_ne _ _ (by omega)) hNW hj]; exact hh.2 j0 z0 hj hz⟩)), hTb⟩, (fun q hq => ((mo_up mo_m hq).trans ((mo_up mo_wa hq).trans rfl)))⟩
  · rw [hzV]; exact Or.inr ⟨hc, hzv, h', fun _ _ => rfl⟩

set_option maxHeartbeats 4000000 in
theorem g_value {zl : Launch} {D : va_G} {cI cN cR : ClassId} {base : Nat} {V : gv_V} {m wt wa wv wm wr wc wn ws wk wp : Nat} {T : List Tr} {E : Nat → Ex} {ne : Nat} {qk : Nat → Nat} {nv : Nat → Nat → Int32} {nn : Nat} {L0 : List Row} {x y : Int32} (h : MC cI V m wt wa wv wm wr wc wn ws wk wp T E ne qk nv nn L0) : ct zl D [(cI, .int), (cN, .object "AlgebraTree$Node"), (cR, .object "AlgebraTree$Rows")] base yX7_value cX7_value 3 (some .int) 1 0 0 [.ref m, .int x, .int y] V (fun zv zV => zv = some (.int (if (blw x (nI L0.length) && blw y (nI 6)) = true then rowAt L0 (tn x) (tn y) else oE)) ∧ MC cI zV m wt wa wv wm wr wc wn ws wk wp T E ne qk nv nn L0 ∧ ∀ a, ¬ MO m wt wa wv wm wr wc wn ws wk wp a → zV a = V a) := by
  have h' := h
  obtain ⟨kn, ft, fa, fv, fm, fr, fc, fw, fs, fk, fp, h_m, h_wt, h_wa, h_wv, h_wm, h_wr, h_wc, h_wn, h_ws, h_wk, h_wp, hwkp, hT, hM, hnn, hNW, hMK, hkn, hTb⟩ := h
  refine ct_mono (c_X7_value h_m h_ws hTb) (fun zv zV zh => ?_)
  obtain ⟨hzv, rfl⟩ := zh
  exact ⟨hzv, h', fun _ _ => rfl⟩

set_option maxHeartbeats 4000000 in
theorem g_many {zl : Launch} {D : va_G} {cI cN cR : ClassId} {base : Nat} {V : gv_V} {m wt wa wv wm wr wc wn ws wk wp : Nat} {T : List Tr} {E : Nat → Ex} {ne : Nat} {qk : Nat → Nat} {nv : Nat → Nat → Int32} {nn : Nat} {L0 : List Row} {x : Int32} (h : MC cI V m wt wa wv wm wr wc wn ws wk wp T E ne qk nv nn L0) : ct zl D [(cI, .int), (cN, .object "AlgebraTree$Node"), (cR, .object "AlgebraTree$Rows")] base yX7_many cX7_many 6 (some .int) 1 0 0 [.ref m, .int x] V (fun zv zV => zv = some (.int (if blw x (nI L0.length) = true then nI (cntR L0 (rowAt L0 (tn x))) else -1)) ∧ MC cI zV m wt wa wv wm wr wc wn ws wk wp T E ne qk nv nn L0 ∧ ∀ a, ¬ MO m wt wa wv wm wr wc wn ws wk wp a → zV a = V a) := by
  have h' := h
  obtain ⟨kn, ft, fa, fv, fm, fr, fc, fw, fs, fk, fp, h_m, h_wt, h_wa, h_wv, h_wm, h_wr, h_wc, h_wn, h_ws, h_wk, h_wp, hwkp, hT, hM, hnn, hNW, hMK, hkn, hTb⟩ := h
  refine ct_mono (c_X7_many h_m h_ws hTb) (fun zv zV zh => ?_)
  obtain ⟨hzv, rfl⟩ := zh
  exact ⟨hzv, h', fun _ _ => rfl⟩

set_option maxHeartbeats 4000000 in
theorem g_look {zl : Launch} {D : va_G} {cI cN cR : ClassId} {base : Nat} {V : gv_V} {m wt wa wv wm wr wc wn ws wk wp : Nat} {T : List Tr} {E : Nat → Ex} {ne : Nat} {qk : Nat → Nat} {nv : Nat → Nat → Int32} {nn : Nat} {L0 : List Row} {x y : Int32} (h : MC cI V m wt wa wv wm wr wc wn ws wk wp T E ne qk nv nn L0) : ct zl D [(cI, .int), (cN, .object "AlgebraTree$Node"), (cR, .object "AlgebraTree$Rows")] base yX7_look cX7_look 4 (some .int) 3 0 0 [.ref m, .int x, .int y] V (fun zv zV => zv = some (.int (if (blw x (nI L0.length) && blw y (nI ne)) = true then ev E (rowAt L0 (tn x)) (tn y) else oE)) ∧ MC cI zV m wt wa wv wm wr wc wn ws wk wp T E ne qk nv nn L0 ∧ ∀ a, ¬ MO m wt wa wv wm wr wc wn ws wk wp a → zV a = V a) := by
  obtain ⟨kn, ft, fa, fv, fm, fr, fc, fw, fs, fk, fp, h_m, h_wt, h_wa, h_wv, h_wm, h_wr, h_wc, h_wn, h_ws, h_wk, h_wp, hwkp, hT, hM, hnn, hNW, hMK, hkn, hTb⟩ := h
  refine ct_mono (c_X7_look h_m h_ws h_wn h_wv h_wa hTb hM) (fun zv zV zh => ?_)
  obtain ⟨fw1, fv1, hzv, rfl⟩ := zh
  exact ⟨hzv, ⟨kn, ft, fa, _, fm, fr, fc, _, fs, fk, fp, ((gv_up_n (gv_ne h_wv h_m (by simp))).trans ((gv_up_n (gv_ne h_wn h_m (by simp))).trans h_m)), ((gv_up_n (gv_ne h_wv h_wt (by simp))).trans ((gv_up_n (gv_ne h_wn h_wt (by simp))).trans h_wt)), ((gv_up_n (gv_ne h_wv h_wa (by simp))).trans ((gv_up_n (gv_ne h_wn h_wa (by simp))).trans h_wa)), gv_up_s, ((gv_up_n (gv_ne h_wv h_wm (by simp))).trans ((gv_up_n (gv_ne h_wn h_wm (by simp))).trans h_wm)), ((gv_up_n (gv_ne h_wv h_wr (by simp))).trans ((gv_up_n (gv_ne h_wn h_wr (by simp))).trans h_wr)), ((gv_up_n (gv_ne h_wv h_wc (by simp))).trans ((gv_up_n (gv_ne h_wn h_wc (by simp))).trans h_wc)), ((gv_up_n (gv_ne h_wv h_wn (by simp))).trans gv_up_s), ((gv_up_n (gv_ne h_wv h_ws (by simp))).trans ((gv_up_n (gv_ne h_wn h_ws (by simp))).trans h_ws)), ((gv_up_n (gv_ne h_wv h_wk (by simp))).trans ((gv_up_n (gv_ne h_wn h_wk (by simp))).trans h_wk)), ((gv_up_n (gv_ne h_wv h_wp (by simp))).trans ((gv_up_n (gv_ne h_wn h_wp (by simp))).trans h_wp)), hwkp, hT, hM, hnn, hNW, hMK, hkn, hTb⟩, (fun q hq => ((mo_up mo_wv hq).trans ((mo_up mo_wn hq).trans rfl)))⟩

set_option maxHeartbeats 4000000 in
theorem g_run {zl : Launch} {D : va_G} {cI cN cR : ClassId} {base : Nat} {V : gv_V} {m wt wa wv wm wr wc wn ws wk wp : Nat} {T : List Tr} {E : Nat → Ex} {ne : Nat} {qk : Nat → Nat} {nv : Nat → Nat → Int32} {nn : Nat} {L0 : List Row} {r : Nat} (h : MC cI V m wt wa wv wm wr wc wn ws wk wp T E ne qk nv nn L0) (hr : r < nn) : ct zl D [(cI, .int), (cN, .object "AlgebraTree$Node"), (cR, .object "AlgebraTree$Rows")] base yX7_run cX7_run 4 (some .int) 7 0 0 [.ref m, .int (nI r)] V (fun zv zV => (∀ a, ¬ MO m wt wa wv wm wr wc wn ws wk wp a → zV a = V a) ∧ ((sem T E qk nv r 0 = none ∧ zv = some (.int (-2 : Int32)) ∧ MC cI zV m wt wa wv wm wr wc wn ws wk wp T E ne qk nv nn L0) ∨ (∃ M, sem T E qk nv r 0 = some M ∧ zv = some (.int (nI M.length)) ∧ MC cI zV m wt wa wv wm wr wc wn ws wk wp T E ne qk nv nn M))) := by
  obtain ⟨kn, ft, fa, fv, fm, fr, fc, fw, fs, fk, fp, h_m, h_wt, h_wa, h_wv, h_wm, h_wr, h_wc, h_wn, h_ws, h_wk, h_wp, hwkp, hT, hM, hnn, hNW, hMK, hkn, hTb⟩ := h
  cases hs : sem T E qk nv r 0 with
  | none =>
    refine ct_mono (c_runL h_m h_wr h_wc h_wn h_wv h_wk h_wp h_wa h_wm h_wt hwkp hM hT hnn hNW hMK hkn hr hs) (fun zv zV zh => ?_)
    obtain ⟨fr1, fc1, fw1, fv1, fk1, fp1, hzv, rfl, hL1⟩ := zh
    exact ⟨(fun q hq => ((mo_up mo_m hq).trans ((mo_up mo_wp hq).trans ((mo_up mo_wk hq).trans ((mo_up mo_wv hq).trans ((mo_up mo_wn hq).trans ((mo_up mo_wc hq).trans ((mo_up mo_wr hq).trans rfl)))))))), Or.inl ⟨rfl, hzv, ⟨nI 1, ft, fa, _, fm, _, _, _, fs, _, _, gv_up_s, ((gv_up_n (gv_ne h_m h_wt (by simp))).trans ((gv_up_n (gv_ne h_wp h_wt (by simp))).trans ((gv_up_n (gv_ne h_wk h_wt (by simp))).trans ((gv_up_n (gv_ne h_wv h_wt (by simp))).trans ((gv_up_n (gv_ne h_wn h_wt (by simp))).trans ((gv_up_n (gv_ne h_wc h_wt (by simp))).trans ((gv_up_n (gv_ne h_wr h_wt (by simp))).trans h_wt))))))), ((gv_up_n (gv_ne h_m h_wa (by simp))).trans ((gv_up_n (gv_ne h_wp h_wa (by simp))).trans ((gv_up_n (gv_ne h_wk h_wa (by simp))).trans ((gv_up_n (gv_ne h_wv h_wa (by simp))).trans ((gv_up_n (gv_ne h_wn h_wa (by simp))).trans ((gv_up_n (gv_ne h_wc h_wa (by simp))).trans ((gv_up_n (gv_ne h_wr h_wa (by simp))).trans h_wa))))))), ((gv_up_n (gv_ne h_m h_wv (by simp))).trans ((gv_up_n (gv_ne h_wp h_wv (by simp))).trans ((gv_up_n (gv_ne h_wk h_wv (by simp))).trans gv_up_s))), ((gv_up_n (gv_ne h_m h_wm (by simp))).trans ((gv_up_n (gv_ne h_wp h_wm (by simp))).trans ((gv_up_n (gv_ne h_wk h_wm (by simp))).trans ((gv_up_n (gv_ne h_wv h_wm (by simp))).trans ((gv_up_n (gv_ne h_wn h_wm (by simp))).trans ((gv_up_n (gv_ne h_wc h_wm (by simp))).trans ((gv_up_n (gv_ne h_wr h_wm (by simp))).trans h_wm))))))), ((gv_up_n (gv_ne h_m h_wr (by simp))).trans ((gv_up_n (gv_ne h_wp h_wr (by simp))).trans ((gv_up_n (gv_ne h_wk h_wr (by simp))).trans ((gv_up_n (gv_ne h_wv h_wr (by simp))).trans ((gv_up_n (gv_ne h_wn h_wr (by simp))).trans ((gv_up_n (gv_ne h_wc h_wr (by simp))).trans gv_up_s)))))), ((gv_up_n (gv_ne h_m h_wc (by simp))).trans ((gv_up_n (gv_ne h_wp h_wc (by simp))).trans ((gv_up_n (gv_ne h_wk h_wc (by simp))).trans ((gv_up_n (gv_ne h_wv h_wc (by simp))).trans ((gv_up_n (gv_ne h_wn h_wc (by simp))).trans gv_up_s))))), ((gv_up_n (gv_ne h_m h_wn (by simp))).trans ((gv_up_n (gv_ne h_wp h_wn (by simp))).trans ((gv_up_n (gv_ne h_wk h_wn (by simp))).trans ((gv_up_n (gv_ne h_wv h_wn (by simp))).trans gv_up_s)))), ((gv_up_n (gv_ne h_m h_ws (by simp))).trans ((gv_up_n (gv_ne h_wp h_ws (by simp))).trans ((gv_up_n (gv_ne h_wk h_ws (by simp))).trans ((gv_up_n (gv_ne h_wv h_ws (by simp))).trans ((gv_up_n (gv_ne h_wn h_ws (by simp))).trans ((gv_up_n (gv_ne h_wc h_ws (by simp))).trans ((gv_up_n (gv_ne h_wr h_ws (by simp))).trans h_ws))))))), ((gv_up_n (gv_ne h_m h_wk (by simp))).trans ((gv_up_n hwkp).trans gv_up_s)), ((gv_up_n (gv_ne h_m h_wp (by simp))).trans gv_up_s), hwkp, hT, hM, hnn, hNW, hMK, Or.inr ⟨rfl, hL1⟩, hTb⟩⟩⟩
  | some M =>
    refine ct_mono (c_runS h_m h_wr h_wc h_wn h_wv h_wk h_wp h_wa h_wm h_wt h_ws hwkp hM hT hnn hNW hMK hkn hr hs) (fun zv zV zh => ?_)
    obtain ⟨fr1, fc1, fw1, fv1, fk1, fp1, fs1, hzv, rfl, hL1, hTM⟩ := zh
    exact ⟨(fun q hq => ((mo_up mo_m hq).trans ((mo_up mo_ws hq).trans ((mo_up mo_wp hq).trans ((mo_up mo_wk hq).trans ((mo_up mo_wv hq).trans ((mo_up mo_wn hq).trans ((mo_up mo_wc hq).trans ((mo_up mo_wr hq).trans rfl))))))))), Or.inr ⟨M, rfl, hzv, ⟨nI 1, ft, fa, _, fm, _, _, _, _, _, _, gv_up_s, ((gv_up_n (gv_ne h_m h_wt (by simp))).trans ((gv_up_n (gv_ne h_ws h_wt (by simp))).trans ((gv_up_n (gv_ne h_wp h_wt (by simp))).trans ((gv_up_n (gv_ne h_wk h_wt (by simp))).trans ((gv_up_n (gv_ne h_wv h_wt (by simp))).trans ((gv_up_n (gv_ne h_wn h_wt (by simp))).trans ((gv_up_n (gv_ne h_wc h_wt (by simp))).trans ((gv_up_n (gv_ne h_wr h_wt (by simp))).trans h_wt)))))))), ((gv_up_n (gv_ne h_m h_wa (by simp))).trans ((gv_up_n (gv_ne h_ws h_wa (by simp))).trans ((gv_up_n (gv_ne h_wp h_wa (by simp))).trans ((gv_up_n (gv_ne h_wk h_wa (by simp))).trans ((gv_up_n (gv_ne h_wv h_wa (by simp))).trans ((gv_up_n (gv_ne h_wn h_wa (by simp))).trans ((gv_up_n (gv_ne h_wc h_wa (by simp))).trans ((gv_up_n (gv_ne h_wr h_wa (by simp))).trans h_wa)))))))), ((gv_up_n (gv_ne h_m h_wv (by simp))).trans ((gv_up_n (gv_ne h_ws h_wv (by simp))).trans ((gv_up_n (gv_ne h_wp h_wv (by simp))).trans ((gv_up_n (gv_ne h_wk h_wv (by simp))).trans gv_up_s)))), ((gv_up_n (gv_ne h_m h_wm (by simp))).trans ((gv_up_n (gv_ne h_ws h_wm (by simp))).trans ((gv_up_n (gv_ne h_wp h_wm (by simp))).trans ((gv_up_n (gv_ne h_wk h_wm (by simp))).trans ((gv_up_n (gv_ne h_wv h_wm (by simp))).trans ((gv_up_n (gv_ne h_wn h_wm (by simp))).trans ((gv_up_n (gv_ne h_wc h_wm (by simp))).trans ((gv_up_n (gv_ne h_wr h_wm (by simp))).trans h_wm)))))))), ((gv_up_n (gv_ne h_m h_wr (by simp))).trans ((gv_up_n (gv_ne h_ws h_wr (by simp))).trans ((gv_up_n (gv_ne h_wp h_wr (by simp))).trans ((gv_up_n (gv_ne h_wk h_wr (by simp))).trans ((gv_up_n (gv_ne h_wv h_wr (by simp))).trans ((gv_up_n (gv_ne h_wn h_wr (by simp))).trans ((gv_up_n (gv_ne h_wc h_wr (by simp))).trans gv_up_s))))))), ((gv_up_n (gv_ne h_m h_wc (by simp))).trans ((gv_up_n (gv_ne h_ws h_wc (by simp))).trans ((gv_up_n (gv_ne h_wp h_wc (by simp))).trans ((gv_up_n (gv_ne h_wk h_wc (by simp))).trans ((gv_up_n (gv_ne h_wv h_wc (by simp))).trans ((gv_up_n (gv_ne h_wn h_wc (by simp))).trans gv_up_s)))))), ((gv_up_n (gv_ne h_m h_wn (by simp))).trans ((gv_up_n (gv_ne h_ws h_wn (by simp))).trans ((gv_up_n (gv_ne h_wp h_wn (by simp))).trans ((gv_up_n (gv_ne h_wk h_wn (by simp))).trans ((gv_up_n (gv_ne h_wv h_wn (by simp))).trans gv_up_s))))), ((gv_up_n (gv_ne h_m h_ws (by simp))).trans gv_up_s), ((gv_up_n (gv_ne h_m h_wk (by simp))).trans ((gv_up_n (gv_ne h_ws h_wk (by simp))).trans ((gv_up_n hwkp).trans gv_up_s))), ((gv_up_n (gv_ne h_m h_wp (by simp))).trans ((gv_up_n (gv_ne h_ws h_wp (by simp))).trans gv_up_s)), hwkp, hT, hM, hnn, hNW, hMK, Or.inr ⟨rfl, hL1⟩, hTM⟩⟩⟩

set_option maxHeartbeats 4000000 in
theorem g_runN {zl : Launch} {D : va_G} {cI cN cR : ClassId} {base : Nat} {V : gv_V} {m wt wa wv wm wr wc wn ws wk wp : Nat} {T : List Tr} {E : Nat → Ex} {ne : Nat} {qk : Nat → Nat} {nv : Nat → Nat → Int32} {nn : Nat} {L0 : List Row} {x : Int32} (h : MC cI V m wt wa wv wm wr wc wn ws wk wp T E ne qk nv nn L0) (hb : blw x (nI nn) = false) : ct zl D [(cI, .int), (cN, .object "AlgebraTree$Node"), (cR, .object "AlgebraTree$Rows")] base yX7_run cX7_run 4 (some .int) 7 0 0 [.ref m, .int x] V (fun zv zV => zv = some (.int ((-1 : Int32))) ∧ MC cI zV m wt wa wv wm wr wc wn ws wk wp T E ne qk nv nn L0 ∧ ∀ a, ¬ MO m wt wa wv wm wr wc wn ws wk wp a → zV a = V a) := by
  have h' := h
  obtain ⟨kn, ft, fa, fv, fm, fr, fc, fw, fs, fk, fp, h_m, h_wt, h_wa, h_wv, h_wm, h_wr, h_wc, h_wn, h_ws, h_wk, h_wp, hwkp, hT, hM, hnn, hNW, hMK, hkn, hTb⟩ := h
  refine ct_mono (c_mrunN h_m hb) (fun zv zV zh => ?_)
  obtain ⟨hzv, rfl⟩ := zh
  exact ⟨hzv, h', fun _ _ => rfl⟩

set_option maxHeartbeats 4000000 in
theorem g_same {zl : Launch} {D : va_G} {cI cN cR : ClassId} {base : Nat} {V : gv_V} {m wt wa wv wm wr wc wn ws wk wp : Nat} {T : List Tr} {E : Nat → Ex} {ne : Nat} {qk : Nat → Nat} {nv : Nat → Nat → Int32} {nn : Nat} {L0 : List Row} {r r2 : Nat} (h : MC cI V m wt wa wv wm wr wc wn ws wk wp T E ne qk nv nn L0) (hr : r < nn) (hr2 : r2 < nn) : ct zl D [(cI, .int), (cN, .object "AlgebraTree$Node"), (cR, .object "AlgebraTree$Rows")] base yX7_same cX7_same 6 (some .boolean) 7 0 0 [.ref m, .int (nI r), .int (nI r2)] V (fun zv zV => zv = some (.int (bI (sameS (sem T E qk nv r 0) (sem T E qk nv r2 0)))) ∧ MC cI zV m wt wa wv wm wr wc wn ws wk wp T E ne qk nv nn L0 ∧ ∀ a, ¬ MO m wt wa wv wm wr wc wn ws wk wp a → zV a = V a) := by
  obtain ⟨kn, ft, fa, fv, fm, fr, fc, fw, fs, fk, fp, h_m, h_wt, h_wa, h_wv, h_wm, h_wr, h_wc, h_wn, h_ws, h_wk, h_wp, hwkp, hT, hM, hnn, hNW, hMK, hkn, hTb⟩ := h
  refine ct_mono (c_sameM h_m h_wr h_wc h_wn h_wv h_wk h_wp h_wa h_wm h_wt hwkp hM hT hnn hNW hMK hkn hr hr2) (fun zv zV zh => ?_)
  obtain ⟨fr1, fc1, fw1, fv1, fk1, fp1, hzv, rfl, hL1⟩ := zh
  exact ⟨hzv, ⟨nI 1, ft, fa, _, fm, _, _, _, fs, _, _, gv_up_s, ((gv_up_n (gv_ne h_m h_wt (by simp))).trans ((gv_up_n (gv_ne h_wp h_wt (by simp))).trans ((gv_up_n (gv_ne h_wk h_wt (by simp))).trans ((gv_up_n (gv_ne h_wv h_wt (by simp))).trans ((gv_up_n (gv_ne h_wn h_wt (by simp))).trans ((gv_up_n (gv_ne h_wc h_wt (by simp))).trans ((gv_up_n (gv_ne h_wr h_wt (by simp))).trans h_wt))))))), ((gv_up_n (gv_ne h_m h_wa (by simp))).trans ((gv_up_n (gv_ne h_wp h_wa (by simp))).trans ((gv_up_n (gv_ne h_wk h_wa (by simp))).trans ((gv_up_n (gv_ne h_wv h_wa (by simp))).trans ((gv_up_n (gv_ne h_wn h_wa (by simp))).trans ((gv_up_n (gv_ne h_wc h_wa (by simp))).trans ((gv_up_n (gv_ne h_wr h_wa (by simp))).trans h_wa))))))), ((gv_up_n (gv_ne h_m h_wv (by simp))).trans ((gv_up_n (gv_ne h_wp h_wv (by simp))).trans ((gv_up_n (gv_ne h_wk h_wv (by simp))).trans gv_up_s))), ((gv_up_n (gv_ne h_m h_wm (by simp))).trans ((gv_up_n (gv_ne h_wp h_wm (by simp))).trans ((gv_up_n (gv_ne h_wk h_wm (by simp))).trans ((gv_up_n (gv_ne h_wv h_wm (by simp))).trans ((gv_up_n (gv_ne h_wn h_wm (by simp))).trans ((gv_up_n (gv_ne h_wc h_wm (by simp))).trans ((gv_up_n (gv_ne h_wr h_wm (by simp))).trans h_wm))))))), ((gv_up_n (gv_ne h_m h_wr (by simp))).trans ((gv_up_n (gv_ne h_wp h_wr (by simp))).trans ((gv_up_n (gv_ne h_wk h_wr (by simp))).trans ((gv_up_n (gv_ne h_wv h_wr (by simp))).trans ((gv_up_n (gv_ne h_wn h_wr (by simp))).trans ((gv_up_n (gv_ne h_wc h_wr (by simp))).trans gv_up_s)))))), ((gv_up_n (gv_ne h_m h_wc (by simp))).trans ((gv_up_n (gv_ne h_wp h_wc (by simp))).trans ((gv_up_n (gv_ne h_wk h_wc (by simp))).trans ((gv_up_n (gv_ne h_wv h_wc (by simp))).trans ((gv_up_n (gv_ne h_wn h_wc (by simp))).trans gv_up_s))))), ((gv_up_n (gv_ne h_m h_wn (by simp))).trans ((gv_up_n (gv_ne h_wp h_wn (by simp))).trans ((gv_up_n (gv_ne h_wk h_wn (by simp))).trans ((gv_up_n (gv_ne h_wv h_wn (by simp))).trans gv_up_s)))), ((gv_up_n (gv_ne h_m h_ws (by simp))).trans ((gv_up_n (gv_ne h_wp h_ws (by simp))).trans ((gv_up_n (gv_ne h_wk h_ws (by simp))).trans ((gv_up_n (gv_ne h_wv h_ws (by simp))).trans ((gv_up_n (gv_ne h_wn h_ws (by simp))).trans ((gv_up_n (gv_ne h_wc h_ws (by simp))).trans ((gv_up_n (gv_ne h_wr h_ws (by simp))).trans h_ws))))))), ((gv_up_n (gv_ne h_m h_wk (by simp))).trans ((gv_up_n hwkp).trans gv_up_s)), ((gv_up_n (gv_ne h_m h_wp (by simp))).trans gv_up_s), hwkp, hT, hM, hnn, hNW, hMK, Or.inr ⟨rfl, hL1⟩, hTb⟩, (fun q hq => ((mo_up mo_m hq).trans ((mo_up mo_wp hq).trans ((mo_up mo_wk hq).trans ((mo_up mo_wv hq).trans ((mo_up mo_wn hq).trans ((mo_up mo_wc hq).trans ((mo_up mo_wr hq).trans rfl))))))))⟩

set_option maxHeartbeats 4000000 in
theorem g_sameN {zl : Launch} {D : va_G} {cI cN cR : ClassId} {base : Nat} {V : gv_V} {m wt wa wv wm wr wc wn ws wk wp : Nat} {T : List Tr} {E : Nat → Ex} {ne : Nat} {qk : Nat → Nat} {nv : Nat → Nat → Int32} {nn : Nat} {L0 : List Row} {x y : Int32} (h : MC cI V m wt wa wv wm wr wc wn ws wk wp T E ne qk nv nn L0) (hb : blw x (nI nn) = false ∨ blw y (nI nn) = false) : ct zl D [(cI, .int), (cN, .object "AlgebraTree$Node"), (cR, .object "AlgebraTree$Rows")] base yX7_same cX7_same 6 (some .boolean) 7 0 0 [.ref m, .int x, .int y] V (fun zv zV => zv = some (.int (nI 0)) ∧ MC cI zV m wt wa wv wm wr wc wn ws wk wp T E ne qk nv nn L0 ∧ ∀ a, ¬ MO m wt wa wv wm wr wc wn ws wk wp a → zV a = V a) := by
  have h' := h
  obtain ⟨kn, ft, fa, fv, fm, fr, fc, fw, fs, fk, fp, h_m, h_wt, h_wa, h_wv, h_wm, h_wr, h_wc, h_wn, h_ws, h_wk, h_wp, hwkp, hT, hM, hnn, hNW, hMK, hkn, hTb⟩ := h
  refine ct_mono (c_sameMN h_m hb) (fun zv zV zh => ?_)
  obtain ⟨hzv, rfl⟩ := zh
  exact ⟨hzv, h', fun _ _ => rfl⟩
