/-! the face -/
theorem blw_tn {x : Int32} {n : Nat} (h : blw x (nI n) = true) : nI (tn x) = x := by
  simp only [blw, Bool.and_eq_true, decide_eq_true_eq] at h
  obtain ⟨j, hj, rfl⟩ := nI_of (Int32.not_lt.mpr h.1)
  rw [tn_nI hj]
theorem blw_lt {x : Int32} {n : Nat} (hn : n < 2 ^ 31) (h : blw x (nI n) = true) : tn x < n := by
  obtain ⟨k, hk, rfl⟩ := blw_nI hn h
  rw [tn_nI (by omega)]; exact hk
set_option maxHeartbeats 4000000 in
set_option maxRecDepth 100000 in
theorem c_X6_pattern {zl : Launch} {D : va_G} {cI cN cR : ClassId} {base : Nat} {V : gv_V} {ob mo tr xe td : Nat} {nd nl nn : Nat} {nf : Nat → Option Nat} {x y z : Int32}  (h_ob : V ob = some (.inr (6, [.ref mo, .ref tr, .ref xe, .ref nd, .ref td]))) (h_nd : V nd = some (.inr (3, [.ref nl, .int (nI nn)]))) (h_nl : V nl = some (.inl (cN, 30, .inr (.inr (.inr (.inr nf)))))) (hnn : nn ≤ 30) : ct zl D [(cI, .int), (cN, .object "AlgebraTree$Node"), (cR, .object "AlgebraTree$Rows")] base yX6_pattern cX6_pattern 5 (some .int) 3 1 14 [.ref ob, .int x, .int y, .int z] V (fun zv zV => ((!decide (nn = 30) && plc x && plc y && plc z) = true ∧ ∃ no, V no = none ∧ zv = some (.int (nI nn)) ∧ zV = gv_up (gv_up (gv_up V no (.inr (2, [.int (nI 0), .int (-1 : Int32), .int (-1 : Int32), .int x, .int y, .int z, .int 0, .int 0, .int 0, .int 0, .int 0, .int 0, .int 0, .int 0]))) nl (.inl (cN, 30, .inr (.inr (.inr (.inr (va_up nf nn (some no)))))))) nd (.inr (3, [.ref nl, .int (nI (nn + 1))]))) ∨ ((!decide (nn = 30) && plc x && plc y && plc z) = false ∧ zv = some (.int (-1 : Int32)) ∧ zV = V)) := by
  refine ct_of "AlgebraTree" rfl (by decide) (Nat.le_of_ble_eq_true rfl) ?_
  intro zp ze zs zm zargs zbelow zmeth zc C zr zlk znm
  refine k_pc (pc' := 0) (st' := []) rfl rfl ?_
  show K zp zl ze (gv_rm 3 1 14) zs zm zargs zbelow zmeth zc D base 5 (gv_E D [(cI, .int), (cN, .object "AlgebraTree$Node"), (cR, .object "AlgebraTree$Rows")] base zbelow zargs zs 1 14 (fun zv zV => ((!decide (nn = 30) && plc x && plc y && plc z) = true ∧ ∃ no, V no = none ∧ zv = some (.int (nI nn)) ∧ zV = gv_up (gv_up (gv_up V no (.inr (2, [.int (nI 0), .int (-1 : Int32), .int (-1 : Int32), .int x, .int y, .int z, .int 0, .int 0, .int 0, .int 0, .int 0, .int 0, .int 0, .int 0]))) nl (.inl (cN, 30, .inr (.inr (.inr (.inr (va_up nf nn (some no)))))))) nd (.inr (3, [.ref nl, .int (nI (nn + 1))]))) ∨ ((!decide (nn = 30) && plc x && plc y && plc z) = false ∧ zv = some (.int (-1 : Int32)) ∧ zV = V))) V 0 0 [(0, .ref ob), (1, .int x), (2, .int y), (3, .int z)] 0 []
  refine k_aload_n C dX6_pattern_0 rfl 0 rfl ?_
  refine k_get (ci := 6) (k := 3) C fl_6_30 h_ob rfl dX6_pattern_1 ?_
  refine k_callV_pi C mv_6_73 (c_X3_isFull  h_nd (by first | assumption | omega)) h_nd rfl rfl (by simp [Value.category]) ⟨Nat.le_of_ble_eq_true rfl, Nat.le_of_ble_eq_true rfl⟩ ⟨(by decide), (by decide)⟩ dX6_pattern_4 ?_
  refine k_if_ne (tgt := 31) C dX6_pattern_7 (by decide) (fun c7 => ?_) (fun c7 => ?_)
  · skip
    have b7 : (decide (nn = 30)) = true := bI_n.mp c7
    refine k_iconst (v := (-1 : Int32)) C dX6_pattern_31 (by decide) ?_
    exact k_iret C zr zlk (Or.inr ⟨by simp_all, rfl, rfl⟩) (by decide) (by decide) dX6_pattern_32
  · skip
    have b7 : (decide (nn = 30)) = false := bI_0.mp c7
    refine k_iload_n C dX6_pattern_10 rfl 1 rfl ?_
    refine k_callS_pi C ms_6_79 (c_X6_isPlace   ) rfl rfl (by simp [Value.category]) ⟨Nat.le_of_ble_eq_true rfl, Nat.le_of_ble_eq_true rfl⟩ ⟨(by decide), (by decide)⟩ dX6_pattern_11 ?_
    refine k_if_eq (tgt := 31) C dX6_pattern_14 (by decide) (fun c14 => ?_) (fun c14 => ?_)
    · skip
      have b14 : (plc x) = false := bI_0.mp c14
      refine k_iconst (v := (-1 : Int32)) C dX6_pattern_31 (by decide) ?_
      exact k_iret C zr zlk (Or.inr ⟨by simp_all, rfl, rfl⟩) (by decide) (by decide) dX6_pattern_32
    · skip
      have b14 : (plc x) = true := bI_n.mp c14
      refine k_iload_n C dX6_pattern_17 rfl 2 rfl ?_
      refine k_callS_pi C ms_6_79 (c_X6_isPlace   ) rfl rfl (by simp [Value.category]) ⟨Nat.le_of_ble_eq_true rfl, Nat.le_of_ble_eq_true rfl⟩ ⟨(by decide), (by decide)⟩ dX6_pattern_18 ?_
      refine k_if_eq (tgt := 31) C dX6_pattern_21 (by decide) (fun c21 => ?_) (fun c21 => ?_)
      · skip
        have b21 : (plc y) = false := bI_0.mp c21
        refine k_iconst (v := (-1 : Int32)) C dX6_pattern_31 (by decide) ?_
        exact k_iret C zr zlk (Or.inr ⟨by simp_all, rfl, rfl⟩) (by decide) (by decide) dX6_pattern_32
      · skip
        have b21 : (plc y) = true := bI_n.mp c21
        refine k_iload_n C dX6_pattern_24 rfl 3 rfl ?_
        refine k_callS_pi C ms_6_79 (c_X6_isPlace   ) rfl rfl (by simp [Value.category]) ⟨Nat.le_of_ble_eq_true rfl, Nat.le_of_ble_eq_true rfl⟩ ⟨(by decide), (by decide)⟩ dX6_pattern_25 ?_
        refine k_if_ne (tgt := 33) C dX6_pattern_28 (by decide) (fun c28 => ?_) (fun c28 => ?_)
        · skip
          have b28 : (plc z) = true := bI_n.mp c28
          refine k_new C nw_6_82 (by decide) (by decide) dX6_pattern_33 (fun q1 hq1 => ?_)
          have ne2 : nq ob q1 := gv_nf hq1 h_ob
          have ne3 : nq nd q1 := gv_nf hq1 h_nd
          have ne4 : nq nl q1 := gv_nf hq1 h_nl
          refine k_dup C dX6_pattern_36 rfl ?_
          refine k_iconst (v := nI 0) C dX6_pattern_37 rfl ?_
          refine k_iconst (v := (-1 : Int32)) C dX6_pattern_38 (by decide) ?_
          refine k_iconst (v := (-1 : Int32)) C dX6_pattern_39 (by decide) ?_
          refine k_callI_pv C mi_6_84 (c_X2_init  gv_up_s ) rfl rfl (by simp [Value.category]) ⟨Nat.le_of_ble_eq_true rfl, Nat.le_of_ble_eq_true rfl⟩ ⟨(by decide), (by decide)⟩ dX6_pattern_40 ?_
          refine k_view (V1 := gv_up V q1 (.inr (2, [.int (nI 0), .int (-1 : Int32), .int (-1 : Int32), .int 0, .int 0, .int 0, .int 0, .int 0, .int 0, .int 0, .int 0, .int 0, .int 0, .int 0]))) gv_uu ?_
          refine k_astore (lv' := [(4, .ref q1), (0, .ref ob), (1, .int x), (2, .int y), (3, .int z)]) C dX6_pattern_43 (by decide) rfl ?_
          refine k_aload C dX6_pattern_45 0 rfl ?_
          refine k_iload_n C dX6_pattern_47 rfl 2 rfl ?_
          refine k_put (ci := 2) (k := 3) (fs' := [.int (nI 0), .int (-1 : Int32), .int (-1 : Int32), .int x, .int 0, .int 0, .int 0, .int 0, .int 0, .int 0, .int 0, .int 0, .int 0, .int 0]) C fl_6_87 pf_2_3 gv_up_s rfl rfl (Nat.le_of_ble_eq_true rfl) rfl dX6_pattern_48 ?_
          refine k_view (V1 := gv_up V q1 (.inr (2, [.int (nI 0), .int (-1 : Int32), .int (-1 : Int32), .int x, .int 0, .int 0, .int 0, .int 0, .int 0, .int 0, .int 0, .int 0, .int 0, .int 0]))) gv_uu ?_
          refine k_aload C dX6_pattern_51 0 rfl ?_
          refine k_iload_n C dX6_pattern_53 rfl 3 rfl ?_
          refine k_put (ci := 2) (k := 4) (fs' := [.int (nI 0), .int (-1 : Int32), .int (-1 : Int32), .int x, .int y, .int 0, .int 0, .int 0, .int 0, .int 0, .int 0, .int 0, .int 0, .int 0]) C fl_6_91 pf_2_4 gv_up_s rfl rfl (Nat.le_of_ble_eq_true rfl) rfl dX6_pattern_54 ?_
          refine k_view (V1 := gv_up V q1 (.inr (2, [.int (nI 0), .int (-1 : Int32), .int (-1 : Int32), .int x, .int y, .int 0, .int 0, .int 0, .int 0, .int 0, .int 0, .int 0, .int 0, .int 0]))) gv_uu ?_
          refine k_aload C dX6_pattern_57 0 rfl ?_
          refine k_iload_n C dX6_pattern_59 rfl 4 rfl ?_
          refine k_put (ci := 2) (k := 5) (fs' := [.int (nI 0), .int (-1 : Int32), .int (-1 : Int32), .int x, .int y, .int z, .int 0, .int 0, .int 0, .int 0, .int 0, .int 0, .int 0, .int 0]) C fl_6_94 pf_2_5 gv_up_s rfl rfl (Nat.le_of_ble_eq_true rfl) rfl dX6_pattern_60 ?_
          refine k_view (V1 := gv_up V q1 (.inr (2, [.int (nI 0), .int (-1 : Int32), .int (-1 : Int32), .int x, .int y, .int z, .int 0, .int 0, .int 0, .int 0, .int 0, .int 0, .int 0, .int 0]))) gv_uu ?_
          refine k_aload_n C dX6_pattern_63 rfl 1 rfl ?_
          refine k_get (ci := 6) (k := 3) C fl_6_30 ((gv_up_n ne2).trans h_ob) rfl dX6_pattern_64 ?_
          refine k_aload C dX6_pattern_67 0 rfl ?_
          refine k_callV_pi C mv_6_97 (c_X3_add  ((gv_up_n ne3).trans h_nd) ((gv_up_n ne4).trans h_nl) gv_up_s (by simp_all; omega)) ((gv_up_n ne3).trans h_nd) rfl rfl (by simp [Value.category]) ⟨Nat.le_of_ble_eq_true rfl, Nat.le_of_ble_eq_true rfl⟩ ⟨(by decide), (by decide)⟩ dX6_pattern_69 ?_
          exact k_iret C zr zlk (Or.inl ⟨by simp_all, q1, hq1, rfl, rfl⟩) (by decide) (by decide) dX6_pattern_72
        · skip
          have b28 : (plc z) = false := bI_0.mp c28
          refine k_iconst (v := (-1 : Int32)) C dX6_pattern_31 (by decide) ?_
          exact k_iret C zr zlk (Or.inr ⟨by simp_all, rfl, rfl⟩) (by decide) (by decide) dX6_pattern_32
set_option maxHeartbeats 4000000 in
set_option maxRecDepth 100000 in
theorem c_X6_both {zl : Launch} {D : va_G} {cI cN cR : ClassId} {base : Nat} {V : gv_V} {ob mo tr xe td : Nat} {nd nl nn : Nat} {nf : Nat → Option Nat} {x y z : Int32}  (h_ob : V ob = some (.inr (6, [.ref mo, .ref tr, .ref xe, .ref nd, .ref td]))) (h_nd : V nd = some (.inr (3, [.ref nl, .int (nI nn)]))) (h_nl : V nl = some (.inl (cN, 30, .inr (.inr (.inr (.inr nf)))))) (hnn : nn ≤ 30) : ct zl D [(cI, .int), (cN, .object "AlgebraTree$Node"), (cR, .object "AlgebraTree$Rows")] base yX6_both cX6_both 4 (some .int) 3 1 14 [.ref ob, .int x, .int y, .int z] V (fun zv zV => ((blw x (nI 3) && (!decide (nn = 30) && blw y (nI nn)) && blw z (nI nn)) = true ∧ ∃ no, V no = none ∧ zv = some (.int (nI nn)) ∧ zV = gv_up (gv_up (gv_up V no (.inr (2, [.int (nI (1 + tn x)), .int y, .int z, .int 0, .int 0, .int 0, .int 0, .int 0, .int 0, .int 0, .int 0, .int 0, .int 0, .int 0]))) nl (.inl (cN, 30, .inr (.inr (.inr (.inr (va_up nf nn (some no)))))))) nd (.inr (3, [.ref nl, .int (nI (nn + 1))]))) ∨ ((blw x (nI 3) && (!decide (nn = 30) && blw y (nI nn)) && blw z (nI nn)) = false ∧ zv = some (.int (-1 : Int32)) ∧ zV = V)) := by
  refine ct_of "AlgebraTree" rfl (by decide) (Nat.le_of_ble_eq_true rfl) ?_
  intro zp ze zs zm zargs zbelow zmeth zc C zr zlk znm
  refine k_pc (pc' := 0) (st' := []) rfl rfl ?_
  show K zp zl ze (gv_rm 3 1 14) zs zm zargs zbelow zmeth zc D base 4 (gv_E D [(cI, .int), (cN, .object "AlgebraTree$Node"), (cR, .object "AlgebraTree$Rows")] base zbelow zargs zs 1 14 (fun zv zV => ((blw x (nI 3) && (!decide (nn = 30) && blw y (nI nn)) && blw z (nI nn)) = true ∧ ∃ no, V no = none ∧ zv = some (.int (nI nn)) ∧ zV = gv_up (gv_up (gv_up V no (.inr (2, [.int (nI (1 + tn x)), .int y, .int z, .int 0, .int 0, .int 0, .int 0, .int 0, .int 0, .int 0, .int 0, .int 0, .int 0, .int 0]))) nl (.inl (cN, 30, .inr (.inr (.inr (.inr (va_up nf nn (some no)))))))) nd (.inr (3, [.ref nl, .int (nI (nn + 1))]))) ∨ ((blw x (nI 3) && (!decide (nn = 30) && blw y (nI nn)) && blw z (nI nn)) = false ∧ zv = some (.int (-1 : Int32)) ∧ zV = V))) V 0 0 [(0, .ref ob), (1, .int x), (2, .int y), (3, .int z)] 0 []
  refine k_iload_n C dX6_both_0 rfl 1 rfl ?_
  refine k_iconst (v := nI 3) C dX6_both_1 rfl ?_
  refine k_callS_pi C ms_6_38 (c_X6_isBelow   ) rfl rfl (by simp [Value.category]) ⟨Nat.le_of_ble_eq_true rfl, Nat.le_of_ble_eq_true rfl⟩ ⟨(by decide), (by decide)⟩ dX6_both_2 ?_
  refine k_if_eq (tgt := 30) C dX6_both_5 (by decide) (fun c5 => ?_) (fun c5 => ?_)
  · skip
    have b5 : (blw x (nI 3)) = false := bI_0.mp c5
    refine k_iconst (v := (-1 : Int32)) C dX6_both_30 (by decide) ?_
    exact k_iret C zr zlk (Or.inr ⟨by simp_all, rfl, rfl⟩) (by decide) (by decide) dX6_both_31
  · skip
    have b5 : (blw x (nI 3)) = true := bI_n.mp c5
    refine k_aload_n C dX6_both_8 rfl 0 rfl ?_
    refine k_get (ci := 6) (k := 3) C fl_6_30 h_ob rfl dX6_both_9 ?_
    refine k_iload_n C dX6_both_12 rfl 2 rfl ?_
    refine k_callV_pi C mv_6_100 (c_X3_canStandOver  h_nd (by first | assumption | omega)) h_nd rfl rfl (by simp [Value.category]) ⟨Nat.le_of_ble_eq_true rfl, Nat.le_of_ble_eq_true rfl⟩ ⟨(by decide), (by decide)⟩ dX6_both_13 ?_
    refine k_if_eq (tgt := 30) C dX6_both_16 (by decide) (fun c16 => ?_) (fun c16 => ?_)
    · skip
      have b16 : (!decide (nn = 30) && blw y (nI nn)) = false := bI_0.mp c16
      refine k_iconst (v := (-1 : Int32)) C dX6_both_30 (by decide) ?_
      exact k_iret C zr zlk (Or.inr ⟨by simp_all, rfl, rfl⟩) (by decide) (by decide) dX6_both_31
    · skip
      have b16 : (!decide (nn = 30) && blw y (nI nn)) = true := bI_n.mp c16
      refine k_aload_n C dX6_both_19 rfl 0 rfl ?_
      refine k_get (ci := 6) (k := 3) C fl_6_30 h_ob rfl dX6_both_20 ?_
      refine k_iload_n C dX6_both_23 rfl 3 rfl ?_
      refine k_callV_pi C mv_6_103 (c_X3_has  h_nd ) h_nd rfl rfl (by simp [Value.category]) ⟨Nat.le_of_ble_eq_true rfl, Nat.le_of_ble_eq_true rfl⟩ ⟨(by decide), (by decide)⟩ dX6_both_24 ?_
      refine k_if_ne (tgt := 32) C dX6_both_27 (by decide) (fun c27 => ?_) (fun c27 => ?_)
      · skip
        have b27 : (blw z (nI nn)) = true := bI_n.mp c27
        refine k_aload_n C dX6_both_32 rfl 0 rfl ?_
        refine k_get (ci := 6) (k := 3) C fl_6_30 h_ob rfl dX6_both_33 ?_
        refine k_new C nw_6_82 (by decide) (by decide) dX6_both_36 (fun q1 hq1 => ?_)
        have ne2 : nq ob q1 := gv_nf hq1 h_ob
        have ne3 : nq nd q1 := gv_nf hq1 h_nd
        have ne4 : nq nl q1 := gv_nf hq1 h_nl
        refine k_dup C dX6_both_39 rfl ?_
        refine k_iconst (v := nI 1) C dX6_both_40 rfl ?_
        refine k_iload_n C dX6_both_41 rfl 1 rfl ?_
        refine k_iadd C dX6_both_42 ?_
        refine k_val (y := nI (1 + tn x)) ((congrArg (nI 1 + ·) (blw_tn b5).symm).trans (nI_add 1 (tn x))) ?_
        refine k_iload_n C dX6_both_43 rfl 2 rfl ?_
        refine k_iload_n C dX6_both_44 rfl 3 rfl ?_
        refine k_callI_pv C mi_6_84 (c_X2_init  gv_up_s ) rfl rfl (by simp [Value.category]) ⟨Nat.le_of_ble_eq_true rfl, Nat.le_of_ble_eq_true rfl⟩ ⟨(by decide), (by decide)⟩ dX6_both_45 ?_
        refine k_view (V1 := gv_up V q1 (.inr (2, [.int (nI (1 + tn x)), .int y, .int z, .int 0, .int 0, .int 0, .int 0, .int 0, .int 0, .int 0, .int 0, .int 0, .int 0, .int 0]))) gv_uu ?_
        refine k_callV_pi C mv_6_97 (c_X3_add  ((gv_up_n ne3).trans h_nd) ((gv_up_n ne4).trans h_nl) gv_up_s (by simp_all; omega)) ((gv_up_n ne3).trans h_nd) rfl rfl (by simp [Value.category]) ⟨Nat.le_of_ble_eq_true rfl, Nat.le_of_ble_eq_true rfl⟩ ⟨(by decide), (by decide)⟩ dX6_both_48 ?_
        exact k_iret C zr zlk (Or.inl ⟨by simp_all, q1, hq1, rfl, rfl⟩) (by decide) (by decide) dX6_both_51
      · skip
        have b27 : (blw z (nI nn)) = false := bI_0.mp c27
        refine k_iconst (v := (-1 : Int32)) C dX6_both_30 (by decide) ?_
        exact k_iret C zr zlk (Or.inr ⟨by simp_all, rfl, rfl⟩) (by decide) (by decide) dX6_both_31
set_option maxHeartbeats 4000000 in
set_option maxRecDepth 100000 in
theorem c_X6_left {zl : Launch} {D : va_G} {cI cN cR : ClassId} {base : Nat} {V : gv_V} {ob mo tr xe td : Nat} {nd nl nn : Nat} {nf : Nat → Option Nat} {ak af as ap av ne : Nat} {y z w : Int32}  (h_ob : V ob = some (.inr (6, [.ref mo, .ref tr, .ref xe, .ref nd, .ref td]))) (h_nd : V nd = some (.inr (3, [.ref nl, .int (nI nn)]))) (h_nl : V nl = some (.inl (cN, 30, .inr (.inr (.inr (.inr nf)))))) (h_xe : V xe = some (.inr (0, [.ref ak, .ref af, .ref as, .ref ap, .ref av, .int (nI ne)]))) (hnn : nn ≤ 30) : ct zl D [(cI, .int), (cN, .object "AlgebraTree$Node"), (cR, .object "AlgebraTree$Rows")] base yX6_left cX6_left 5 (some .int) 3 1 14 [.ref ob, .int y, .int z, .int w] V (fun zv zV => (((!decide (nn = 30) && blw y (nI nn)) && blw z (nI nn) && (w == -1 || blw w (nI ne))) = true ∧ ∃ no, V no = none ∧ zv = some (.int (nI nn)) ∧ zV = gv_up (gv_up (gv_up V no (.inr (2, [.int (nI 4), .int y, .int z, .int 0, .int 0, .int 0, .int w, .int 0, .int 0, .int 0, .int 0, .int 0, .int 0, .int 0]))) nl (.inl (cN, 30, .inr (.inr (.inr (.inr (va_up nf nn (some no)))))))) nd (.inr (3, [.ref nl, .int (nI (nn + 1))]))) ∨ (((!decide (nn = 30) && blw y (nI nn)) && blw z (nI nn) && (w == -1 || blw w (nI ne))) = false ∧ zv = some (.int (-1 : Int32)) ∧ zV = V)) := by
  refine ct_of "AlgebraTree" rfl (by decide) (Nat.le_of_ble_eq_true rfl) ?_
  intro zp ze zs zm zargs zbelow zmeth zc C zr zlk znm
  refine k_pc (pc' := 0) (st' := []) rfl rfl ?_
  show K zp zl ze (gv_rm 3 1 14) zs zm zargs zbelow zmeth zc D base 5 (gv_E D [(cI, .int), (cN, .object "AlgebraTree$Node"), (cR, .object "AlgebraTree$Rows")] base zbelow zargs zs 1 14 (fun zv zV => (((!decide (nn = 30) && blw y (nI nn)) && blw z (nI nn) && (w == -1 || blw w (nI ne))) = true ∧ ∃ no, V no = none ∧ zv = some (.int (nI nn)) ∧ zV = gv_up (gv_up (gv_up V no (.inr (2, [.int (nI 4), .int y, .int z, .int 0, .int 0, .int 0, .int w, .int 0, .int 0, .int 0, .int 0, .int 0, .int 0, .int 0]))) nl (.inl (cN, 30, .inr (.inr (.inr (.inr (va_up nf nn (some no)))))))) nd (.inr (3, [.ref nl, .int (nI (nn + 1))]))) ∨ (((!decide (nn = 30) && blw y (nI nn)) && blw z (nI nn) && (w == -1 || blw w (nI ne))) = false ∧ zv = some (.int (-1 : Int32)) ∧ zV = V))) V 0 0 [(0, .ref ob), (1, .int y), (2, .int z), (3, .int w)] 0 []
  refine k_aload_n C dX6_left_0 rfl 0 rfl ?_
  refine k_get (ci := 6) (k := 3) C fl_6_30 h_ob rfl dX6_left_1 ?_
  refine k_iload_n C dX6_left_4 rfl 1 rfl ?_
  refine k_callV_pi C mv_6_100 (c_X3_canStandOver  h_nd (by first | assumption | omega)) h_nd rfl rfl (by simp [Value.category]) ⟨Nat.le_of_ble_eq_true rfl, Nat.le_of_ble_eq_true rfl⟩ ⟨(by decide), (by decide)⟩ dX6_left_5 ?_
  refine k_if_eq (tgt := 38) C dX6_left_8 (by decide) (fun c8 => ?_) (fun c8 => ?_)
  · skip
    have b8 : (!decide (nn = 30) && blw y (nI nn)) = false := bI_0.mp c8
    refine k_iconst (v := (-1 : Int32)) C dX6_left_38 (by decide) ?_
    exact k_iret C zr zlk (Or.inr ⟨by simp_all, rfl, rfl⟩) (by decide) (by decide) dX6_left_39
  · skip
    have b8 : (!decide (nn = 30) && blw y (nI nn)) = true := bI_n.mp c8
    refine k_aload_n C dX6_left_11 rfl 0 rfl ?_
    refine k_get (ci := 6) (k := 3) C fl_6_30 h_ob rfl dX6_left_12 ?_
    refine k_iload_n C dX6_left_15 rfl 2 rfl ?_
    refine k_callV_pi C mv_6_103 (c_X3_has  h_nd ) h_nd rfl rfl (by simp [Value.category]) ⟨Nat.le_of_ble_eq_true rfl, Nat.le_of_ble_eq_true rfl⟩ ⟨(by decide), (by decide)⟩ dX6_left_16 ?_
    refine k_if_eq (tgt := 38) C dX6_left_19 (by decide) (fun c19 => ?_) (fun c19 => ?_)
    · skip
      have b19 : (blw z (nI nn)) = false := bI_0.mp c19
      refine k_iconst (v := (-1 : Int32)) C dX6_left_38 (by decide) ?_
      exact k_iret C zr zlk (Or.inr ⟨by simp_all, rfl, rfl⟩) (by decide) (by decide) dX6_left_39
    · skip
      have b19 : (blw z (nI nn)) = true := bI_n.mp c19
      refine k_iload_n C dX6_left_22 rfl 3 rfl ?_
      refine k_iconst (v := (-1 : Int32)) C dX6_left_23 (by decide) ?_
      refine k_icmp_eq (tgt := 40) C dX6_left_24 (by decide) (fun c24 => ?_) (fun c24 => ?_)
      · skip
        refine k_new C nw_6_82 (by decide) (by decide) dX6_left_40 (fun q1 hq1 => ?_)
        have ne2 : nq ob q1 := gv_nf hq1 h_ob
        have ne3 : nq nd q1 := gv_nf hq1 h_nd
        have ne4 : nq nl q1 := gv_nf hq1 h_nl
        have ne5 : nq xe q1 := gv_nf hq1 h_xe
        refine k_dup C dX6_left_43 rfl ?_
        refine k_iconst (v := nI 4) C dX6_left_44 rfl ?_
        refine k_iload_n C dX6_left_45 rfl 1 rfl ?_
        refine k_iload_n C dX6_left_46 rfl 2 rfl ?_
        refine k_callI_pv C mi_6_84 (c_X2_init  gv_up_s ) rfl rfl (by simp [Value.category]) ⟨Nat.le_of_ble_eq_true rfl, Nat.le_of_ble_eq_true rfl⟩ ⟨(by decide), (by decide)⟩ dX6_left_47 ?_
        refine k_view (V1 := gv_up V q1 (.inr (2, [.int (nI 4), .int y, .int z, .int 0, .int 0, .int 0, .int 0, .int 0, .int 0, .int 0, .int 0, .int 0, .int 0, .int 0]))) gv_uu ?_
        refine k_astore (lv' := [(4, .ref q1), (0, .ref ob), (1, .int y), (2, .int z), (3, .int w)]) C dX6_left_50 (by decide) rfl ?_
        refine k_aload C dX6_left_52 0 rfl ?_
        refine k_iload_n C dX6_left_54 rfl 4 rfl ?_
        refine k_put (ci := 2) (k := 6) (fs' := [.int (nI 4), .int y, .int z, .int 0, .int 0, .int 0, .int w, .int 0, .int 0, .int 0, .int 0, .int 0, .int 0, .int 0]) C fl_6_104 pf_2_6 gv_up_s rfl rfl (Nat.le_of_ble_eq_true rfl) rfl dX6_left_55 ?_
        refine k_view (V1 := gv_up V q1 (.inr (2, [.int (nI 4), .int y, .int z, .int 0, .int 0, .int 0, .int w, .int 0, .int 0, .int 0, .int 0, .int 0, .int 0, .int 0]))) gv_uu ?_
        refine k_aload_n C dX6_left_58 rfl 1 rfl ?_
        refine k_get (ci := 6) (k := 3) C fl_6_30 ((gv_up_n ne2).trans h_ob) rfl dX6_left_59 ?_
        refine k_aload C dX6_left_62 0 rfl ?_
        refine k_callV_pi C mv_6_97 (c_X3_add  ((gv_up_n ne3).trans h_nd) ((gv_up_n ne4).trans h_nl) gv_up_s (by simp_all; omega)) ((gv_up_n ne3).trans h_nd) rfl rfl (by simp [Value.category]) ⟨Nat.le_of_ble_eq_true rfl, Nat.le_of_ble_eq_true rfl⟩ ⟨(by decide), (by decide)⟩ dX6_left_64 ?_
        exact k_iret C zr zlk (Or.inl ⟨by simp_all, q1, hq1, rfl, rfl⟩) (by decide) (by decide) dX6_left_67
      · skip
        refine k_aload_n C dX6_left_27 rfl 0 rfl ?_
        refine k_get (ci := 6) (k := 2) C fl_6_25 h_ob rfl dX6_left_28 ?_
        refine k_iload_n C dX6_left_31 rfl 3 rfl ?_
        refine k_callV_pi C mv_6_66 (c_X0_has  h_xe ) h_xe rfl rfl (by simp [Value.category]) ⟨Nat.le_of_ble_eq_true rfl, Nat.le_of_ble_eq_true rfl⟩ ⟨(by decide), (by decide)⟩ dX6_left_32 ?_
        refine k_if_ne (tgt := 40) C dX6_left_35 (by decide) (fun c35 => ?_) (fun c35 => ?_)
        · skip
          have b35 : (blw w (nI ne)) = true := bI_n.mp c35
          refine k_new C nw_6_82 (by decide) (by decide) dX6_left_40 (fun q6 hq6 => ?_)
          have ne7 : nq ob q6 := gv_nf hq6 h_ob
          have ne8 : nq nd q6 := gv_nf hq6 h_nd
          have ne9 : nq nl q6 := gv_nf hq6 h_nl
          have ne10 : nq xe q6 := gv_nf hq6 h_xe
          refine k_dup C dX6_left_43 rfl ?_
          refine k_iconst (v := nI 4) C dX6_left_44 rfl ?_
          refine k_iload_n C dX6_left_45 rfl 1 rfl ?_
          refine k_iload_n C dX6_left_46 rfl 2 rfl ?_
          refine k_callI_pv C mi_6_84 (c_X2_init  gv_up_s ) rfl rfl (by simp [Value.category]) ⟨Nat.le_of_ble_eq_true rfl, Nat.le_of_ble_eq_true rfl⟩ ⟨(by decide), (by decide)⟩ dX6_left_47 ?_
          refine k_view (V1 := gv_up V q6 (.inr (2, [.int (nI 4), .int y, .int z, .int 0, .int 0, .int 0, .int 0, .int 0, .int 0, .int 0, .int 0, .int 0, .int 0, .int 0]))) gv_uu ?_
          refine k_astore (lv' := [(4, .ref q6), (0, .ref ob), (1, .int y), (2, .int z), (3, .int w)]) C dX6_left_50 (by decide) rfl ?_
          refine k_aload C dX6_left_52 0 rfl ?_
          refine k_iload_n C dX6_left_54 rfl 4 rfl ?_
          refine k_put (ci := 2) (k := 6) (fs' := [.int (nI 4), .int y, .int z, .int 0, .int 0, .int 0, .int w, .int 0, .int 0, .int 0, .int 0, .int 0, .int 0, .int 0]) C fl_6_104 pf_2_6 gv_up_s rfl rfl (Nat.le_of_ble_eq_true rfl) rfl dX6_left_55 ?_
          refine k_view (V1 := gv_up V q6 (.inr (2, [.int (nI 4), .int y, .int z, .int 0, .int 0, .int 0, .int w, .int 0, .int 0, .int 0, .int 0, .int 0, .int 0, .int 0]))) gv_uu ?_
          refine k_aload_n C dX6_left_58 rfl 1 rfl ?_
          refine k_get (ci := 6) (k := 3) C fl_6_30 ((gv_up_n ne7).trans h_ob) rfl dX6_left_59 ?_
          refine k_aload C dX6_left_62 0 rfl ?_
          refine k_callV_pi C mv_6_97 (c_X3_add  ((gv_up_n ne8).trans h_nd) ((gv_up_n ne9).trans h_nl) gv_up_s (by simp_all; omega)) ((gv_up_n ne8).trans h_nd) rfl rfl (by simp [Value.category]) ⟨Nat.le_of_ble_eq_true rfl, Nat.le_of_ble_eq_true rfl⟩ ⟨(by decide), (by decide)⟩ dX6_left_64 ?_
          exact k_iret C zr zlk (Or.inl ⟨by simp_all, q6, hq6, rfl, rfl⟩) (by decide) (by decide) dX6_left_67
        · skip
          have b35 : (blw w (nI ne)) = false := bI_0.mp c35
          refine k_iconst (v := (-1 : Int32)) C dX6_left_38 (by decide) ?_
          exact k_iret C zr zlk (Or.inr ⟨by simp_all, rfl, rfl⟩) (by decide) (by decide) dX6_left_39
set_option maxHeartbeats 4000000 in
set_option maxRecDepth 100000 in
theorem c_X6_filter {zl : Launch} {D : va_G} {cI cN cR : ClassId} {base : Nat} {V : gv_V} {ob mo tr xe td : Nat} {nd nl nn : Nat} {nf : Nat → Option Nat} {ak af as ap av ne : Nat} {y w : Int32}  (h_ob : V ob = some (.inr (6, [.ref mo, .ref tr, .ref xe, .ref nd, .ref td]))) (h_nd : V nd = some (.inr (3, [.ref nl, .int (nI nn)]))) (h_nl : V nl = some (.inl (cN, 30, .inr (.inr (.inr (.inr nf)))))) (h_xe : V xe = some (.inr (0, [.ref ak, .ref af, .ref as, .ref ap, .ref av, .int (nI ne)]))) (hnn : nn ≤ 30) : ct zl D [(cI, .int), (cN, .object "AlgebraTree$Node"), (cR, .object "AlgebraTree$Rows")] base yX6_filter cX6_filter 4 (some .int) 3 1 14 [.ref ob, .int y, .int w] V (fun zv zV => (((!decide (nn = 30) && blw y (nI nn)) && blw w (nI ne)) = true ∧ ∃ no, V no = none ∧ zv = some (.int (nI nn)) ∧ zV = gv_up (gv_up (gv_up V no (.inr (2, [.int (nI 5), .int y, .int (-1 : Int32), .int 0, .int 0, .int 0, .int w, .int 0, .int 0, .int 0, .int 0, .int 0, .int 0, .int 0]))) nl (.inl (cN, 30, .inr (.inr (.inr (.inr (va_up nf nn (some no)))))))) nd (.inr (3, [.ref nl, .int (nI (nn + 1))]))) ∨ (((!decide (nn = 30) && blw y (nI nn)) && blw w (nI ne)) = false ∧ zv = some (.int (-1 : Int32)) ∧ zV = V)) := by
  refine ct_of "AlgebraTree" rfl (by decide) (Nat.le_of_ble_eq_true rfl) ?_
  intro zp ze zs zm zargs zbelow zmeth zc C zr zlk znm
  refine k_pc (pc' := 0) (st' := []) rfl rfl ?_
  show K zp zl ze (gv_rm 3 1 14) zs zm zargs zbelow zmeth zc D base 4 (gv_E D [(cI, .int), (cN, .object "AlgebraTree$Node"), (cR, .object "AlgebraTree$Rows")] base zbelow zargs zs 1 14 (fun zv zV => (((!decide (nn = 30) && blw y (nI nn)) && blw w (nI ne)) = true ∧ ∃ no, V no = none ∧ zv = some (.int (nI nn)) ∧ zV = gv_up (gv_up (gv_up V no (.inr (2, [.int (nI 5), .int y, .int (-1 : Int32), .int 0, .int 0, .int 0, .int w, .int 0, .int 0, .int 0, .int 0, .int 0, .int 0, .int 0]))) nl (.inl (cN, 30, .inr (.inr (.inr (.inr (va_up nf nn (some no)))))))) nd (.inr (3, [.ref nl, .int (nI (nn + 1))]))) ∨ (((!decide (nn = 30) && blw y (nI nn)) && blw w (nI ne)) = false ∧ zv = some (.int (-1 : Int32)) ∧ zV = V))) V 0 0 [(0, .ref ob), (1, .int y), (2, .int w)] 0 []
  refine k_aload_n C dX6_filter_0 rfl 0 rfl ?_
  refine k_get (ci := 6) (k := 3) C fl_6_30 h_ob rfl dX6_filter_1 ?_
  refine k_iload_n C dX6_filter_4 rfl 1 rfl ?_
  refine k_callV_pi C mv_6_100 (c_X3_canStandOver  h_nd (by first | assumption | omega)) h_nd rfl rfl (by simp [Value.category]) ⟨Nat.le_of_ble_eq_true rfl, Nat.le_of_ble_eq_true rfl⟩ ⟨(by decide), (by decide)⟩ dX6_filter_5 ?_
  refine k_if_eq (tgt := 22) C dX6_filter_8 (by decide) (fun c8 => ?_) (fun c8 => ?_)
  · skip
    have b8 : (!decide (nn = 30) && blw y (nI nn)) = false := bI_0.mp c8
    refine k_iconst (v := (-1 : Int32)) C dX6_filter_22 (by decide) ?_
    exact k_iret C zr zlk (Or.inr ⟨by simp_all, rfl, rfl⟩) (by decide) (by decide) dX6_filter_23
  · skip
    have b8 : (!decide (nn = 30) && blw y (nI nn)) = true := bI_n.mp c8
    refine k_aload_n C dX6_filter_11 rfl 0 rfl ?_
    refine k_get (ci := 6) (k := 2) C fl_6_25 h_ob rfl dX6_filter_12 ?_
    refine k_iload_n C dX6_filter_15 rfl 2 rfl ?_
    refine k_callV_pi C mv_6_66 (c_X0_has  h_xe ) h_xe rfl rfl (by simp [Value.category]) ⟨Nat.le_of_ble_eq_true rfl, Nat.le_of_ble_eq_true rfl⟩ ⟨(by decide), (by decide)⟩ dX6_filter_16 ?_
    refine k_if_ne (tgt := 24) C dX6_filter_19 (by decide) (fun c19 => ?_) (fun c19 => ?_)
    · skip
      have b19 : (blw w (nI ne)) = true := bI_n.mp c19
      refine k_new C nw_6_82 (by decide) (by decide) dX6_filter_24 (fun q1 hq1 => ?_)
      have ne2 : nq ob q1 := gv_nf hq1 h_ob
      have ne3 : nq nd q1 := gv_nf hq1 h_nd
      have ne4 : nq nl q1 := gv_nf hq1 h_nl
      have ne5 : nq xe q1 := gv_nf hq1 h_xe
      refine k_dup C dX6_filter_27 rfl ?_
      refine k_iconst (v := nI 5) C dX6_filter_28 rfl ?_
      refine k_iload_n C dX6_filter_29 rfl 1 rfl ?_
      refine k_iconst (v := (-1 : Int32)) C dX6_filter_30 (by decide) ?_
      refine k_callI_pv C mi_6_84 (c_X2_init  gv_up_s ) rfl rfl (by simp [Value.category]) ⟨Nat.le_of_ble_eq_true rfl, Nat.le_of_ble_eq_true rfl⟩ ⟨(by decide), (by decide)⟩ dX6_filter_31 ?_
      refine k_view (V1 := gv_up V q1 (.inr (2, [.int (nI 5), .int y, .int (-1 : Int32), .int 0, .int 0, .int 0, .int 0, .int 0, .int 0, .int 0, .int 0, .int 0, .int 0, .int 0]))) gv_uu ?_
      refine k_astore_n (lv' := [(3, .ref q1), (0, .ref ob), (1, .int y), (2, .int w)]) C dX6_filter_34 rfl (by decide) rfl ?_
      refine k_aload_n C dX6_filter_35 rfl 0 rfl ?_
      refine k_iload_n C dX6_filter_36 rfl 3 rfl ?_
      refine k_put (ci := 2) (k := 6) (fs' := [.int (nI 5), .int y, .int (-1 : Int32), .int 0, .int 0, .int 0, .int w, .int 0, .int 0, .int 0, .int 0, .int 0, .int 0, .int 0]) C fl_6_104 pf_2_6 gv_up_s rfl rfl (Nat.le_of_ble_eq_true rfl) rfl dX6_filter_37 ?_
      refine k_view (V1 := gv_up V q1 (.inr (2, [.int (nI 5), .int y, .int (-1 : Int32), .int 0, .int 0, .int 0, .int w, .int 0, .int 0, .int 0, .int 0, .int 0, .int 0, .int 0]))) gv_uu ?_
      refine k_aload_n C dX6_filter_40 rfl 1 rfl ?_
      refine k_get (ci := 6) (k := 3) C fl_6_30 ((gv_up_n ne2).trans h_ob) rfl dX6_filter_41 ?_
      refine k_aload_n C dX6_filter_44 rfl 0 rfl ?_
      refine k_callV_pi C mv_6_97 (c_X3_add  ((gv_up_n ne3).trans h_nd) ((gv_up_n ne4).trans h_nl) gv_up_s (by simp_all; omega)) ((gv_up_n ne3).trans h_nd) rfl rfl (by simp [Value.category]) ⟨Nat.le_of_ble_eq_true rfl, Nat.le_of_ble_eq_true rfl⟩ ⟨(by decide), (by decide)⟩ dX6_filter_45 ?_
      exact k_iret C zr zlk (Or.inl ⟨by simp_all, q1, hq1, rfl, rfl⟩) (by decide) (by decide) dX6_filter_48
    · skip
      have b19 : (blw w (nI ne)) = false := bI_0.mp c19
      refine k_iconst (v := (-1 : Int32)) C dX6_filter_22 (by decide) ?_
      exact k_iret C zr zlk (Or.inr ⟨by simp_all, rfl, rfl⟩) (by decide) (by decide) dX6_filter_23
set_option maxHeartbeats 4000000 in
set_option maxRecDepth 100000 in
theorem c_X6_extend {zl : Launch} {D : va_G} {cI cN cR : ClassId} {base : Nat} {V : gv_V} {ob mo tr xe td : Nat} {nd nl nn : Nat} {nf : Nat → Option Nat} {ak af as ap av ne : Nat} {y x w : Int32}  (h_ob : V ob = some (.inr (6, [.ref mo, .ref tr, .ref xe, .ref nd, .ref td]))) (h_nd : V nd = some (.inr (3, [.ref nl, .int (nI nn)]))) (h_nl : V nl = some (.inl (cN, 30, .inr (.inr (.inr (.inr nf)))))) (h_xe : V xe = some (.inr (0, [.ref ak, .ref af, .ref as, .ref ap, .ref av, .int (nI ne)]))) (hnn : nn ≤ 30) : ct zl D [(cI, .int), (cN, .object "AlgebraTree$Node"), (cR, .object "AlgebraTree$Rows")] base yX6_extend cX6_extend 5 (some .int) 3 1 14 [.ref ob, .int y, .int x, .int w] V (fun zv zV => (((!decide (nn = 30) && blw y (nI nn)) && blw x (nI 6) && blw w (nI ne)) = true ∧ ∃ no, V no = none ∧ zv = some (.int (nI nn)) ∧ zV = gv_up (gv_up (gv_up V no (.inr (2, [.int (nI 6), .int y, .int (-1 : Int32), .int 0, .int 0, .int 0, .int w, .int x, .int 0, .int 0, .int 0, .int 0, .int 0, .int 0]))) nl (.inl (cN, 30, .inr (.inr (.inr (.inr (va_up nf nn (some no)))))))) nd (.inr (3, [.ref nl, .int (nI (nn + 1))]))) ∨ (((!decide (nn = 30) && blw y (nI nn)) && blw x (nI 6) && blw w (nI ne)) = false ∧ zv = some (.int (-1 : Int32)) ∧ zV = V)) := by
  refine ct_of "AlgebraTree" rfl (by decide) (Nat.le_of_ble_eq_true rfl) ?_
  intro zp ze zs zm zargs zbelow zmeth zc C zr zlk znm
  refine k_pc (pc' := 0) (st' := []) rfl rfl ?_
  show K zp zl ze (gv_rm 3 1 14) zs zm zargs zbelow zmeth zc D base 5 (gv_E D [(cI, .int), (cN, .object "AlgebraTree$Node"), (cR, .object "AlgebraTree$Rows")] base zbelow zargs zs 1 14 (fun zv zV => (((!decide (nn = 30) && blw y (nI nn)) && blw x (nI 6) && blw w (nI ne)) = true ∧ ∃ no, V no = none ∧ zv = some (.int (nI nn)) ∧ zV = gv_up (gv_up (gv_up V no (.inr (2, [.int (nI 6), .int y, .int (-1 : Int32), .int 0, .int 0, .int 0, .int w, .int x, .int 0, .int 0, .int 0, .int 0, .int 0, .int 0]))) nl (.inl (cN, 30, .inr (.inr (.inr (.inr (va_up nf nn (some no)))))))) nd (.inr (3, [.ref nl, .int (nI (nn + 1))]))) ∨ (((!decide (nn = 30) && blw y (nI nn)) && blw x (nI 6) && blw w (nI ne)) = false ∧ zv = some (.int (-1 : Int32)) ∧ zV = V))) V 0 0 [(0, .ref ob), (1, .int y), (2, .int x), (3, .int w)] 0 []
  refine k_aload_n C dX6_extend_0 rfl 0 rfl ?_
  refine k_get (ci := 6) (k := 3) C fl_6_30 h_ob rfl dX6_extend_1 ?_
  refine k_iload_n C dX6_extend_4 rfl 1 rfl ?_
  refine k_callV_pi C mv_6_100 (c_X3_canStandOver  h_nd (by first | assumption | omega)) h_nd rfl rfl (by simp [Value.category]) ⟨Nat.le_of_ble_eq_true rfl, Nat.le_of_ble_eq_true rfl⟩ ⟨(by decide), (by decide)⟩ dX6_extend_5 ?_
  refine k_if_eq (tgt := 29) C dX6_extend_8 (by decide) (fun c8 => ?_) (fun c8 => ?_)
  · skip
    have b8 : (!decide (nn = 30) && blw y (nI nn)) = false := bI_0.mp c8
    refine k_iconst (v := (-1 : Int32)) C dX6_extend_29 (by decide) ?_
    exact k_iret C zr zlk (Or.inr ⟨by simp_all, rfl, rfl⟩) (by decide) (by decide) dX6_extend_30
  · skip
    have b8 : (!decide (nn = 30) && blw y (nI nn)) = true := bI_n.mp c8
    refine k_iload_n C dX6_extend_11 rfl 2 rfl ?_
    refine k_callS_pi C ms_6_59 (c_X6_isVariable   ) rfl rfl (by simp [Value.category]) ⟨Nat.le_of_ble_eq_true rfl, Nat.le_of_ble_eq_true rfl⟩ ⟨(by decide), (by decide)⟩ dX6_extend_12 ?_
    refine k_if_eq (tgt := 29) C dX6_extend_15 (by decide) (fun c15 => ?_) (fun c15 => ?_)
    · skip
      have b15 : (blw x (nI 6)) = false := bI_0.mp c15
      refine k_iconst (v := (-1 : Int32)) C dX6_extend_29 (by decide) ?_
      exact k_iret C zr zlk (Or.inr ⟨by simp_all, rfl, rfl⟩) (by decide) (by decide) dX6_extend_30
    · skip
      have b15 : (blw x (nI 6)) = true := bI_n.mp c15
      refine k_aload_n C dX6_extend_18 rfl 0 rfl ?_
      refine k_get (ci := 6) (k := 2) C fl_6_25 h_ob rfl dX6_extend_19 ?_
      refine k_iload_n C dX6_extend_22 rfl 3 rfl ?_
      refine k_callV_pi C mv_6_66 (c_X0_has  h_xe ) h_xe rfl rfl (by simp [Value.category]) ⟨Nat.le_of_ble_eq_true rfl, Nat.le_of_ble_eq_true rfl⟩ ⟨(by decide), (by decide)⟩ dX6_extend_23 ?_
      refine k_if_ne (tgt := 31) C dX6_extend_26 (by decide) (fun c26 => ?_) (fun c26 => ?_)
      · skip
        have b26 : (blw w (nI ne)) = true := bI_n.mp c26
        refine k_new C nw_6_82 (by decide) (by decide) dX6_extend_31 (fun q1 hq1 => ?_)
        have ne2 : nq ob q1 := gv_nf hq1 h_ob
        have ne3 : nq nd q1 := gv_nf hq1 h_nd
        have ne4 : nq nl q1 := gv_nf hq1 h_nl
        have ne5 : nq xe q1 := gv_nf hq1 h_xe
        refine k_dup C dX6_extend_34 rfl ?_
        refine k_bipush (v := nI 6) C dX6_extend_35 rfl ?_
        refine k_iload_n C dX6_extend_37 rfl 1 rfl ?_
        refine k_iconst (v := (-1 : Int32)) C dX6_extend_38 (by decide) ?_
        refine k_callI_pv C mi_6_84 (c_X2_init  gv_up_s ) rfl rfl (by simp [Value.category]) ⟨Nat.le_of_ble_eq_true rfl, Nat.le_of_ble_eq_true rfl⟩ ⟨(by decide), (by decide)⟩ dX6_extend_39 ?_
        refine k_view (V1 := gv_up V q1 (.inr (2, [.int (nI 6), .int y, .int (-1 : Int32), .int 0, .int 0, .int 0, .int 0, .int 0, .int 0, .int 0, .int 0, .int 0, .int 0, .int 0]))) gv_uu ?_
        refine k_astore (lv' := [(4, .ref q1), (0, .ref ob), (1, .int y), (2, .int x), (3, .int w)]) C dX6_extend_42 (by decide) rfl ?_
        refine k_aload C dX6_extend_44 0 rfl ?_
        refine k_iload_n C dX6_extend_46 rfl 3 rfl ?_
        refine k_put (ci := 2) (k := 7) (fs' := [.int (nI 6), .int y, .int (-1 : Int32), .int 0, .int 0, .int 0, .int 0, .int x, .int 0, .int 0, .int 0, .int 0, .int 0, .int 0]) C fl_6_107 pf_2_7 gv_up_s rfl rfl (Nat.le_of_ble_eq_true rfl) rfl dX6_extend_47 ?_
        refine k_view (V1 := gv_up V q1 (.inr (2, [.int (nI 6), .int y, .int (-1 : Int32), .int 0, .int 0, .int 0, .int 0, .int x, .int 0, .int 0, .int 0, .int 0, .int 0, .int 0]))) gv_uu ?_
        refine k_aload C dX6_extend_50 0 rfl ?_
        refine k_iload_n C dX6_extend_52 rfl 4 rfl ?_
        refine k_put (ci := 2) (k := 6) (fs' := [.int (nI 6), .int y, .int (-1 : Int32), .int 0, .int 0, .int 0, .int w, .int x, .int 0, .int 0, .int 0, .int 0, .int 0, .int 0]) C fl_6_104 pf_2_6 gv_up_s rfl rfl (Nat.le_of_ble_eq_true rfl) rfl dX6_extend_53 ?_
        refine k_view (V1 := gv_up V q1 (.inr (2, [.int (nI 6), .int y, .int (-1 : Int32), .int 0, .int 0, .int 0, .int w, .int x, .int 0, .int 0, .int 0, .int 0, .int 0, .int 0]))) gv_uu ?_
        refine k_aload_n C dX6_extend_56 rfl 1 rfl ?_
        refine k_get (ci := 6) (k := 3) C fl_6_30 ((gv_up_n ne2).trans h_ob) rfl dX6_extend_57 ?_
        refine k_aload C dX6_extend_60 0 rfl ?_
        refine k_callV_pi C mv_6_97 (c_X3_add  ((gv_up_n ne3).trans h_nd) ((gv_up_n ne4).trans h_nl) gv_up_s (by simp_all; omega)) ((gv_up_n ne3).trans h_nd) rfl rfl (by simp [Value.category]) ⟨Nat.le_of_ble_eq_true rfl, Nat.le_of_ble_eq_true rfl⟩ ⟨(by decide), (by decide)⟩ dX6_extend_62 ?_
        exact k_iret C zr zlk (Or.inl ⟨by simp_all, q1, hq1, rfl, rfl⟩) (by decide) (by decide) dX6_extend_65
      · skip
        have b26 : (blw w (nI ne)) = false := bI_0.mp c26
        refine k_iconst (v := (-1 : Int32)) C dX6_extend_29 (by decide) ?_
        exact k_iret C zr zlk (Or.inr ⟨by simp_all, rfl, rfl⟩) (by decide) (by decide) dX6_extend_30
set_option maxHeartbeats 4000000 in
set_option maxRecDepth 100000 in
theorem c_X6_project {zl : Launch} {D : va_G} {cI cN cR : ClassId} {base : Nat} {V : gv_V} {ob mo tr xe td : Nat} {nd nl nn : Nat} {nf : Nat → Option Nat} {y x : Int32}  (h_ob : V ob = some (.inr (6, [.ref mo, .ref tr, .ref xe, .ref nd, .ref td]))) (h_nd : V nd = some (.inr (3, [.ref nl, .int (nI nn)]))) (h_nl : V nl = some (.inl (cN, 30, .inr (.inr (.inr (.inr nf)))))) (hnn : nn ≤ 30) : ct zl D [(cI, .int), (cN, .object "AlgebraTree$Node"), (cR, .object "AlgebraTree$Rows")] base yX6_project cX6_project 4 (some .int) 3 1 14 [.ref ob, .int y, .int x] V (fun zv zV => (((!decide (nn = 30) && blw y (nI nn)) && blw x (nI 64)) = true ∧ ∃ no, V no = none ∧ zv = some (.int (nI nn)) ∧ zV = gv_up (gv_up (gv_up V no (.inr (2, [.int (nI 7), .int y, .int (-1 : Int32), .int 0, .int 0, .int 0, .int 0, .int 0, .int x, .int 0, .int 0, .int 0, .int 0, .int 0]))) nl (.inl (cN, 30, .inr (.inr (.inr (.inr (va_up nf nn (some no)))))))) nd (.inr (3, [.ref nl, .int (nI (nn + 1))]))) ∨ (((!decide (nn = 30) && blw y (nI nn)) && blw x (nI 64)) = false ∧ zv = some (.int (-1 : Int32)) ∧ zV = V)) := by
  refine ct_of "AlgebraTree" rfl (by decide) (Nat.le_of_ble_eq_true rfl) ?_
  intro zp ze zs zm zargs zbelow zmeth zc C zr zlk znm
  refine k_pc (pc' := 0) (st' := []) rfl rfl ?_
  show K zp zl ze (gv_rm 3 1 14) zs zm zargs zbelow zmeth zc D base 4 (gv_E D [(cI, .int), (cN, .object "AlgebraTree$Node"), (cR, .object "AlgebraTree$Rows")] base zbelow zargs zs 1 14 (fun zv zV => (((!decide (nn = 30) && blw y (nI nn)) && blw x (nI 64)) = true ∧ ∃ no, V no = none ∧ zv = some (.int (nI nn)) ∧ zV = gv_up (gv_up (gv_up V no (.inr (2, [.int (nI 7), .int y, .int (-1 : Int32), .int 0, .int 0, .int 0, .int 0, .int 0, .int x, .int 0, .int 0, .int 0, .int 0, .int 0]))) nl (.inl (cN, 30, .inr (.inr (.inr (.inr (va_up nf nn (some no)))))))) nd (.inr (3, [.ref nl, .int (nI (nn + 1))]))) ∨ (((!decide (nn = 30) && blw y (nI nn)) && blw x (nI 64)) = false ∧ zv = some (.int (-1 : Int32)) ∧ zV = V))) V 0 0 [(0, .ref ob), (1, .int y), (2, .int x)] 0 []
  refine k_aload_n C dX6_project_0 rfl 0 rfl ?_
  refine k_get (ci := 6) (k := 3) C fl_6_30 h_ob rfl dX6_project_1 ?_
  refine k_iload_n C dX6_project_4 rfl 1 rfl ?_
  refine k_callV_pi C mv_6_100 (c_X3_canStandOver  h_nd (by first | assumption | omega)) h_nd rfl rfl (by simp [Value.category]) ⟨Nat.le_of_ble_eq_true rfl, Nat.le_of_ble_eq_true rfl⟩ ⟨(by decide), (by decide)⟩ dX6_project_5 ?_
  refine k_if_eq (tgt := 20) C dX6_project_8 (by decide) (fun c8 => ?_) (fun c8 => ?_)
  · skip
    have b8 : (!decide (nn = 30) && blw y (nI nn)) = false := bI_0.mp c8
    refine k_iconst (v := (-1 : Int32)) C dX6_project_20 (by decide) ?_
    exact k_iret C zr zlk (Or.inr ⟨by simp_all, rfl, rfl⟩) (by decide) (by decide) dX6_project_21
  · skip
    have b8 : (!decide (nn = 30) && blw y (nI nn)) = true := bI_n.mp c8
    refine k_iload_n C dX6_project_11 rfl 2 rfl ?_
    refine k_bipush (v := nI 64) C dX6_project_12 rfl ?_
    refine k_callS_pi C ms_6_38 (c_X6_isBelow   ) rfl rfl (by simp [Value.category]) ⟨Nat.le_of_ble_eq_true rfl, Nat.le_of_ble_eq_true rfl⟩ ⟨(by decide), (by decide)⟩ dX6_project_14 ?_
    refine k_if_ne (tgt := 22) C dX6_project_17 (by decide) (fun c17 => ?_) (fun c17 => ?_)
    · skip
      have b17 : (blw x (nI 64)) = true := bI_n.mp c17
      refine k_new C nw_6_82 (by decide) (by decide) dX6_project_22 (fun q1 hq1 => ?_)
      have ne2 : nq ob q1 := gv_nf hq1 h_ob
      have ne3 : nq nd q1 := gv_nf hq1 h_nd
      have ne4 : nq nl q1 := gv_nf hq1 h_nl
      refine k_dup C dX6_project_25 rfl ?_
      refine k_bipush (v := nI 7) C dX6_project_26 rfl ?_
      refine k_iload_n C dX6_project_28 rfl 1 rfl ?_
      refine k_iconst (v := (-1 : Int32)) C dX6_project_29 (by decide) ?_
      refine k_callI_pv C mi_6_84 (c_X2_init  gv_up_s ) rfl rfl (by simp [Value.category]) ⟨Nat.le_of_ble_eq_true rfl, Nat.le_of_ble_eq_true rfl⟩ ⟨(by decide), (by decide)⟩ dX6_project_30 ?_
      refine k_view (V1 := gv_up V q1 (.inr (2, [.int (nI 7), .int y, .int (-1 : Int32), .int 0, .int 0, .int 0, .int 0, .int 0, .int 0, .int 0, .int 0, .int 0, .int 0, .int 0]))) gv_uu ?_
      refine k_astore_n (lv' := [(3, .ref q1), (0, .ref ob), (1, .int y), (2, .int x)]) C dX6_project_33 rfl (by decide) rfl ?_
      refine k_aload_n C dX6_project_34 rfl 0 rfl ?_
      refine k_iload_n C dX6_project_35 rfl 3 rfl ?_
      refine k_put (ci := 2) (k := 8) (fs' := [.int (nI 7), .int y, .int (-1 : Int32), .int 0, .int 0, .int 0, .int 0, .int 0, .int x, .int 0, .int 0, .int 0, .int 0, .int 0]) C fl_6_110 pf_2_8 gv_up_s rfl rfl (Nat.le_of_ble_eq_true rfl) rfl dX6_project_36 ?_
      refine k_view (V1 := gv_up V q1 (.inr (2, [.int (nI 7), .int y, .int (-1 : Int32), .int 0, .int 0, .int 0, .int 0, .int 0, .int x, .int 0, .int 0, .int 0, .int 0, .int 0]))) gv_uu ?_
      refine k_aload_n C dX6_project_39 rfl 1 rfl ?_
      refine k_get (ci := 6) (k := 3) C fl_6_30 ((gv_up_n ne2).trans h_ob) rfl dX6_project_40 ?_
      refine k_aload_n C dX6_project_43 rfl 0 rfl ?_
      refine k_callV_pi C mv_6_97 (c_X3_add  ((gv_up_n ne3).trans h_nd) ((gv_up_n ne4).trans h_nl) gv_up_s (by simp_all; omega)) ((gv_up_n ne3).trans h_nd) rfl rfl (by simp [Value.category]) ⟨Nat.le_of_ble_eq_true rfl, Nat.le_of_ble_eq_true rfl⟩ ⟨(by decide), (by decide)⟩ dX6_project_44 ?_
      exact k_iret C zr zlk (Or.inl ⟨by simp_all, q1, hq1, rfl, rfl⟩) (by decide) (by decide) dX6_project_47
    · skip
      have b17 : (blw x (nI 64)) = false := bI_0.mp c17
      refine k_iconst (v := (-1 : Int32)) C dX6_project_20 (by decide) ?_
      exact k_iret C zr zlk (Or.inr ⟨by simp_all, rfl, rfl⟩) (by decide) (by decide) dX6_project_21
set_option maxHeartbeats 4000000 in
set_option maxRecDepth 100000 in
theorem c_X6_distinct {zl : Launch} {D : va_G} {cI cN cR : ClassId} {base : Nat} {V : gv_V} {ob mo tr xe td : Nat} {nd nl nn : Nat} {nf : Nat → Option Nat} {y : Int32}  (h_ob : V ob = some (.inr (6, [.ref mo, .ref tr, .ref xe, .ref nd, .ref td]))) (h_nd : V nd = some (.inr (3, [.ref nl, .int (nI nn)]))) (h_nl : V nl = some (.inl (cN, 30, .inr (.inr (.inr (.inr nf)))))) (hnn : nn ≤ 30) : ct zl D [(cI, .int), (cN, .object "AlgebraTree$Node"), (cR, .object "AlgebraTree$Rows")] base yX6_distinct cX6_distinct 2 (some .int) 3 1 14 [.ref ob, .int y] V (fun zv zV => ((!decide (nn = 30) && blw y (nI nn)) = true ∧ ∃ no, V no = none ∧ zv = some (.int (nI nn)) ∧ zV = gv_up (gv_up (gv_up V no (.inr (2, [.int (nI 8), .int y, .int (-1 : Int32), .int 0, .int 0, .int 0, .int 0, .int 0, .int 0, .int 0, .int 0, .int 0, .int 0, .int 0]))) nl (.inl (cN, 30, .inr (.inr (.inr (.inr (va_up nf nn (some no)))))))) nd (.inr (3, [.ref nl, .int (nI (nn + 1))]))) ∨ ((!decide (nn = 30) && blw y (nI nn)) = false ∧ zv = some (.int (-1 : Int32)) ∧ zV = V)) := by
  refine ct_of "AlgebraTree" rfl (by decide) (Nat.le_of_ble_eq_true rfl) ?_
  intro zp ze zs zm zargs zbelow zmeth zc C zr zlk znm
  refine k_pc (pc' := 0) (st' := []) rfl rfl ?_
  show K zp zl ze (gv_rm 3 1 14) zs zm zargs zbelow zmeth zc D base 2 (gv_E D [(cI, .int), (cN, .object "AlgebraTree$Node"), (cR, .object "AlgebraTree$Rows")] base zbelow zargs zs 1 14 (fun zv zV => ((!decide (nn = 30) && blw y (nI nn)) = true ∧ ∃ no, V no = none ∧ zv = some (.int (nI nn)) ∧ zV = gv_up (gv_up (gv_up V no (.inr (2, [.int (nI 8), .int y, .int (-1 : Int32), .int 0, .int 0, .int 0, .int 0, .int 0, .int 0, .int 0, .int 0, .int 0, .int 0, .int 0]))) nl (.inl (cN, 30, .inr (.inr (.inr (.inr (va_up nf nn (some no)))))))) nd (.inr (3, [.ref nl, .int (nI (nn + 1))]))) ∨ ((!decide (nn = 30) && blw y (nI nn)) = false ∧ zv = some (.int (-1 : Int32)) ∧ zV = V))) V 0 0 [(0, .ref ob), (1, .int y)] 0 []
  refine k_aload_n C dX6_distinct_0 rfl 0 rfl ?_
  refine k_get (ci := 6) (k := 3) C fl_6_30 h_ob rfl dX6_distinct_1 ?_
  refine k_iload_n C dX6_distinct_4 rfl 1 rfl ?_
  refine k_callV_pi C mv_6_100 (c_X3_canStandOver  h_nd (by first | assumption | omega)) h_nd rfl rfl (by simp [Value.category]) ⟨Nat.le_of_ble_eq_true rfl, Nat.le_of_ble_eq_true rfl⟩ ⟨(by decide), (by decide)⟩ dX6_distinct_5 ?_
  refine k_if_eq (tgt := 32) C dX6_distinct_8 (by decide) (fun c8 => ?_) (fun c8 => ?_)
  · skip
    have b8 : (!decide (nn = 30) && blw y (nI nn)) = false := bI_0.mp c8
    refine k_iconst (v := (-1 : Int32)) C dX6_distinct_32 (by decide) ?_
    exact k_iret C zr zlk (Or.inr ⟨by simp_all, rfl, rfl⟩) (by decide) (by decide) dX6_distinct_33
  · skip
    have b8 : (!decide (nn = 30) && blw y (nI nn)) = true := bI_n.mp c8
    refine k_aload_n C dX6_distinct_11 rfl 0 rfl ?_
    refine k_get (ci := 6) (k := 3) C fl_6_30 h_ob rfl dX6_distinct_12 ?_
    refine k_new C nw_6_82 (by decide) (by decide) dX6_distinct_15 (fun q1 hq1 => ?_)
    have ne2 : nq ob q1 := gv_nf hq1 h_ob
    have ne3 : nq nd q1 := gv_nf hq1 h_nd
    have ne4 : nq nl q1 := gv_nf hq1 h_nl
    refine k_dup C dX6_distinct_18 rfl ?_
    refine k_bipush (v := nI 8) C dX6_distinct_19 rfl ?_
    refine k_iload_n C dX6_distinct_21 rfl 1 rfl ?_
    refine k_iconst (v := (-1 : Int32)) C dX6_distinct_22 (by decide) ?_
    refine k_callI_pv C mi_6_84 (c_X2_init  gv_up_s ) rfl rfl (by simp [Value.category]) ⟨Nat.le_of_ble_eq_true rfl, Nat.le_of_ble_eq_true rfl⟩ ⟨(by decide), (by decide)⟩ dX6_distinct_23 ?_
    refine k_view (V1 := gv_up V q1 (.inr (2, [.int (nI 8), .int y, .int (-1 : Int32), .int 0, .int 0, .int 0, .int 0, .int 0, .int 0, .int 0, .int 0, .int 0, .int 0, .int 0]))) gv_uu ?_
    refine k_callV_pi C mv_6_97 (c_X3_add  ((gv_up_n ne3).trans h_nd) ((gv_up_n ne4).trans h_nl) gv_up_s (by simp_all; omega)) ((gv_up_n ne3).trans h_nd) rfl rfl (by simp [Value.category]) ⟨Nat.le_of_ble_eq_true rfl, Nat.le_of_ble_eq_true rfl⟩ ⟨(by decide), (by decide)⟩ dX6_distinct_26 ?_
    refine k_goto (tgt := 33) C dX6_distinct_29 (by decide) ?_
    exact k_iret C zr zlk (Or.inl ⟨by simp_all, q1, hq1, rfl, rfl⟩) (by decide) (by decide) dX6_distinct_33
set_option maxHeartbeats 4000000 in
set_option maxRecDepth 100000 in
theorem c_X6_slice {zl : Launch} {D : va_G} {cI cN cR : ClassId} {base : Nat} {V : gv_V} {ob mo tr xe td : Nat} {nd nl nn : Nat} {nf : Nat → Option Nat} {y x z : Int32}  (h_ob : V ob = some (.inr (6, [.ref mo, .ref tr, .ref xe, .ref nd, .ref td]))) (h_nd : V nd = some (.inr (3, [.ref nl, .int (nI nn)]))) (h_nl : V nl = some (.inl (cN, 30, .inr (.inr (.inr (.inr nf)))))) (hnn : nn ≤ 30) : ct zl D [(cI, .int), (cN, .object "AlgebraTree$Node"), (cR, .object "AlgebraTree$Rows")] base yX6_slice cX6_slice 5 (some .int) 3 1 14 [.ref ob, .int y, .int x, .int z] V (fun zv zV => (((!decide (nn = 30) && blw y (nI nn)) && sln x && sln z) = true ∧ ∃ no, V no = none ∧ zv = some (.int (nI nn)) ∧ zV = gv_up (gv_up (gv_up V no (.inr (2, [.int (nI 9), .int y, .int (-1 : Int32), .int 0, .int 0, .int 0, .int 0, .int 0, .int 0, .int x, .int z, .int 0, .int 0, .int 0]))) nl (.inl (cN, 30, .inr (.inr (.inr (.inr (va_up nf nn (some no)))))))) nd (.inr (3, [.ref nl, .int (nI (nn + 1))]))) ∨ (((!decide (nn = 30) && blw y (nI nn)) && sln x && sln z) = false ∧ zv = some (.int (-1 : Int32)) ∧ zV = V)) := by
  refine ct_of "AlgebraTree" rfl (by decide) (Nat.le_of_ble_eq_true rfl) ?_
  intro zp ze zs zm zargs zbelow zmeth zc C zr zlk znm
  refine k_pc (pc' := 0) (st' := []) rfl rfl ?_
  show K zp zl ze (gv_rm 3 1 14) zs zm zargs zbelow zmeth zc D base 5 (gv_E D [(cI, .int), (cN, .object "AlgebraTree$Node"), (cR, .object "AlgebraTree$Rows")] base zbelow zargs zs 1 14 (fun zv zV => (((!decide (nn = 30) && blw y (nI nn)) && sln x && sln z) = true ∧ ∃ no, V no = none ∧ zv = some (.int (nI nn)) ∧ zV = gv_up (gv_up (gv_up V no (.inr (2, [.int (nI 9), .int y, .int (-1 : Int32), .int 0, .int 0, .int 0, .int 0, .int 0, .int 0, .int x, .int z, .int 0, .int 0, .int 0]))) nl (.inl (cN, 30, .inr (.inr (.inr (.inr (va_up nf nn (some no)))))))) nd (.inr (3, [.ref nl, .int (nI (nn + 1))]))) ∨ (((!decide (nn = 30) && blw y (nI nn)) && sln x && sln z) = false ∧ zv = some (.int (-1 : Int32)) ∧ zV = V))) V 0 0 [(0, .ref ob), (1, .int y), (2, .int x), (3, .int z)] 0 []
  refine k_aload_n C dX6_slice_0 rfl 0 rfl ?_
  refine k_get (ci := 6) (k := 3) C fl_6_30 h_ob rfl dX6_slice_1 ?_
  refine k_iload_n C dX6_slice_4 rfl 1 rfl ?_
  refine k_callV_pi C mv_6_100 (c_X3_canStandOver  h_nd (by first | assumption | omega)) h_nd rfl rfl (by simp [Value.category]) ⟨Nat.le_of_ble_eq_true rfl, Nat.le_of_ble_eq_true rfl⟩ ⟨(by decide), (by decide)⟩ dX6_slice_5 ?_
  refine k_if_eq (tgt := 25) C dX6_slice_8 (by decide) (fun c8 => ?_) (fun c8 => ?_)
  · skip
    have b8 : (!decide (nn = 30) && blw y (nI nn)) = false := bI_0.mp c8
    refine k_iconst (v := (-1 : Int32)) C dX6_slice_25 (by decide) ?_
    exact k_iret C zr zlk (Or.inr ⟨by simp_all, rfl, rfl⟩) (by decide) (by decide) dX6_slice_26
  · skip
    have b8 : (!decide (nn = 30) && blw y (nI nn)) = true := bI_n.mp c8
    refine k_iload_n C dX6_slice_11 rfl 2 rfl ?_
    refine k_callS_pi C ms_6_113 (c_X6_isSliceNumber   ) rfl rfl (by simp [Value.category]) ⟨Nat.le_of_ble_eq_true rfl, Nat.le_of_ble_eq_true rfl⟩ ⟨(by decide), (by decide)⟩ dX6_slice_12 ?_
    refine k_if_eq (tgt := 25) C dX6_slice_15 (by decide) (fun c15 => ?_) (fun c15 => ?_)
    · skip
      have b15 : (sln x) = false := bI_0.mp c15
      refine k_iconst (v := (-1 : Int32)) C dX6_slice_25 (by decide) ?_
      exact k_iret C zr zlk (Or.inr ⟨by simp_all, rfl, rfl⟩) (by decide) (by decide) dX6_slice_26
    · skip
      have b15 : (sln x) = true := bI_n.mp c15
      refine k_iload_n C dX6_slice_18 rfl 3 rfl ?_
      refine k_callS_pi C ms_6_113 (c_X6_isSliceNumber   ) rfl rfl (by simp [Value.category]) ⟨Nat.le_of_ble_eq_true rfl, Nat.le_of_ble_eq_true rfl⟩ ⟨(by decide), (by decide)⟩ dX6_slice_19 ?_
      refine k_if_ne (tgt := 27) C dX6_slice_22 (by decide) (fun c22 => ?_) (fun c22 => ?_)
      · skip
        have b22 : (sln z) = true := bI_n.mp c22
        refine k_new C nw_6_82 (by decide) (by decide) dX6_slice_27 (fun q1 hq1 => ?_)
        have ne2 : nq ob q1 := gv_nf hq1 h_ob
        have ne3 : nq nd q1 := gv_nf hq1 h_nd
        have ne4 : nq nl q1 := gv_nf hq1 h_nl
        refine k_dup C dX6_slice_30 rfl ?_
        refine k_bipush (v := nI 9) C dX6_slice_31 rfl ?_
        refine k_iload_n C dX6_slice_33 rfl 1 rfl ?_
        refine k_iconst (v := (-1 : Int32)) C dX6_slice_34 (by decide) ?_
        refine k_callI_pv C mi_6_84 (c_X2_init  gv_up_s ) rfl rfl (by simp [Value.category]) ⟨Nat.le_of_ble_eq_true rfl, Nat.le_of_ble_eq_true rfl⟩ ⟨(by decide), (by decide)⟩ dX6_slice_35 ?_
        refine k_view (V1 := gv_up V q1 (.inr (2, [.int (nI 9), .int y, .int (-1 : Int32), .int 0, .int 0, .int 0, .int 0, .int 0, .int 0, .int 0, .int 0, .int 0, .int 0, .int 0]))) gv_uu ?_
        refine k_astore (lv' := [(4, .ref q1), (0, .ref ob), (1, .int y), (2, .int x), (3, .int z)]) C dX6_slice_38 (by decide) rfl ?_
        refine k_aload C dX6_slice_40 0 rfl ?_
        refine k_iload_n C dX6_slice_42 rfl 3 rfl ?_
        refine k_put (ci := 2) (k := 9) (fs' := [.int (nI 9), .int y, .int (-1 : Int32), .int 0, .int 0, .int 0, .int 0, .int 0, .int 0, .int x, .int 0, .int 0, .int 0, .int 0]) C fl_6_116 pf_2_9 gv_up_s rfl rfl (Nat.le_of_ble_eq_true rfl) rfl dX6_slice_43 ?_
        refine k_view (V1 := gv_up V q1 (.inr (2, [.int (nI 9), .int y, .int (-1 : Int32), .int 0, .int 0, .int 0, .int 0, .int 0, .int 0, .int x, .int 0, .int 0, .int 0, .int 0]))) gv_uu ?_
        refine k_aload C dX6_slice_46 0 rfl ?_
        refine k_iload_n C dX6_slice_48 rfl 4 rfl ?_
        refine k_put (ci := 2) (k := 10) (fs' := [.int (nI 9), .int y, .int (-1 : Int32), .int 0, .int 0, .int 0, .int 0, .int 0, .int 0, .int x, .int z, .int 0, .int 0, .int 0]) C fl_6_119 pf_2_10 gv_up_s rfl rfl (Nat.le_of_ble_eq_true rfl) rfl dX6_slice_49 ?_
        refine k_view (V1 := gv_up V q1 (.inr (2, [.int (nI 9), .int y, .int (-1 : Int32), .int 0, .int 0, .int 0, .int 0, .int 0, .int 0, .int x, .int z, .int 0, .int 0, .int 0]))) gv_uu ?_
        refine k_aload_n C dX6_slice_52 rfl 1 rfl ?_
        refine k_get (ci := 6) (k := 3) C fl_6_30 ((gv_up_n ne2).trans h_ob) rfl dX6_slice_53 ?_
        refine k_aload C dX6_slice_56 0 rfl ?_
        refine k_callV_pi C mv_6_97 (c_X3_add  ((gv_up_n ne3).trans h_nd) ((gv_up_n ne4).trans h_nl) gv_up_s (by simp_all; omega)) ((gv_up_n ne3).trans h_nd) rfl rfl (by simp [Value.category]) ⟨Nat.le_of_ble_eq_true rfl, Nat.le_of_ble_eq_true rfl⟩ ⟨(by decide), (by decide)⟩ dX6_slice_58 ?_
        exact k_iret C zr zlk (Or.inl ⟨by simp_all, q1, hq1, rfl, rfl⟩) (by decide) (by decide) dX6_slice_61
      · skip
        have b22 : (sln z) = false := bI_0.mp c22
        refine k_iconst (v := (-1 : Int32)) C dX6_slice_25 (by decide) ?_
        exact k_iret C zr zlk (Or.inr ⟨by simp_all, rfl, rfl⟩) (by decide) (by decide) dX6_slice_26
set_option maxHeartbeats 4000000 in
set_option maxRecDepth 100000 in
theorem c_X6_order {zl : Launch} {D : va_G} {cI cN cR : ClassId} {base : Nat} {V : gv_V} {ob mo tr xe td : Nat} {nd nl nn : Nat} {nf : Nat → Option Nat} {ak af as ap av ne : Nat} {y w x : Int32}  (h_ob : V ob = some (.inr (6, [.ref mo, .ref tr, .ref xe, .ref nd, .ref td]))) (h_nd : V nd = some (.inr (3, [.ref nl, .int (nI nn)]))) (h_nl : V nl = some (.inl (cN, 30, .inr (.inr (.inr (.inr nf)))))) (h_xe : V xe = some (.inr (0, [.ref ak, .ref af, .ref as, .ref ap, .ref av, .int (nI ne)]))) (hnn : nn ≤ 30) (hb1 : narrow .boolean (.int x) = .int x) (hb2 : fits .boolean (.int x) = true) : ct zl D [(cI, .int), (cN, .object "AlgebraTree$Node"), (cR, .object "AlgebraTree$Rows")] base yX6_order cX6_order 5 (some .int) 3 1 14 [.ref ob, .int y, .int w, .int x] V (fun zv zV => (((!decide (nn = 30) && blw y (nI nn)) && blw w (nI ne)) = true ∧ ∃ no, V no = none ∧ zv = some (.int (nI nn)) ∧ zV = gv_up (gv_up (gv_up V no (.inr (2, [.int (nI 10), .int y, .int (-1 : Int32), .int 0, .int 0, .int 0, .int w, .int 0, .int 0, .int 0, .int 0, .int x, .int 0, .int 0]))) nl (.inl (cN, 30, .inr (.inr (.inr (.inr (va_up nf nn (some no)))))))) nd (.inr (3, [.ref nl, .int (nI (nn + 1))]))) ∨ (((!decide (nn = 30) && blw y (nI nn)) && blw w (nI ne)) = false ∧ zv = some (.int (-1 : Int32)) ∧ zV = V)) := by
  refine ct_of "AlgebraTree" rfl (by decide) (Nat.le_of_ble_eq_true rfl) ?_
  intro zp ze zs zm zargs zbelow zmeth zc C zr zlk znm
  refine k_pc (pc' := 0) (st' := []) rfl rfl ?_
  show K zp zl ze (gv_rm 3 1 14) zs zm zargs zbelow zmeth zc D base 5 (gv_E D [(cI, .int), (cN, .object "AlgebraTree$Node"), (cR, .object "AlgebraTree$Rows")] base zbelow zargs zs 1 14 (fun zv zV => (((!decide (nn = 30) && blw y (nI nn)) && blw w (nI ne)) = true ∧ ∃ no, V no = none ∧ zv = some (.int (nI nn)) ∧ zV = gv_up (gv_up (gv_up V no (.inr (2, [.int (nI 10), .int y, .int (-1 : Int32), .int 0, .int 0, .int 0, .int w, .int 0, .int 0, .int 0, .int 0, .int x, .int 0, .int 0]))) nl (.inl (cN, 30, .inr (.inr (.inr (.inr (va_up nf nn (some no)))))))) nd (.inr (3, [.ref nl, .int (nI (nn + 1))]))) ∨ (((!decide (nn = 30) && blw y (nI nn)) && blw w (nI ne)) = false ∧ zv = some (.int (-1 : Int32)) ∧ zV = V))) V 0 0 [(0, .ref ob), (1, .int y), (2, .int w), (3, .int x)] 0 []
  refine k_aload_n C dX6_order_0 rfl 0 rfl ?_
  refine k_get (ci := 6) (k := 3) C fl_6_30 h_ob rfl dX6_order_1 ?_
  refine k_iload_n C dX6_order_4 rfl 1 rfl ?_
  refine k_callV_pi C mv_6_100 (c_X3_canStandOver  h_nd (by first | assumption | omega)) h_nd rfl rfl (by simp [Value.category]) ⟨Nat.le_of_ble_eq_true rfl, Nat.le_of_ble_eq_true rfl⟩ ⟨(by decide), (by decide)⟩ dX6_order_5 ?_
  refine k_if_eq (tgt := 22) C dX6_order_8 (by decide) (fun c8 => ?_) (fun c8 => ?_)
  · skip
    have b8 : (!decide (nn = 30) && blw y (nI nn)) = false := bI_0.mp c8
    refine k_iconst (v := (-1 : Int32)) C dX6_order_22 (by decide) ?_
    exact k_iret C zr zlk (Or.inr ⟨by simp_all, rfl, rfl⟩) (by decide) (by decide) dX6_order_23
  · skip
    have b8 : (!decide (nn = 30) && blw y (nI nn)) = true := bI_n.mp c8
    refine k_aload_n C dX6_order_11 rfl 0 rfl ?_
    refine k_get (ci := 6) (k := 2) C fl_6_25 h_ob rfl dX6_order_12 ?_
    refine k_iload_n C dX6_order_15 rfl 2 rfl ?_
    refine k_callV_pi C mv_6_66 (c_X0_has  h_xe ) h_xe rfl rfl (by simp [Value.category]) ⟨Nat.le_of_ble_eq_true rfl, Nat.le_of_ble_eq_true rfl⟩ ⟨(by decide), (by decide)⟩ dX6_order_16 ?_
    refine k_if_ne (tgt := 24) C dX6_order_19 (by decide) (fun c19 => ?_) (fun c19 => ?_)
    · skip
      have b19 : (blw w (nI ne)) = true := bI_n.mp c19
      refine k_new C nw_6_82 (by decide) (by decide) dX6_order_24 (fun q1 hq1 => ?_)
      have ne2 : nq ob q1 := gv_nf hq1 h_ob
      have ne3 : nq nd q1 := gv_nf hq1 h_nd
      have ne4 : nq nl q1 := gv_nf hq1 h_nl
      have ne5 : nq xe q1 := gv_nf hq1 h_xe
      refine k_dup C dX6_order_27 rfl ?_
      refine k_bipush (v := nI 10) C dX6_order_28 rfl ?_
      refine k_iload_n C dX6_order_30 rfl 1 rfl ?_
      refine k_iconst (v := (-1 : Int32)) C dX6_order_31 (by decide) ?_
      refine k_callI_pv C mi_6_84 (c_X2_init  gv_up_s ) rfl rfl (by simp [Value.category]) ⟨Nat.le_of_ble_eq_true rfl, Nat.le_of_ble_eq_true rfl⟩ ⟨(by decide), (by decide)⟩ dX6_order_32 ?_
      refine k_view (V1 := gv_up V q1 (.inr (2, [.int (nI 10), .int y, .int (-1 : Int32), .int 0, .int 0, .int 0, .int 0, .int 0, .int 0, .int 0, .int 0, .int 0, .int 0, .int 0]))) gv_uu ?_
      refine k_astore (lv' := [(4, .ref q1), (0, .ref ob), (1, .int y), (2, .int w), (3, .int x)]) C dX6_order_35 (by decide) rfl ?_
      refine k_aload C dX6_order_37 0 rfl ?_
      refine k_iload_n C dX6_order_39 rfl 3 rfl ?_
      refine k_put (ci := 2) (k := 6) (fs' := [.int (nI 10), .int y, .int (-1 : Int32), .int 0, .int 0, .int 0, .int w, .int 0, .int 0, .int 0, .int 0, .int 0, .int 0, .int 0]) C fl_6_104 pf_2_6 gv_up_s rfl rfl (Nat.le_of_ble_eq_true rfl) rfl dX6_order_40 ?_
      refine k_view (V1 := gv_up V q1 (.inr (2, [.int (nI 10), .int y, .int (-1 : Int32), .int 0, .int 0, .int 0, .int w, .int 0, .int 0, .int 0, .int 0, .int 0, .int 0, .int 0]))) gv_uu ?_
      refine k_aload C dX6_order_43 0 rfl ?_
      refine k_iload_n C dX6_order_45 rfl 4 rfl ?_
      refine k_put (ci := 2) (k := 11) (fs' := [.int (nI 10), .int y, .int (-1 : Int32), .int 0, .int 0, .int 0, .int w, .int 0, .int 0, .int 0, .int 0, .int x, .int 0, .int 0]) C fl_6_122 pf_2_11 gv_up_s hb1 hb2 (Nat.le_of_ble_eq_true rfl) rfl dX6_order_46 ?_
      refine k_view (V1 := gv_up V q1 (.inr (2, [.int (nI 10), .int y, .int (-1 : Int32), .int 0, .int 0, .int 0, .int w, .int 0, .int 0, .int 0, .int 0, .int x, .int 0, .int 0]))) gv_uu ?_
      refine k_aload_n C dX6_order_49 rfl 1 rfl ?_
      refine k_get (ci := 6) (k := 3) C fl_6_30 ((gv_up_n ne2).trans h_ob) rfl dX6_order_50 ?_
      refine k_aload C dX6_order_53 0 rfl ?_
      refine k_callV_pi C mv_6_97 (c_X3_add  ((gv_up_n ne3).trans h_nd) ((gv_up_n ne4).trans h_nl) gv_up_s (by simp_all; omega)) ((gv_up_n ne3).trans h_nd) rfl rfl (by simp [Value.category]) ⟨Nat.le_of_ble_eq_true rfl, Nat.le_of_ble_eq_true rfl⟩ ⟨(by decide), (by decide)⟩ dX6_order_55 ?_
      exact k_iret C zr zlk (Or.inl ⟨by simp_all, q1, hq1, rfl, rfl⟩) (by decide) (by decide) dX6_order_58
    · skip
      have b19 : (blw w (nI ne)) = false := bI_0.mp c19
      refine k_iconst (v := (-1 : Int32)) C dX6_order_22 (by decide) ?_
      exact k_iret C zr zlk (Or.inr ⟨by simp_all, rfl, rfl⟩) (by decide) (by decide) dX6_order_23
set_option maxHeartbeats 4000000 in
set_option maxRecDepth 100000 in
theorem c_X6_group {zl : Launch} {D : va_G} {cI cN cR : ClassId} {base : Nat} {V : gv_V} {ob mo tr xe td : Nat} {nd nl nn : Nat} {nf : Nat → Option Nat} {ak af as ap av ne : Nat} {y x z w v : Int32}  (h_ob : V ob = some (.inr (6, [.ref mo, .ref tr, .ref xe, .ref nd, .ref td]))) (h_nd : V nd = some (.inr (3, [.ref nl, .int (nI nn)]))) (h_nl : V nl = some (.inl (cN, 30, .inr (.inr (.inr (.inr nf)))))) (h_xe : V xe = some (.inr (0, [.ref ak, .ref af, .ref as, .ref ap, .ref av, .int (nI ne)]))) (hnn : nn ≤ 30) : ct zl D [(cI, .int), (cN, .object "AlgebraTree$Node"), (cR, .object "AlgebraTree$Rows")] base yX6_group cX6_group 7 (some .int) 3 1 14 [.ref ob, .int y, .int x, .int z, .int w, .int v] V (fun zv zV => (((!decide (nn = 30) && blw y (nI nn)) && blw x (nI 64) && blw z (nI 4) && blw w (nI ne) && blw v (nI 6) && !inS x v) = true ∧ ∃ no, V no = none ∧ zv = some (.int (nI nn)) ∧ zV = gv_up (gv_up (gv_up V no (.inr (2, [.int (nI 11), .int y, .int (-1 : Int32), .int 0, .int 0, .int 0, .int w, .int v, .int x, .int 0, .int 0, .int 0, .int z, .int 0]))) nl (.inl (cN, 30, .inr (.inr (.inr (.inr (va_up nf nn (some no)))))))) nd (.inr (3, [.ref nl, .int (nI (nn + 1))]))) ∨ (((!decide (nn = 30) && blw y (nI nn)) && blw x (nI 64) && blw z (nI 4) && blw w (nI ne) && blw v (nI 6) && !inS x v) = false ∧ zv = some (.int (-1 : Int32)) ∧ zV = V)) := by
  refine ct_of "AlgebraTree" rfl (by decide) (Nat.le_of_ble_eq_true rfl) ?_
  intro zp ze zs zm zargs zbelow zmeth zc C zr zlk znm
  refine k_pc (pc' := 0) (st' := []) rfl rfl ?_
  show K zp zl ze (gv_rm 3 1 14) zs zm zargs zbelow zmeth zc D base 7 (gv_E D [(cI, .int), (cN, .object "AlgebraTree$Node"), (cR, .object "AlgebraTree$Rows")] base zbelow zargs zs 1 14 (fun zv zV => (((!decide (nn = 30) && blw y (nI nn)) && blw x (nI 64) && blw z (nI 4) && blw w (nI ne) && blw v (nI 6) && !inS x v) = true ∧ ∃ no, V no = none ∧ zv = some (.int (nI nn)) ∧ zV = gv_up (gv_up (gv_up V no (.inr (2, [.int (nI 11), .int y, .int (-1 : Int32), .int 0, .int 0, .int 0, .int w, .int v, .int x, .int 0, .int 0, .int 0, .int z, .int 0]))) nl (.inl (cN, 30, .inr (.inr (.inr (.inr (va_up nf nn (some no)))))))) nd (.inr (3, [.ref nl, .int (nI (nn + 1))]))) ∨ (((!decide (nn = 30) && blw y (nI nn)) && blw x (nI 64) && blw z (nI 4) && blw w (nI ne) && blw v (nI 6) && !inS x v) = false ∧ zv = some (.int (-1 : Int32)) ∧ zV = V))) V 0 0 [(0, .ref ob), (1, .int y), (2, .int x), (3, .int z), (4, .int w), (5, .int v)] 0 []
  refine k_aload_n C dX6_group_0 rfl 0 rfl ?_
  refine k_get (ci := 6) (k := 3) C fl_6_30 h_ob rfl dX6_group_1 ?_
  refine k_iload_n C dX6_group_4 rfl 1 rfl ?_
  refine k_callV_pi C mv_6_100 (c_X3_canStandOver  h_nd (by first | assumption | omega)) h_nd rfl rfl (by simp [Value.category]) ⟨Nat.le_of_ble_eq_true rfl, Nat.le_of_ble_eq_true rfl⟩ ⟨(by decide), (by decide)⟩ dX6_group_5 ?_
  refine k_if_eq (tgt := 28) C dX6_group_8 (by decide) (fun c8 => ?_) (fun c8 => ?_)
  · skip
    have b8 : (!decide (nn = 30) && blw y (nI nn)) = false := bI_0.mp c8
    refine k_iconst (v := (-1 : Int32)) C dX6_group_28 (by decide) ?_
    exact k_iret C zr zlk (Or.inr ⟨by simp_all, rfl, rfl⟩) (by decide) (by decide) dX6_group_29
  · skip
    have b8 : (!decide (nn = 30) && blw y (nI nn)) = true := bI_n.mp c8
    refine k_iload_n C dX6_group_11 rfl 2 rfl ?_
    refine k_bipush (v := nI 64) C dX6_group_12 rfl ?_
    refine k_callS_pi C ms_6_38 (c_X6_isBelow   ) rfl rfl (by simp [Value.category]) ⟨Nat.le_of_ble_eq_true rfl, Nat.le_of_ble_eq_true rfl⟩ ⟨(by decide), (by decide)⟩ dX6_group_14 ?_
    refine k_if_eq (tgt := 28) C dX6_group_17 (by decide) (fun c17 => ?_) (fun c17 => ?_)
    · skip
      have b17 : (blw x (nI 64)) = false := bI_0.mp c17
      refine k_iconst (v := (-1 : Int32)) C dX6_group_28 (by decide) ?_
      exact k_iret C zr zlk (Or.inr ⟨by simp_all, rfl, rfl⟩) (by decide) (by decide) dX6_group_29
    · skip
      have b17 : (blw x (nI 64)) = true := bI_n.mp c17
      refine k_iload_n C dX6_group_20 rfl 3 rfl ?_
      refine k_iconst (v := nI 4) C dX6_group_21 rfl ?_
      refine k_callS_pi C ms_6_38 (c_X6_isBelow   ) rfl rfl (by simp [Value.category]) ⟨Nat.le_of_ble_eq_true rfl, Nat.le_of_ble_eq_true rfl⟩ ⟨(by decide), (by decide)⟩ dX6_group_22 ?_
      refine k_if_ne (tgt := 30) C dX6_group_25 (by decide) (fun c25 => ?_) (fun c25 => ?_)
      · skip
        have b25 : (blw z (nI 4)) = true := bI_n.mp c25
        refine k_aload_n C dX6_group_30 rfl 0 rfl ?_
        refine k_get (ci := 6) (k := 2) C fl_6_25 h_ob rfl dX6_group_31 ?_
        refine k_iload C dX6_group_34 4 rfl ?_
        refine k_callV_pi C mv_6_66 (c_X0_has  h_xe ) h_xe rfl rfl (by simp [Value.category]) ⟨Nat.le_of_ble_eq_true rfl, Nat.le_of_ble_eq_true rfl⟩ ⟨(by decide), (by decide)⟩ dX6_group_36 ?_
        refine k_if_eq (tgt := 59) C dX6_group_39 (by decide) (fun c39 => ?_) (fun c39 => ?_)
        · skip
          have b39 : (blw w (nI ne)) = false := bI_0.mp c39
          refine k_iconst (v := (-1 : Int32)) C dX6_group_59 (by decide) ?_
          exact k_iret C zr zlk (Or.inr ⟨by simp_all, rfl, rfl⟩) (by decide) (by decide) dX6_group_60
        · skip
          have b39 : (blw w (nI ne)) = true := bI_n.mp c39
          refine k_iload C dX6_group_42 5 rfl ?_
          refine k_callS_pi C ms_6_59 (c_X6_isVariable   ) rfl rfl (by simp [Value.category]) ⟨Nat.le_of_ble_eq_true rfl, Nat.le_of_ble_eq_true rfl⟩ ⟨(by decide), (by decide)⟩ dX6_group_44 ?_
          refine k_if_eq (tgt := 59) C dX6_group_47 (by decide) (fun c47 => ?_) (fun c47 => ?_)
          · skip
            have b47 : (blw v (nI 6)) = false := bI_0.mp c47
            refine k_iconst (v := (-1 : Int32)) C dX6_group_59 (by decide) ?_
            exact k_iret C zr zlk (Or.inr ⟨by simp_all, rfl, rfl⟩) (by decide) (by decide) dX6_group_60
          · skip
            have b47 : (blw v (nI 6)) = true := bI_n.mp c47
            refine k_iload C dX6_group_50 5 rfl ?_
            refine k_iload_n C dX6_group_52 rfl 2 rfl ?_
            refine k_callS_pi C ms_6_126 (c_X6_isInSet   ) rfl rfl (by simp [Value.category]) ⟨Nat.le_of_ble_eq_true rfl, Nat.le_of_ble_eq_true rfl⟩ ⟨(by decide), (by decide)⟩ dX6_group_53 ?_
            refine k_if_eq (tgt := 61) C dX6_group_56 (by decide) (fun c56 => ?_) (fun c56 => ?_)
            · skip
              have b56 : (inS x v) = false := bI_0.mp c56
              refine k_new C nw_6_82 (by decide) (by decide) dX6_group_61 (fun q1 hq1 => ?_)
              have ne2 : nq ob q1 := gv_nf hq1 h_ob
              have ne3 : nq nd q1 := gv_nf hq1 h_nd
              have ne4 : nq nl q1 := gv_nf hq1 h_nl
              have ne5 : nq xe q1 := gv_nf hq1 h_xe
              refine k_dup C dX6_group_64 rfl ?_
              refine k_bipush (v := nI 11) C dX6_group_65 rfl ?_
              refine k_iload_n C dX6_group_67 rfl 1 rfl ?_
              refine k_iconst (v := (-1 : Int32)) C dX6_group_68 (by decide) ?_
              refine k_callI_pv C mi_6_84 (c_X2_init  gv_up_s ) rfl rfl (by simp [Value.category]) ⟨Nat.le_of_ble_eq_true rfl, Nat.le_of_ble_eq_true rfl⟩ ⟨(by decide), (by decide)⟩ dX6_group_69 ?_
              refine k_view (V1 := gv_up V q1 (.inr (2, [.int (nI 11), .int y, .int (-1 : Int32), .int 0, .int 0, .int 0, .int 0, .int 0, .int 0, .int 0, .int 0, .int 0, .int 0, .int 0]))) gv_uu ?_
              refine k_astore (lv' := [(6, .ref q1), (0, .ref ob), (1, .int y), (2, .int x), (3, .int z), (4, .int w), (5, .int v)]) C dX6_group_72 (by decide) rfl ?_
              refine k_aload C dX6_group_74 0 rfl ?_
              refine k_iload_n C dX6_group_76 rfl 3 rfl ?_
              refine k_put (ci := 2) (k := 8) (fs' := [.int (nI 11), .int y, .int (-1 : Int32), .int 0, .int 0, .int 0, .int 0, .int 0, .int x, .int 0, .int 0, .int 0, .int 0, .int 0]) C fl_6_110 pf_2_8 gv_up_s rfl rfl (Nat.le_of_ble_eq_true rfl) rfl dX6_group_77 ?_
              refine k_view (V1 := gv_up V q1 (.inr (2, [.int (nI 11), .int y, .int (-1 : Int32), .int 0, .int 0, .int 0, .int 0, .int 0, .int x, .int 0, .int 0, .int 0, .int 0, .int 0]))) gv_uu ?_
              refine k_aload C dX6_group_80 0 rfl ?_
              refine k_iload_n C dX6_group_82 rfl 4 rfl ?_
              refine k_put (ci := 2) (k := 12) (fs' := [.int (nI 11), .int y, .int (-1 : Int32), .int 0, .int 0, .int 0, .int 0, .int 0, .int x, .int 0, .int 0, .int 0, .int z, .int 0]) C fl_6_129 pf_2_12 gv_up_s rfl rfl (Nat.le_of_ble_eq_true rfl) rfl dX6_group_83 ?_
              refine k_view (V1 := gv_up V q1 (.inr (2, [.int (nI 11), .int y, .int (-1 : Int32), .int 0, .int 0, .int 0, .int 0, .int 0, .int x, .int 0, .int 0, .int 0, .int z, .int 0]))) gv_uu ?_
              refine k_aload C dX6_group_86 0 rfl ?_
              refine k_iload C dX6_group_88 5 rfl ?_
              refine k_put (ci := 2) (k := 6) (fs' := [.int (nI 11), .int y, .int (-1 : Int32), .int 0, .int 0, .int 0, .int w, .int 0, .int x, .int 0, .int 0, .int 0, .int z, .int 0]) C fl_6_104 pf_2_6 gv_up_s rfl rfl (Nat.le_of_ble_eq_true rfl) rfl dX6_group_90 ?_
              refine k_view (V1 := gv_up V q1 (.inr (2, [.int (nI 11), .int y, .int (-1 : Int32), .int 0, .int 0, .int 0, .int w, .int 0, .int x, .int 0, .int 0, .int 0, .int z, .int 0]))) gv_uu ?_
              refine k_aload C dX6_group_93 0 rfl ?_
              refine k_iload C dX6_group_95 6 rfl ?_
              refine k_put (ci := 2) (k := 7) (fs' := [.int (nI 11), .int y, .int (-1 : Int32), .int 0, .int 0, .int 0, .int w, .int v, .int x, .int 0, .int 0, .int 0, .int z, .int 0]) C fl_6_107 pf_2_7 gv_up_s rfl rfl (Nat.le_of_ble_eq_true rfl) rfl dX6_group_97 ?_
              refine k_view (V1 := gv_up V q1 (.inr (2, [.int (nI 11), .int y, .int (-1 : Int32), .int 0, .int 0, .int 0, .int w, .int v, .int x, .int 0, .int 0, .int 0, .int z, .int 0]))) gv_uu ?_
              refine k_aload_n C dX6_group_100 rfl 1 rfl ?_
              refine k_get (ci := 6) (k := 3) C fl_6_30 ((gv_up_n ne2).trans h_ob) rfl dX6_group_101 ?_
              refine k_aload C dX6_group_104 0 rfl ?_
              refine k_callV_pi C mv_6_97 (c_X3_add  ((gv_up_n ne3).trans h_nd) ((gv_up_n ne4).trans h_nl) gv_up_s (by simp_all; omega)) ((gv_up_n ne3).trans h_nd) rfl rfl (by simp [Value.category]) ⟨Nat.le_of_ble_eq_true rfl, Nat.le_of_ble_eq_true rfl⟩ ⟨(by decide), (by decide)⟩ dX6_group_106 ?_
              exact k_iret C zr zlk (Or.inl ⟨by simp_all, q1, hq1, rfl, rfl⟩) (by decide) (by decide) dX6_group_109
            · skip
              have b56 : (inS x v) = true := bI_n.mp c56
              refine k_iconst (v := (-1 : Int32)) C dX6_group_59 (by decide) ?_
              exact k_iret C zr zlk (Or.inr ⟨by simp_all, rfl, rfl⟩) (by decide) (by decide) dX6_group_60
      · skip
        have b25 : (blw z (nI 4)) = false := bI_0.mp c25
        refine k_iconst (v := (-1 : Int32)) C dX6_group_28 (by decide) ?_
        exact k_iret C zr zlk (Or.inr ⟨by simp_all, rfl, rfl⟩) (by decide) (by decide) dX6_group_29
set_option maxHeartbeats 4000000 in
set_option maxRecDepth 100000 in
theorem c_X6_graph {zl : Launch} {D : va_G} {cI cN cR : ClassId} {base : Nat} {V : gv_V} {ob mo tr xe td : Nat} {nd nl nn : Nat} {nf : Nat → Option Nat} {x y : Int32}  (h_ob : V ob = some (.inr (6, [.ref mo, .ref tr, .ref xe, .ref nd, .ref td]))) (h_nd : V nd = some (.inr (3, [.ref nl, .int (nI nn)]))) (h_nl : V nl = some (.inl (cN, 30, .inr (.inr (.inr (.inr nf)))))) (hnn : nn ≤ 30) : ct zl D [(cI, .int), (cN, .object "AlgebraTree$Node"), (cR, .object "AlgebraTree$Rows")] base yX6_graph cX6_graph 4 (some .int) 3 1 14 [.ref ob, .int x, .int y] V (fun zv zV => ((blw x (nI 4) && (!decide (nn = 30) && blw y (nI nn))) = true ∧ ∃ no, V no = none ∧ zv = some (.int (nI nn)) ∧ zV = gv_up (gv_up (gv_up V no (.inr (2, [.int (nI 12), .int y, .int (-1 : Int32), .int 0, .int 0, .int 0, .int 0, .int 0, .int 0, .int 0, .int 0, .int 0, .int 0, .int x]))) nl (.inl (cN, 30, .inr (.inr (.inr (.inr (va_up nf nn (some no)))))))) nd (.inr (3, [.ref nl, .int (nI (nn + 1))]))) ∨ ((blw x (nI 4) && (!decide (nn = 30) && blw y (nI nn))) = false ∧ zv = some (.int (-1 : Int32)) ∧ zV = V)) := by
  refine ct_of "AlgebraTree" rfl (by decide) (Nat.le_of_ble_eq_true rfl) ?_
  intro zp ze zs zm zargs zbelow zmeth zc C zr zlk znm
  refine k_pc (pc' := 0) (st' := []) rfl rfl ?_
  show K zp zl ze (gv_rm 3 1 14) zs zm zargs zbelow zmeth zc D base 4 (gv_E D [(cI, .int), (cN, .object "AlgebraTree$Node"), (cR, .object "AlgebraTree$Rows")] base zbelow zargs zs 1 14 (fun zv zV => ((blw x (nI 4) && (!decide (nn = 30) && blw y (nI nn))) = true ∧ ∃ no, V no = none ∧ zv = some (.int (nI nn)) ∧ zV = gv_up (gv_up (gv_up V no (.inr (2, [.int (nI 12), .int y, .int (-1 : Int32), .int 0, .int 0, .int 0, .int 0, .int 0, .int 0, .int 0, .int 0, .int 0, .int 0, .int x]))) nl (.inl (cN, 30, .inr (.inr (.inr (.inr (va_up nf nn (some no)))))))) nd (.inr (3, [.ref nl, .int (nI (nn + 1))]))) ∨ ((blw x (nI 4) && (!decide (nn = 30) && blw y (nI nn))) = false ∧ zv = some (.int (-1 : Int32)) ∧ zV = V))) V 0 0 [(0, .ref ob), (1, .int x), (2, .int y)] 0 []
  refine k_iload_n C dX6_graph_0 rfl 1 rfl ?_
  refine k_iconst (v := nI 4) C dX6_graph_1 rfl ?_
  refine k_callS_pi C ms_6_38 (c_X6_isBelow   ) rfl rfl (by simp [Value.category]) ⟨Nat.le_of_ble_eq_true rfl, Nat.le_of_ble_eq_true rfl⟩ ⟨(by decide), (by decide)⟩ dX6_graph_2 ?_
  refine k_if_eq (tgt := 19) C dX6_graph_5 (by decide) (fun c5 => ?_) (fun c5 => ?_)
  · skip
    have b5 : (blw x (nI 4)) = false := bI_0.mp c5
    refine k_iconst (v := (-1 : Int32)) C dX6_graph_19 (by decide) ?_
    exact k_iret C zr zlk (Or.inr ⟨by simp_all, rfl, rfl⟩) (by decide) (by decide) dX6_graph_20
  · skip
    have b5 : (blw x (nI 4)) = true := bI_n.mp c5
    refine k_aload_n C dX6_graph_8 rfl 0 rfl ?_
    refine k_get (ci := 6) (k := 3) C fl_6_30 h_ob rfl dX6_graph_9 ?_
    refine k_iload_n C dX6_graph_12 rfl 2 rfl ?_
    refine k_callV_pi C mv_6_100 (c_X3_canStandOver  h_nd (by first | assumption | omega)) h_nd rfl rfl (by simp [Value.category]) ⟨Nat.le_of_ble_eq_true rfl, Nat.le_of_ble_eq_true rfl⟩ ⟨(by decide), (by decide)⟩ dX6_graph_13 ?_
    refine k_if_ne (tgt := 21) C dX6_graph_16 (by decide) (fun c16 => ?_) (fun c16 => ?_)
    · skip
      have b16 : (!decide (nn = 30) && blw y (nI nn)) = true := bI_n.mp c16
      refine k_new C nw_6_82 (by decide) (by decide) dX6_graph_21 (fun q1 hq1 => ?_)
      have ne2 : nq ob q1 := gv_nf hq1 h_ob
      have ne3 : nq nd q1 := gv_nf hq1 h_nd
      have ne4 : nq nl q1 := gv_nf hq1 h_nl
      refine k_dup C dX6_graph_24 rfl ?_
      refine k_bipush (v := nI 12) C dX6_graph_25 rfl ?_
      refine k_iload_n C dX6_graph_27 rfl 2 rfl ?_
      refine k_iconst (v := (-1 : Int32)) C dX6_graph_28 (by decide) ?_
      refine k_callI_pv C mi_6_84 (c_X2_init  gv_up_s ) rfl rfl (by simp [Value.category]) ⟨Nat.le_of_ble_eq_true rfl, Nat.le_of_ble_eq_true rfl⟩ ⟨(by decide), (by decide)⟩ dX6_graph_29 ?_
      refine k_view (V1 := gv_up V q1 (.inr (2, [.int (nI 12), .int y, .int (-1 : Int32), .int 0, .int 0, .int 0, .int 0, .int 0, .int 0, .int 0, .int 0, .int 0, .int 0, .int 0]))) gv_uu ?_
      refine k_astore_n (lv' := [(3, .ref q1), (0, .ref ob), (1, .int x), (2, .int y)]) C dX6_graph_32 rfl (by decide) rfl ?_
      refine k_aload_n C dX6_graph_33 rfl 0 rfl ?_
      refine k_iload_n C dX6_graph_34 rfl 2 rfl ?_
      refine k_put (ci := 2) (k := 13) (fs' := [.int (nI 12), .int y, .int (-1 : Int32), .int 0, .int 0, .int 0, .int 0, .int 0, .int 0, .int 0, .int 0, .int 0, .int 0, .int x]) C fl_6_132 pf_2_13 gv_up_s rfl rfl (Nat.le_of_ble_eq_true rfl) rfl dX6_graph_35 ?_
      refine k_view (V1 := gv_up V q1 (.inr (2, [.int (nI 12), .int y, .int (-1 : Int32), .int 0, .int 0, .int 0, .int 0, .int 0, .int 0, .int 0, .int 0, .int 0, .int 0, .int x]))) gv_uu ?_
      refine k_aload_n C dX6_graph_38 rfl 1 rfl ?_
      refine k_get (ci := 6) (k := 3) C fl_6_30 ((gv_up_n ne2).trans h_ob) rfl dX6_graph_39 ?_
      refine k_aload_n C dX6_graph_42 rfl 0 rfl ?_
      refine k_callV_pi C mv_6_97 (c_X3_add  ((gv_up_n ne3).trans h_nd) ((gv_up_n ne4).trans h_nl) gv_up_s (by simp_all; omega)) ((gv_up_n ne3).trans h_nd) rfl rfl (by simp [Value.category]) ⟨Nat.le_of_ble_eq_true rfl, Nat.le_of_ble_eq_true rfl⟩ ⟨(by decide), (by decide)⟩ dX6_graph_43 ?_
      exact k_iret C zr zlk (Or.inl ⟨by simp_all, q1, hq1, rfl, rfl⟩) (by decide) (by decide) dX6_graph_46
    · skip
      have b16 : (!decide (nn = 30) && blw y (nI nn)) = false := bI_0.mp c16
      refine k_iconst (v := (-1 : Int32)) C dX6_graph_19 (by decide) ?_
      exact k_iret C zr zlk (Or.inr ⟨by simp_all, rfl, rfl⟩) (by decide) (by decide) dX6_graph_20
set_option maxHeartbeats 4000000 in
set_option maxRecDepth 100000 in
theorem c_X6_graphs {zl : Launch} {D : va_G} {cI cN cR : ClassId} {base : Nat} {V : gv_V} {ob mo tr xe td : Nat} {nd nl nn : Nat} {nf : Nat → Option Nat} {x y : Int32}  (h_ob : V ob = some (.inr (6, [.ref mo, .ref tr, .ref xe, .ref nd, .ref td]))) (h_nd : V nd = some (.inr (3, [.ref nl, .int (nI nn)]))) (h_nl : V nl = some (.inl (cN, 30, .inr (.inr (.inr (.inr nf)))))) (hnn : nn ≤ 30) : ct zl D [(cI, .int), (cN, .object "AlgebraTree$Node"), (cR, .object "AlgebraTree$Rows")] base yX6_graphs cX6_graphs 4 (some .int) 3 1 14 [.ref ob, .int x, .int y] V (fun zv zV => ((blw x (nI 6) && (!decide (nn = 30) && blw y (nI nn))) = true ∧ ∃ no, V no = none ∧ zv = some (.int (nI nn)) ∧ zV = gv_up (gv_up (gv_up V no (.inr (2, [.int (nI 13), .int y, .int (-1 : Int32), .int 0, .int 0, .int 0, .int 0, .int x, .int 0, .int 0, .int 0, .int 0, .int 0, .int 0]))) nl (.inl (cN, 30, .inr (.inr (.inr (.inr (va_up nf nn (some no)))))))) nd (.inr (3, [.ref nl, .int (nI (nn + 1))]))) ∨ ((blw x (nI 6) && (!decide (nn = 30) && blw y (nI nn))) = false ∧ zv = some (.int (-1 : Int32)) ∧ zV = V)) := by
  refine ct_of "AlgebraTree" rfl (by decide) (Nat.le_of_ble_eq_true rfl) ?_
  intro zp ze zs zm zargs zbelow zmeth zc C zr zlk znm
  refine k_pc (pc' := 0) (st' := []) rfl rfl ?_
  show K zp zl ze (gv_rm 3 1 14) zs zm zargs zbelow zmeth zc D base 4 (gv_E D [(cI, .int), (cN, .object "AlgebraTree$Node"), (cR, .object "AlgebraTree$Rows")] base zbelow zargs zs 1 14 (fun zv zV => ((blw x (nI 6) && (!decide (nn = 30) && blw y (nI nn))) = true ∧ ∃ no, V no = none ∧ zv = some (.int (nI nn)) ∧ zV = gv_up (gv_up (gv_up V no (.inr (2, [.int (nI 13), .int y, .int (-1 : Int32), .int 0, .int 0, .int 0, .int 0, .int x, .int 0, .int 0, .int 0, .int 0, .int 0, .int 0]))) nl (.inl (cN, 30, .inr (.inr (.inr (.inr (va_up nf nn (some no)))))))) nd (.inr (3, [.ref nl, .int (nI (nn + 1))]))) ∨ ((blw x (nI 6) && (!decide (nn = 30) && blw y (nI nn))) = false ∧ zv = some (.int (-1 : Int32)) ∧ zV = V))) V 0 0 [(0, .ref ob), (1, .int x), (2, .int y)] 0 []
  refine k_iload_n C dX6_graphs_0 rfl 1 rfl ?_
  refine k_callS_pi C ms_6_59 (c_X6_isVariable   ) rfl rfl (by simp [Value.category]) ⟨Nat.le_of_ble_eq_true rfl, Nat.le_of_ble_eq_true rfl⟩ ⟨(by decide), (by decide)⟩ dX6_graphs_1 ?_
  refine k_if_eq (tgt := 18) C dX6_graphs_4 (by decide) (fun c4 => ?_) (fun c4 => ?_)
  · skip
    have b4 : (blw x (nI 6)) = false := bI_0.mp c4
    refine k_iconst (v := (-1 : Int32)) C dX6_graphs_18 (by decide) ?_
    exact k_iret C zr zlk (Or.inr ⟨by simp_all, rfl, rfl⟩) (by decide) (by decide) dX6_graphs_19
  · skip
    have b4 : (blw x (nI 6)) = true := bI_n.mp c4
    refine k_aload_n C dX6_graphs_7 rfl 0 rfl ?_
    refine k_get (ci := 6) (k := 3) C fl_6_30 h_ob rfl dX6_graphs_8 ?_
    refine k_iload_n C dX6_graphs_11 rfl 2 rfl ?_
    refine k_callV_pi C mv_6_100 (c_X3_canStandOver  h_nd (by first | assumption | omega)) h_nd rfl rfl (by simp [Value.category]) ⟨Nat.le_of_ble_eq_true rfl, Nat.le_of_ble_eq_true rfl⟩ ⟨(by decide), (by decide)⟩ dX6_graphs_12 ?_
    refine k_if_ne (tgt := 20) C dX6_graphs_15 (by decide) (fun c15 => ?_) (fun c15 => ?_)
    · skip
      have b15 : (!decide (nn = 30) && blw y (nI nn)) = true := bI_n.mp c15
      refine k_new C nw_6_82 (by decide) (by decide) dX6_graphs_20 (fun q1 hq1 => ?_)
      have ne2 : nq ob q1 := gv_nf hq1 h_ob
      have ne3 : nq nd q1 := gv_nf hq1 h_nd
      have ne4 : nq nl q1 := gv_nf hq1 h_nl
      refine k_dup C dX6_graphs_23 rfl ?_
      refine k_bipush (v := nI 13) C dX6_graphs_24 rfl ?_
      refine k_iload_n C dX6_graphs_26 rfl 2 rfl ?_
      refine k_iconst (v := (-1 : Int32)) C dX6_graphs_27 (by decide) ?_
      refine k_callI_pv C mi_6_84 (c_X2_init  gv_up_s ) rfl rfl (by simp [Value.category]) ⟨Nat.le_of_ble_eq_true rfl, Nat.le_of_ble_eq_true rfl⟩ ⟨(by decide), (by decide)⟩ dX6_graphs_28 ?_
      refine k_view (V1 := gv_up V q1 (.inr (2, [.int (nI 13), .int y, .int (-1 : Int32), .int 0, .int 0, .int 0, .int 0, .int 0, .int 0, .int 0, .int 0, .int 0, .int 0, .int 0]))) gv_uu ?_
      refine k_astore_n (lv' := [(3, .ref q1), (0, .ref ob), (1, .int x), (2, .int y)]) C dX6_graphs_31 rfl (by decide) rfl ?_
      refine k_aload_n C dX6_graphs_32 rfl 0 rfl ?_
      refine k_iload_n C dX6_graphs_33 rfl 2 rfl ?_
      refine k_put (ci := 2) (k := 7) (fs' := [.int (nI 13), .int y, .int (-1 : Int32), .int 0, .int 0, .int 0, .int 0, .int x, .int 0, .int 0, .int 0, .int 0, .int 0, .int 0]) C fl_6_107 pf_2_7 gv_up_s rfl rfl (Nat.le_of_ble_eq_true rfl) rfl dX6_graphs_34 ?_
      refine k_view (V1 := gv_up V q1 (.inr (2, [.int (nI 13), .int y, .int (-1 : Int32), .int 0, .int 0, .int 0, .int 0, .int x, .int 0, .int 0, .int 0, .int 0, .int 0, .int 0]))) gv_uu ?_
      refine k_aload_n C dX6_graphs_37 rfl 1 rfl ?_
      refine k_get (ci := 6) (k := 3) C fl_6_30 ((gv_up_n ne2).trans h_ob) rfl dX6_graphs_38 ?_
      refine k_aload_n C dX6_graphs_41 rfl 0 rfl ?_
      refine k_callV_pi C mv_6_97 (c_X3_add  ((gv_up_n ne3).trans h_nd) ((gv_up_n ne4).trans h_nl) gv_up_s (by simp_all; omega)) ((gv_up_n ne3).trans h_nd) rfl rfl (by simp [Value.category]) ⟨Nat.le_of_ble_eq_true rfl, Nat.le_of_ble_eq_true rfl⟩ ⟨(by decide), (by decide)⟩ dX6_graphs_42 ?_
      exact k_iret C zr zlk (Or.inl ⟨by simp_all, q1, hq1, rfl, rfl⟩) (by decide) (by decide) dX6_graphs_45
    · skip
      have b15 : (!decide (nn = 30) && blw y (nI nn)) = false := bI_0.mp c15
      refine k_iconst (v := (-1 : Int32)) C dX6_graphs_18 (by decide) ?_
      exact k_iret C zr zlk (Or.inr ⟨by simp_all, rfl, rfl⟩) (by decide) (by decide) dX6_graphs_19
set_option maxHeartbeats 4000000 in
set_option maxRecDepth 100000 in
theorem c_X6_triple {zl : Launch} {D : va_G} {cI cN cR : ClassId} {base : Nat} {V : gv_V} {ob mo xe nd td : Nat} {tr : Nat} {tga tsa tpa tqa nt : Nat} {tg ts tp tq : Nat → Int32} {x y z w : Int32} {T : List Tr}  (h_ob : V ob = some (.inr (6, [.ref mo, .ref tr, .ref xe, .ref nd, .ref td]))) (h_tr : V tr = some (.inr (5, [.ref tga, .ref tsa, .ref tpa, .ref tqa, .int (nI nt)]))) (h_tga : V tga = some (.inl (cI, 60, .inl tg))) (h_tsa : V tsa = some (.inl (cI, 60, .inl ts))) (h_tpa : V tpa = some (.inl (cI, 60, .inl tp))) (h_tqa : V tqa = some (.inl (cI, 60, .inl tq))) (hT : TrR T nt tg ts tp tq) (hdt : [tga, tsa, tpa, tqa].Nodup) : ct zl D [(cI, .int), (cN, .object "AlgebraTree$Node"), (cR, .object "AlgebraTree$Rows")] base yX6_triple cX6_triple 5 (some .int) 2 0 0 [.ref ob, .int x, .int y, .int z, .int w] V (fun zv zV => ((blw x (nI 4) && blw y (nI 1000) && blw z (nI 1000) && blw w (nI 1000) && !decide (nt = 60) && !trIn T (x, y, z, w)) = true ∧ zv = some (.int (nI nt)) ∧ zV = gv_up (gv_up (gv_up (gv_up (gv_up V tga (.inl (cI, 60, .inl (upd tg nt x)))) tsa (.inl (cI, 60, .inl (upd ts nt y)))) tpa (.inl (cI, 60, .inl (upd tp nt z)))) tqa (.inl (cI, 60, .inl (upd tq nt w)))) tr (.inr (5, [.ref tga, .ref tsa, .ref tpa, .ref tqa, .int (nI (nt + 1))]))) ∨ ((blw x (nI 4) && blw y (nI 1000) && blw z (nI 1000) && blw w (nI 1000) && !decide (nt = 60) && !trIn T (x, y, z, w)) = false ∧ zv = some (.int (-1 : Int32)) ∧ zV = V)) := by
  refine ct_of "AlgebraTree" rfl (by decide) (Nat.le_of_ble_eq_true rfl) ?_
  intro zp ze zs zm zargs zbelow zmeth zc C zr zlk znm
  refine k_pc (pc' := 0) (st' := []) rfl rfl ?_
  show K zp zl ze (gv_rm 2 0 0) zs zm zargs zbelow zmeth zc D base 5 (gv_E D [(cI, .int), (cN, .object "AlgebraTree$Node"), (cR, .object "AlgebraTree$Rows")] base zbelow zargs zs 0 0 (fun zv zV => ((blw x (nI 4) && blw y (nI 1000) && blw z (nI 1000) && blw w (nI 1000) && !decide (nt = 60) && !trIn T (x, y, z, w)) = true ∧ zv = some (.int (nI nt)) ∧ zV = gv_up (gv_up (gv_up (gv_up (gv_up V tga (.inl (cI, 60, .inl (upd tg nt x)))) tsa (.inl (cI, 60, .inl (upd ts nt y)))) tpa (.inl (cI, 60, .inl (upd tp nt z)))) tqa (.inl (cI, 60, .inl (upd tq nt w)))) tr (.inr (5, [.ref tga, .ref tsa, .ref tpa, .ref tqa, .int (nI (nt + 1))]))) ∨ ((blw x (nI 4) && blw y (nI 1000) && blw z (nI 1000) && blw w (nI 1000) && !decide (nt = 60) && !trIn T (x, y, z, w)) = false ∧ zv = some (.int (-1 : Int32)) ∧ zV = V))) V 0 0 [(0, .ref ob), (1, .int x), (2, .int y), (3, .int z), (4, .int w)] 0 []
  have hT2 := hT.2.1
  refine k_iload_n C dX6_triple_0 rfl 1 rfl ?_
  refine k_iconst (v := nI 4) C dX6_triple_1 rfl ?_
  refine k_callS_pi C ms_6_38 (c_X6_isBelow   ) rfl rfl (by simp [Value.category]) ⟨Nat.le_of_ble_eq_true rfl, Nat.le_of_ble_eq_true rfl⟩ ⟨(by decide), (by decide)⟩ dX6_triple_2 ?_
  refine k_if_eq (tgt := 30) C dX6_triple_5 (by decide) (fun c5 => ?_) (fun c5 => ?_)
  · skip
    have b5 : (blw x (nI 4)) = false := bI_0.mp c5
    refine k_iconst (v := (-1 : Int32)) C dX6_triple_30 (by decide) ?_
    exact k_iret C zr zlk (Or.inr ⟨by simp_all, rfl, rfl⟩) (Nat.le_refl _) (Nat.le_refl _) dX6_triple_31
  · skip
    have b5 : (blw x (nI 4)) = true := bI_n.mp c5
    refine k_iload_n C dX6_triple_8 rfl 2 rfl ?_
    refine k_callS_pi C ms_6_42 (c_X6_isTerm   ) rfl rfl (by simp [Value.category]) ⟨Nat.le_of_ble_eq_true rfl, Nat.le_of_ble_eq_true rfl⟩ ⟨(by decide), (by decide)⟩ dX6_triple_9 ?_
    refine k_if_eq (tgt := 30) C dX6_triple_12 (by decide) (fun c12 => ?_) (fun c12 => ?_)
    · skip
      have b12 : (blw y (nI 1000)) = false := bI_0.mp c12
      refine k_iconst (v := (-1 : Int32)) C dX6_triple_30 (by decide) ?_
      exact k_iret C zr zlk (Or.inr ⟨by simp_all, rfl, rfl⟩) (Nat.le_refl _) (Nat.le_refl _) dX6_triple_31
    · skip
      have b12 : (blw y (nI 1000)) = true := bI_n.mp c12
      refine k_iload_n C dX6_triple_15 rfl 3 rfl ?_
      refine k_callS_pi C ms_6_42 (c_X6_isTerm   ) rfl rfl (by simp [Value.category]) ⟨Nat.le_of_ble_eq_true rfl, Nat.le_of_ble_eq_true rfl⟩ ⟨(by decide), (by decide)⟩ dX6_triple_16 ?_
      refine k_if_eq (tgt := 30) C dX6_triple_19 (by decide) (fun c19 => ?_) (fun c19 => ?_)
      · skip
        have b19 : (blw z (nI 1000)) = false := bI_0.mp c19
        refine k_iconst (v := (-1 : Int32)) C dX6_triple_30 (by decide) ?_
        exact k_iret C zr zlk (Or.inr ⟨by simp_all, rfl, rfl⟩) (Nat.le_refl _) (Nat.le_refl _) dX6_triple_31
      · skip
        have b19 : (blw z (nI 1000)) = true := bI_n.mp c19
        refine k_iload C dX6_triple_22 4 rfl ?_
        refine k_callS_pi C ms_6_42 (c_X6_isTerm   ) rfl rfl (by simp [Value.category]) ⟨Nat.le_of_ble_eq_true rfl, Nat.le_of_ble_eq_true rfl⟩ ⟨(by decide), (by decide)⟩ dX6_triple_24 ?_
        refine k_if_ne (tgt := 32) C dX6_triple_27 (by decide) (fun c27 => ?_) (fun c27 => ?_)
        · skip
          have b27 : (blw w (nI 1000)) = true := bI_n.mp c27
          refine k_aload_n C dX6_triple_32 rfl 0 rfl ?_
          refine k_get (ci := 6) (k := 1) C fl_6_20 h_ob rfl dX6_triple_33 ?_
          refine k_iload_n C dX6_triple_36 rfl 1 rfl ?_
          refine k_iload_n C dX6_triple_37 rfl 2 rfl ?_
          refine k_iload_n C dX6_triple_38 rfl 3 rfl ?_
          refine k_iload C dX6_triple_39 4 rfl ?_
          by_cases hf : nt = 60
          · skip
            refine k_callV_pi C mv_6_46 (c_trAddN  h_tr h_tga h_tsa h_tpa h_tqa (by first | assumption | omega) (by first | exact Or.inl hf | exact Or.inr hin)) h_tr rfl rfl (by simp [Value.category]) ⟨Nat.le_of_ble_eq_true rfl, Nat.le_of_ble_eq_true rfl⟩ ⟨(by decide), (by decide)⟩ dX6_triple_41 ?_
            exact k_iret C zr zlk (Or.inr ⟨by simp_all, rfl, rfl⟩) (Nat.le_refl _) (Nat.le_refl _) dX6_triple_44
          · skip
            by_cases hin : trIn T (x, y, z, w) = true
            · skip
              refine k_callV_pi C mv_6_46 (c_trAddN  h_tr h_tga h_tsa h_tpa h_tqa (by first | assumption | omega) (by first | exact Or.inl hf | exact Or.inr hin)) h_tr rfl rfl (by simp [Value.category]) ⟨Nat.le_of_ble_eq_true rfl, Nat.le_of_ble_eq_true rfl⟩ ⟨(by decide), (by decide)⟩ dX6_triple_41 ?_
              exact k_iret C zr zlk (Or.inr ⟨by simp_all, rfl, rfl⟩) (Nat.le_refl _) (Nat.le_refl _) dX6_triple_44
            · skip
              have hin2 : trIn T (x, y, z, w) = false := by simpa using hin
              refine k_callV_pi C mv_6_46 (c_trAdd  h_tr h_tga h_tsa h_tpa h_tqa (by first | assumption | omega) (by omega) hin2 (by first | assumption | omega)) h_tr rfl rfl (by simp [Value.category]) ⟨Nat.le_of_ble_eq_true rfl, Nat.le_of_ble_eq_true rfl⟩ ⟨(by decide), (by decide)⟩ dX6_triple_41 ?_
              exact k_iret C zr zlk (Or.inl ⟨by simp_all, rfl, rfl⟩) (Nat.le_refl _) (Nat.le_refl _) dX6_triple_44
        · skip
          have b27 : (blw w (nI 1000)) = false := bI_0.mp c27
          refine k_iconst (v := (-1 : Int32)) C dX6_triple_30 (by decide) ?_
          exact k_iret C zr zlk (Or.inr ⟨by simp_all, rfl, rfl⟩) (Nat.le_refl _) (Nat.le_refl _) dX6_triple_31
set_option maxHeartbeats 4000000 in
set_option maxRecDepth 100000 in
theorem c_X6_leaf {zl : Launch} {D : va_G} {cI cN cR : ClassId} {base : Nat} {V : gv_V} {ob mo tr nd td : Nat} {xe ak af as ap av ne : Nat} {kd fs sc pt vl : Nat → Int32} {x y : Int32}  (h_ob : V ob = some (.inr (6, [.ref mo, .ref tr, .ref xe, .ref nd, .ref td]))) (h_xe : V xe = some (.inr (0, [.ref ak, .ref af, .ref as, .ref ap, .ref av, .int (nI ne)]))) (h_ak : V ak = some (.inl (cI, 30, .inl kd))) (h_af : V af = some (.inl (cI, 30, .inl fs))) (h_as : V as = some (.inl (cI, 30, .inl sc))) (h_ap : V ap = some (.inl (cI, 30, .inl pt))) (h_av : V av = some (.inl (cI, 30, .inl vl))) (hne : ne ≤ 30) (hd : [ak, af, as, ap, av].Nodup) : ct zl D [(cI, .int), (cN, .object "AlgebraTree$Node"), (cR, .object "AlgebraTree$Rows")] base yX6_leaf cX6_leaf 4 (some .int) 2 0 0 [.ref ob, .int x, .int y] V (fun zv zV => ((blw x (nI 3) && (if x = 0 then wtn y.toInt64 (1000000 : Int32) else blw y (nI 6)) && !decide (ne = 30)) = true ∧ zv = some (.int (nI ne)) ∧ zV = gv_up (gv_up (gv_up (gv_up (gv_up V ak (.inl (cI, 30, .inl (upd kd ne (nI (9 + tn x)))))) af (.inl (cI, 30, .inl (upd fs ne y)))) as (.inl (cI, 30, .inl (upd sc ne (nI 0))))) ap (.inl (cI, 30, .inl (upd pt ne (nI 0 ||| nI 1 <<< (nI ne &&& 31)))))) xe (.inr (0, [.ref ak, .ref af, .ref as, .ref ap, .ref av, .int (nI (ne + 1))]))) ∨ ((blw x (nI 3) && (if x = 0 then wtn y.toInt64 (1000000 : Int32) else blw y (nI 6)) && !decide (ne = 30)) = false ∧ zv = some (.int (-1 : Int32)) ∧ zV = V)) := by
  refine ct_of "AlgebraTree" rfl (by decide) (Nat.le_of_ble_eq_true rfl) ?_
  intro zp ze zs zm zargs zbelow zmeth zc C zr zlk znm
  refine k_pc (pc' := 0) (st' := []) rfl rfl ?_
  show K zp zl ze (gv_rm 2 0 0) zs zm zargs zbelow zmeth zc D base 4 (gv_E D [(cI, .int), (cN, .object "AlgebraTree$Node"), (cR, .object "AlgebraTree$Rows")] base zbelow zargs zs 0 0 (fun zv zV => ((blw x (nI 3) && (if x = 0 then wtn y.toInt64 (1000000 : Int32) else blw y (nI 6)) && !decide (ne = 30)) = true ∧ zv = some (.int (nI ne)) ∧ zV = gv_up (gv_up (gv_up (gv_up (gv_up V ak (.inl (cI, 30, .inl (upd kd ne (nI (9 + tn x)))))) af (.inl (cI, 30, .inl (upd fs ne y)))) as (.inl (cI, 30, .inl (upd sc ne (nI 0))))) ap (.inl (cI, 30, .inl (upd pt ne (nI 0 ||| nI 1 <<< (nI ne &&& 31)))))) xe (.inr (0, [.ref ak, .ref af, .ref as, .ref ap, .ref av, .int (nI (ne + 1))]))) ∨ ((blw x (nI 3) && (if x = 0 then wtn y.toInt64 (1000000 : Int32) else blw y (nI 6)) && !decide (ne = 30)) = false ∧ zv = some (.int (-1 : Int32)) ∧ zV = V))) V 0 0 [(0, .ref ob), (1, .int x), (2, .int y)] 0 []
  refine k_iload_n C dX6_leaf_0 rfl 1 rfl ?_
  refine k_iconst (v := nI 3) C dX6_leaf_1 rfl ?_
  refine k_callS_pi C ms_6_38 (c_X6_isBelow   ) rfl rfl (by simp [Value.category]) ⟨Nat.le_of_ble_eq_true rfl, Nat.le_of_ble_eq_true rfl⟩ ⟨(by decide), (by decide)⟩ dX6_leaf_2 ?_
  refine k_if_ne (tgt := 10) C dX6_leaf_5 (by decide) (fun c5 => ?_) (fun c5 => ?_)
  · skip
    have b5 : (blw x (nI 3)) = true := bI_n.mp c5
    refine k_iload_n C dX6_leaf_10 rfl 1 rfl ?_
    refine k_if_ne (tgt := 24) C dX6_leaf_11 (by decide) (fun c11 => ?_) (fun c11 => ?_)
    · skip
      refine k_iload_n C dX6_leaf_24 rfl 2 rfl ?_
      refine k_callS_pi C ms_6_59 (c_X6_isVariable   ) rfl rfl (by simp [Value.category]) ⟨Nat.le_of_ble_eq_true rfl, Nat.le_of_ble_eq_true rfl⟩ ⟨(by decide), (by decide)⟩ dX6_leaf_25 ?_
      refine k_istore_n (lv' := [(3, .int (bI (blw y (nI 6)))), (0, .ref ob), (1, .int x), (2, .int y)]) C dX6_leaf_28 rfl (by decide) rfl ?_
      refine k_iload_n C dX6_leaf_29 rfl 0 rfl ?_
      refine k_if_eq (tgt := 45) C dX6_leaf_30 (by decide) (fun c30 => ?_) (fun c30 => ?_)
      · skip
        have b30 : (blw y (nI 6)) = false := bI_0.mp c30
        refine k_iconst (v := (-1 : Int32)) C dX6_leaf_45 (by decide) ?_
        exact k_iret C zr zlk (Or.inr ⟨by simp_all, rfl, rfl⟩) (Nat.le_refl _) (Nat.le_refl _) dX6_leaf_46
      · skip
        have b30 : (blw y (nI 6)) = true := bI_n.mp c30
        refine k_aload_n C dX6_leaf_33 rfl 1 rfl ?_
        refine k_get (ci := 6) (k := 2) C fl_6_25 h_ob rfl dX6_leaf_34 ?_
        refine k_iload_n C dX6_leaf_37 rfl 2 rfl ?_
        refine k_iload_n C dX6_leaf_38 rfl 3 rfl ?_
        refine k_pc (pc' := 39) (st' := [.int y, .int (nI (tn x)), .ref xe]) rfl (by rw [blw_tn b5]) ?_
        by_cases hf : ne = 30
        · skip
          refine k_callV_pi C mv_6_62 (c_addLeafN  h_xe h_ak h_af h_as h_ap h_av hf) h_xe rfl rfl (by simp [Value.category]) ⟨Nat.le_of_ble_eq_true rfl, Nat.le_of_ble_eq_true rfl⟩ ⟨(by decide), (by decide)⟩ dX6_leaf_39 ?_
          refine k_goto (tgt := 46) C dX6_leaf_42 (by decide) ?_
          exact k_iret C zr zlk (Or.inr ⟨by simp_all, rfl, rfl⟩) (Nat.le_refl _) (Nat.le_refl _) dX6_leaf_46
        · skip
          refine k_callV_pi C mv_6_62 (c_addLeaf  h_xe h_ak h_af h_as h_ap h_av (by omega) (by first | assumption | omega)) h_xe rfl rfl (by simp [Value.category]) ⟨Nat.le_of_ble_eq_true rfl, Nat.le_of_ble_eq_true rfl⟩ ⟨(by decide), (by decide)⟩ dX6_leaf_39 ?_
          refine k_goto (tgt := 46) C dX6_leaf_42 (by decide) ?_
          refine k_view (V1 := gv_up (gv_up (gv_up (gv_up (gv_up V ak (.inl (cI, 30, .inl (upd kd ne (nI (9 + tn x)))))) af (.inl (cI, 30, .inl (upd fs ne y)))) as (.inl (cI, 30, .inl (upd sc ne (nI 0))))) ap (.inl (cI, 30, .inl (upd pt ne (nI 0 ||| nI 1 <<< (nI ne &&& 31)))))) xe (.inr (0, [.ref ak, .ref af, .ref as, .ref ap, .ref av, .int (nI (ne + 1))]))) rfl ?_
          exact k_iret C zr zlk (Or.inl ⟨by simp_all, rfl, rfl⟩) (Nat.le_refl _) (Nat.le_refl _) dX6_leaf_46
    · skip
      refine k_iload_n C dX6_leaf_14 rfl 2 rfl ?_
      refine k_i2l C dX6_leaf_15 rfl ?_
      refine k_ldc (v := (1000000)) C wd_226 dX6_leaf_16 ?_
      refine k_callS_pi C ms_6_55 (c_X6_isWithin   ) rfl rfl (by simp [Value.category]) ⟨Nat.le_of_ble_eq_true rfl, Nat.le_of_ble_eq_true rfl⟩ ⟨(by decide), (by decide)⟩ dX6_leaf_18 ?_
      refine k_goto (tgt := 28) C dX6_leaf_21 (by decide) ?_
      refine k_istore_n (lv' := [(3, .int (bI (wtn y.toInt64 (1000000 : Int32)))), (0, .ref ob), (1, .int x), (2, .int y)]) C dX6_leaf_28 rfl (by decide) rfl ?_
      refine k_iload_n C dX6_leaf_29 rfl 0 rfl ?_
      refine k_if_eq (tgt := 45) C dX6_leaf_30 (by decide) (fun c30 => ?_) (fun c30 => ?_)
      · skip
        have b30 : (wtn y.toInt64 (1000000 : Int32)) = false := bI_0.mp c30
        refine k_iconst (v := (-1 : Int32)) C dX6_leaf_45 (by decide) ?_
        exact k_iret C zr zlk (Or.inr ⟨by simp_all, rfl, rfl⟩) (Nat.le_refl _) (Nat.le_refl _) dX6_leaf_46
      · skip
        have b30 : (wtn y.toInt64 (1000000 : Int32)) = true := bI_n.mp c30
        refine k_aload_n C dX6_leaf_33 rfl 1 rfl ?_
        refine k_get (ci := 6) (k := 2) C fl_6_25 h_ob rfl dX6_leaf_34 ?_
        refine k_iload_n C dX6_leaf_37 rfl 2 rfl ?_
        refine k_iload_n C dX6_leaf_38 rfl 3 rfl ?_
        refine k_pc (pc' := 39) (st' := [.int y, .int (nI (tn x)), .ref xe]) rfl (by rw [blw_tn b5]) ?_
        by_cases hf : ne = 30
        · skip
          refine k_callV_pi C mv_6_62 (c_addLeafN  h_xe h_ak h_af h_as h_ap h_av hf) h_xe rfl rfl (by simp [Value.category]) ⟨Nat.le_of_ble_eq_true rfl, Nat.le_of_ble_eq_true rfl⟩ ⟨(by decide), (by decide)⟩ dX6_leaf_39 ?_
          refine k_goto (tgt := 46) C dX6_leaf_42 (by decide) ?_
          exact k_iret C zr zlk (Or.inr ⟨by simp_all, rfl, rfl⟩) (Nat.le_refl _) (Nat.le_refl _) dX6_leaf_46
        · skip
          refine k_callV_pi C mv_6_62 (c_addLeaf  h_xe h_ak h_af h_as h_ap h_av (by omega) (by first | assumption | omega)) h_xe rfl rfl (by simp [Value.category]) ⟨Nat.le_of_ble_eq_true rfl, Nat.le_of_ble_eq_true rfl⟩ ⟨(by decide), (by decide)⟩ dX6_leaf_39 ?_
          refine k_goto (tgt := 46) C dX6_leaf_42 (by decide) ?_
          refine k_view (V1 := gv_up (gv_up (gv_up (gv_up (gv_up V ak (.inl (cI, 30, .inl (upd kd ne (nI (9 + tn x)))))) af (.inl (cI, 30, .inl (upd fs ne y)))) as (.inl (cI, 30, .inl (upd sc ne (nI 0))))) ap (.inl (cI, 30, .inl (upd pt ne (nI 0 ||| nI 1 <<< (nI ne &&& 31)))))) xe (.inr (0, [.ref ak, .ref af, .ref as, .ref ap, .ref av, .int (nI (ne + 1))]))) rfl ?_
          exact k_iret C zr zlk (Or.inl ⟨by simp_all, rfl, rfl⟩) (Nat.le_refl _) (Nat.le_refl _) dX6_leaf_46
  · skip
    have b5 : (blw x (nI 3)) = false := bI_0.mp c5
    refine k_iconst (v := (-1 : Int32)) C dX6_leaf_8 (by decide) ?_
    exact k_iret C zr zlk (Or.inr ⟨by simp_all, rfl, rfl⟩) (Nat.le_refl _) (Nat.le_refl _) dX6_leaf_9
set_option maxHeartbeats 4000000 in
set_option maxRecDepth 100000 in
theorem c_apply8 {zl : Launch} {D : va_G} {cI cN cR : ClassId} {base : Nat} {V : gv_V} {ob mo tr nd td : Nat} {xe ak af as ap av ne : Nat} {kd fs sc pt vl : Nat → Int32} {x y z : Int32}  (h_ob : V ob = some (.inr (6, [.ref mo, .ref tr, .ref xe, .ref nd, .ref td]))) (h_xe : V xe = some (.inr (0, [.ref ak, .ref af, .ref as, .ref ap, .ref av, .int (nI ne)]))) (h_ak : V ak = some (.inl (cI, 30, .inl kd))) (h_af : V af = some (.inl (cI, 30, .inl fs))) (h_as : V as = some (.inl (cI, 30, .inl sc))) (h_ap : V ap = some (.inl (cI, 30, .inl pt))) (h_av : V av = some (.inl (cI, 30, .inl vl))) (hne : ne ≤ 30) (hx : x = 8) (hd : [ak, af, as, ap, av].Nodup) : ct zl D [(cI, .int), (cN, .object "AlgebraTree$Node"), (cR, .object "AlgebraTree$Rows")] base yX6_apply cX6_apply 4 (some .int) 2 0 0 [.ref ob, .int x, .int y, .int z] V (fun zv zV => ((blw x (nI 9) && blw y (nI ne) && (x == 8 || blw z (nI ne)) && !decide (ne = 30)) = true ∧ zv = some (.int (nI ne)) ∧ zV = gv_up (gv_up (gv_up (gv_up (gv_up V ak (.inl (cI, 30, .inl (upd kd ne (nI 8))))) af (.inl (cI, 30, .inl (upd fs ne (nI (tn y)))))) as (.inl (cI, 30, .inl (upd sc ne (nI (tn y)))))) ap (.inl (cI, 30, .inl (upd pt ne ((pt (tn y) ||| pt (tn y)) ||| nI 1 <<< (nI ne &&& 31)))))) xe (.inr (0, [.ref ak, .ref af, .ref as, .ref ap, .ref av, .int (nI (ne + 1))]))) ∨ ((blw x (nI 9) && blw y (nI ne) && (x == 8 || blw z (nI ne)) && !decide (ne = 30)) = false ∧ zv = some (.int (-1 : Int32)) ∧ zV = V)) := by
  refine ct_of "AlgebraTree" rfl (by decide) (Nat.le_of_ble_eq_true rfl) ?_
  intro zp ze zs zm zargs zbelow zmeth zc C zr zlk znm
  refine k_pc (pc' := 0) (st' := []) rfl rfl ?_
  show K zp zl ze (gv_rm 2 0 0) zs zm zargs zbelow zmeth zc D base 4 (gv_E D [(cI, .int), (cN, .object "AlgebraTree$Node"), (cR, .object "AlgebraTree$Rows")] base zbelow zargs zs 0 0 (fun zv zV => ((blw x (nI 9) && blw y (nI ne) && (x == 8 || blw z (nI ne)) && !decide (ne = 30)) = true ∧ zv = some (.int (nI ne)) ∧ zV = gv_up (gv_up (gv_up (gv_up (gv_up V ak (.inl (cI, 30, .inl (upd kd ne (nI 8))))) af (.inl (cI, 30, .inl (upd fs ne (nI (tn y)))))) as (.inl (cI, 30, .inl (upd sc ne (nI (tn y)))))) ap (.inl (cI, 30, .inl (upd pt ne ((pt (tn y) ||| pt (tn y)) ||| nI 1 <<< (nI ne &&& 31)))))) xe (.inr (0, [.ref ak, .ref af, .ref as, .ref ap, .ref av, .int (nI (ne + 1))]))) ∨ ((blw x (nI 9) && blw y (nI ne) && (x == 8 || blw z (nI ne)) && !decide (ne = 30)) = false ∧ zv = some (.int (-1 : Int32)) ∧ zV = V))) V 0 0 [(0, .ref ob), (1, .int x), (2, .int y), (3, .int z)] 0 []
  refine k_iload_n C dX6_apply_0 rfl 1 rfl ?_
  refine k_bipush (v := nI 9) C dX6_apply_1 rfl ?_
  refine k_callS_pi C ms_6_38 (c_X6_isBelow   ) rfl rfl (by simp [Value.category]) ⟨Nat.le_of_ble_eq_true rfl, Nat.le_of_ble_eq_true rfl⟩ ⟨(by decide), (by decide)⟩ dX6_apply_3 ?_
  refine k_if_eq (tgt := 20) C dX6_apply_6 (by decide) (fun c6 => ?_) (fun c6 => ?_)
  · skip
    have b6 : (blw x (nI 9)) = false := bI_0.mp c6
    refine k_iconst (v := (-1 : Int32)) C dX6_apply_20 (by decide) ?_
    exact k_iret C zr zlk (Or.inr ⟨by simp_all, rfl, rfl⟩) (Nat.le_refl _) (Nat.le_refl _) dX6_apply_21
  · skip
    have b6 : (blw x (nI 9)) = true := bI_n.mp c6
    refine k_aload_n C dX6_apply_9 rfl 0 rfl ?_
    refine k_get (ci := 6) (k := 2) C fl_6_25 h_ob rfl dX6_apply_10 ?_
    refine k_iload_n C dX6_apply_13 rfl 2 rfl ?_
    refine k_callV_pi C mv_6_66 (c_X0_has  h_xe ) h_xe rfl rfl (by simp [Value.category]) ⟨Nat.le_of_ble_eq_true rfl, Nat.le_of_ble_eq_true rfl⟩ ⟨(by decide), (by decide)⟩ dX6_apply_14 ?_
    refine k_if_ne (tgt := 22) C dX6_apply_17 (by decide) (fun c17 => ?_) (fun c17 => ?_)
    · skip
      have b17 : (blw y (nI ne)) = true := bI_n.mp c17
      refine k_iload_n C dX6_apply_22 rfl 1 rfl ?_
      refine k_bipush (v := nI 8) C dX6_apply_23 rfl ?_
      refine k_icmp_ne (tgt := 39) C dX6_apply_25 (by decide) (fun c25 => ?_) (fun c25 => ?_)
      · skip
        exact absurd hx c25
      · skip
        refine k_aload_n C dX6_apply_28 rfl 0 rfl ?_
        refine k_get (ci := 6) (k := 2) C fl_6_25 h_ob rfl dX6_apply_29 ?_
        refine k_iload_n C dX6_apply_32 rfl 1 rfl ?_
        refine k_iload_n C dX6_apply_33 rfl 2 rfl ?_
        refine k_iload_n C dX6_apply_34 rfl 2 rfl ?_
        refine k_pc (pc' := 35) (st' := [.int (nI (tn y)), .int (nI (tn y)), .int (nI 8), .ref xe]) rfl (by rw [blw_tn b17, c25]) ?_
        by_cases hf : ne = 30
        · skip
          refine k_callV_pi C mv_6_69 (c_addOpN  h_xe h_ak h_af h_as h_ap h_av hf (Nat.lt_of_lt_of_le (blw_lt (by omega) b17) hne) (Nat.lt_of_lt_of_le (blw_lt (by omega) b17) hne)) h_xe rfl rfl (by simp [Value.category]) ⟨Nat.le_of_ble_eq_true rfl, Nat.le_of_ble_eq_true rfl⟩ ⟨(by decide), (by decide)⟩ dX6_apply_35 ?_
          exact k_iret C zr zlk (Or.inr ⟨by simp_all, rfl, rfl⟩) (Nat.le_refl _) (Nat.le_refl _) dX6_apply_38
        · skip
          refine k_callV_pi C mv_6_69 (c_addOp  h_xe h_ak h_af h_as h_ap h_av (by omega) (by first | assumption | omega) (Nat.lt_of_lt_of_le (blw_lt (by omega) b17) hne) (Nat.lt_of_lt_of_le (blw_lt (by omega) b17) hne)) h_xe rfl rfl (by simp [Value.category]) ⟨Nat.le_of_ble_eq_true rfl, Nat.le_of_ble_eq_true rfl⟩ ⟨(by decide), (by decide)⟩ dX6_apply_35 ?_
          exact k_iret C zr zlk (Or.inl ⟨by simp_all, rfl, rfl⟩) (Nat.le_refl _) (Nat.le_refl _) dX6_apply_38
    · skip
      have b17 : (blw y (nI ne)) = false := bI_0.mp c17
      refine k_iconst (v := (-1 : Int32)) C dX6_apply_20 (by decide) ?_
      exact k_iret C zr zlk (Or.inr ⟨by simp_all, rfl, rfl⟩) (Nat.le_refl _) (Nat.le_refl _) dX6_apply_21
set_option maxHeartbeats 4000000 in
set_option maxRecDepth 100000 in
theorem c_apply {zl : Launch} {D : va_G} {cI cN cR : ClassId} {base : Nat} {V : gv_V} {ob mo tr nd td : Nat} {xe ak af as ap av ne : Nat} {kd fs sc pt vl : Nat → Int32} {x y z : Int32}  (h_ob : V ob = some (.inr (6, [.ref mo, .ref tr, .ref xe, .ref nd, .ref td]))) (h_xe : V xe = some (.inr (0, [.ref ak, .ref af, .ref as, .ref ap, .ref av, .int (nI ne)]))) (h_ak : V ak = some (.inl (cI, 30, .inl kd))) (h_af : V af = some (.inl (cI, 30, .inl fs))) (h_as : V as = some (.inl (cI, 30, .inl sc))) (h_ap : V ap = some (.inl (cI, 30, .inl pt))) (h_av : V av = some (.inl (cI, 30, .inl vl))) (hne : ne ≤ 30) (hx : ¬ x = 8) (hd : [ak, af, as, ap, av].Nodup) : ct zl D [(cI, .int), (cN, .object "AlgebraTree$Node"), (cR, .object "AlgebraTree$Rows")] base yX6_apply cX6_apply 4 (some .int) 2 0 0 [.ref ob, .int x, .int y, .int z] V (fun zv zV => ((blw x (nI 9) && blw y (nI ne) && (x == 8 || blw z (nI ne)) && !decide (ne = 30)) = true ∧ zv = some (.int (nI ne)) ∧ zV = gv_up (gv_up (gv_up (gv_up (gv_up V ak (.inl (cI, 30, .inl (upd kd ne (nI (tn x)))))) af (.inl (cI, 30, .inl (upd fs ne (nI (tn y)))))) as (.inl (cI, 30, .inl (upd sc ne (nI (tn z)))))) ap (.inl (cI, 30, .inl (upd pt ne ((pt (tn y) ||| pt (tn z)) ||| nI 1 <<< (nI ne &&& 31)))))) xe (.inr (0, [.ref ak, .ref af, .ref as, .ref ap, .ref av, .int (nI (ne + 1))]))) ∨ ((blw x (nI 9) && blw y (nI ne) && (x == 8 || blw z (nI ne)) && !decide (ne = 30)) = false ∧ zv = some (.int (-1 : Int32)) ∧ zV = V)) := by
  refine ct_of "AlgebraTree" rfl (by decide) (Nat.le_of_ble_eq_true rfl) ?_
  intro zp ze zs zm zargs zbelow zmeth zc C zr zlk znm
  refine k_pc (pc' := 0) (st' := []) rfl rfl ?_
  show K zp zl ze (gv_rm 2 0 0) zs zm zargs zbelow zmeth zc D base 4 (gv_E D [(cI, .int), (cN, .object "AlgebraTree$Node"), (cR, .object "AlgebraTree$Rows")] base zbelow zargs zs 0 0 (fun zv zV => ((blw x (nI 9) && blw y (nI ne) && (x == 8 || blw z (nI ne)) && !decide (ne = 30)) = true ∧ zv = some (.int (nI ne)) ∧ zV = gv_up (gv_up (gv_up (gv_up (gv_up V ak (.inl (cI, 30, .inl (upd kd ne (nI (tn x)))))) af (.inl (cI, 30, .inl (upd fs ne (nI (tn y)))))) as (.inl (cI, 30, .inl (upd sc ne (nI (tn z)))))) ap (.inl (cI, 30, .inl (upd pt ne ((pt (tn y) ||| pt (tn z)) ||| nI 1 <<< (nI ne &&& 31)))))) xe (.inr (0, [.ref ak, .ref af, .ref as, .ref ap, .ref av, .int (nI (ne + 1))]))) ∨ ((blw x (nI 9) && blw y (nI ne) && (x == 8 || blw z (nI ne)) && !decide (ne = 30)) = false ∧ zv = some (.int (-1 : Int32)) ∧ zV = V))) V 0 0 [(0, .ref ob), (1, .int x), (2, .int y), (3, .int z)] 0 []
  refine k_iload_n C dX6_apply_0 rfl 1 rfl ?_
  refine k_bipush (v := nI 9) C dX6_apply_1 rfl ?_
  refine k_callS_pi C ms_6_38 (c_X6_isBelow   ) rfl rfl (by simp [Value.category]) ⟨Nat.le_of_ble_eq_true rfl, Nat.le_of_ble_eq_true rfl⟩ ⟨(by decide), (by decide)⟩ dX6_apply_3 ?_
  refine k_if_eq (tgt := 20) C dX6_apply_6 (by decide) (fun c6 => ?_) (fun c6 => ?_)
  · skip
    have b6 : (blw x (nI 9)) = false := bI_0.mp c6
    refine k_iconst (v := (-1 : Int32)) C dX6_apply_20 (by decide) ?_
    exact k_iret C zr zlk (Or.inr ⟨by simp_all, rfl, rfl⟩) (Nat.le_refl _) (Nat.le_refl _) dX6_apply_21
  · skip
    have b6 : (blw x (nI 9)) = true := bI_n.mp c6
    refine k_aload_n C dX6_apply_9 rfl 0 rfl ?_
    refine k_get (ci := 6) (k := 2) C fl_6_25 h_ob rfl dX6_apply_10 ?_
    refine k_iload_n C dX6_apply_13 rfl 2 rfl ?_
    refine k_callV_pi C mv_6_66 (c_X0_has  h_xe ) h_xe rfl rfl (by simp [Value.category]) ⟨Nat.le_of_ble_eq_true rfl, Nat.le_of_ble_eq_true rfl⟩ ⟨(by decide), (by decide)⟩ dX6_apply_14 ?_
    refine k_if_ne (tgt := 22) C dX6_apply_17 (by decide) (fun c17 => ?_) (fun c17 => ?_)
    · skip
      have b17 : (blw y (nI ne)) = true := bI_n.mp c17
      refine k_iload_n C dX6_apply_22 rfl 1 rfl ?_
      refine k_bipush (v := nI 8) C dX6_apply_23 rfl ?_
      refine k_icmp_ne (tgt := 39) C dX6_apply_25 (by decide) (fun c25 => ?_) (fun c25 => ?_)
      · skip
        refine k_aload_n C dX6_apply_39 rfl 0 rfl ?_
        refine k_get (ci := 6) (k := 2) C fl_6_25 h_ob rfl dX6_apply_40 ?_
        refine k_iload_n C dX6_apply_43 rfl 3 rfl ?_
        refine k_callV_pi C mv_6_66 (c_X0_has  h_xe ) h_xe rfl rfl (by simp [Value.category]) ⟨Nat.le_of_ble_eq_true rfl, Nat.le_of_ble_eq_true rfl⟩ ⟨(by decide), (by decide)⟩ dX6_apply_44 ?_
        refine k_if_eq (tgt := 63) C dX6_apply_47 (by decide) (fun c47 => ?_) (fun c47 => ?_)
        · skip
          have b47 : (blw z (nI ne)) = false := bI_0.mp c47
          refine k_iconst (v := (-1 : Int32)) C dX6_apply_63 (by decide) ?_
          exact k_iret C zr zlk (Or.inr ⟨by simp_all, rfl, rfl⟩) (Nat.le_refl _) (Nat.le_refl _) dX6_apply_64
        · skip
          have b47 : (blw z (nI ne)) = true := bI_n.mp c47
          refine k_aload_n C dX6_apply_50 rfl 0 rfl ?_
          refine k_get (ci := 6) (k := 2) C fl_6_25 h_ob rfl dX6_apply_51 ?_
          refine k_iload_n C dX6_apply_54 rfl 1 rfl ?_
          refine k_iload_n C dX6_apply_55 rfl 2 rfl ?_
          refine k_iload_n C dX6_apply_56 rfl 3 rfl ?_
          refine k_pc (pc' := 57) (st' := [.int (nI (tn z)), .int (nI (tn y)), .int (nI (tn x)), .ref xe]) rfl (by rw [blw_tn b17, blw_tn b47, blw_tn b6]) ?_
          by_cases hf : ne = 30
          · skip
            refine k_callV_pi C mv_6_69 (c_addOpN  h_xe h_ak h_af h_as h_ap h_av hf (Nat.lt_of_lt_of_le (blw_lt (by omega) b17) hne) (Nat.lt_of_lt_of_le (blw_lt (by omega) b47) hne)) h_xe rfl rfl (by simp [Value.category]) ⟨Nat.le_of_ble_eq_true rfl, Nat.le_of_ble_eq_true rfl⟩ ⟨(by decide), (by decide)⟩ dX6_apply_57 ?_
            refine k_goto (tgt := 64) C dX6_apply_60 (by decide) ?_
            exact k_iret C zr zlk (Or.inr ⟨by simp_all, rfl, rfl⟩) (Nat.le_refl _) (Nat.le_refl _) dX6_apply_64
          · skip
            refine k_callV_pi C mv_6_69 (c_addOp  h_xe h_ak h_af h_as h_ap h_av (by omega) (by first | assumption | omega) (Nat.lt_of_lt_of_le (blw_lt (by omega) b17) hne) (Nat.lt_of_lt_of_le (blw_lt (by omega) b47) hne)) h_xe rfl rfl (by simp [Value.category]) ⟨Nat.le_of_ble_eq_true rfl, Nat.le_of_ble_eq_true rfl⟩ ⟨(by decide), (by decide)⟩ dX6_apply_57 ?_
            refine k_goto (tgt := 64) C dX6_apply_60 (by decide) ?_
            exact k_iret C zr zlk (Or.inl ⟨by simp_all, rfl, rfl⟩) (Nat.le_refl _) (Nat.le_refl _) dX6_apply_64
      · skip
        exact absurd c25 (by exact fun h => hx h)
    · skip
      have b17 : (blw y (nI ne)) = false := bI_0.mp c17
      refine k_iconst (v := (-1 : Int32)) C dX6_apply_20 (by decide) ?_
      exact k_iret C zr zlk (Or.inr ⟨by simp_all, rfl, rfl⟩) (Nat.le_refl _) (Nat.le_refl _) dX6_apply_21
set_option maxHeartbeats 4000000 in
set_option maxRecDepth 100000 in
theorem c_X6_value {zl : Launch} {D : va_G} {cI cN cR : ClassId} {base : Nat} {V : gv_V} {ob mo tr xe nd : Nat} {a c n : Nat} {tl mk : Int32} {f : Nat → Int32} {x y : Int32}  (h_ob : V ob = some (.inr (6, [.ref mo, .ref tr, .ref xe, .ref nd, .ref a]))) (h_a : V a = some (.inr (4, [.ref c, .int (nI n), .int tl, .int mk]))) (h_c : V c = some (.inl (cI, 486, .inl f))) (hn : n ≤ 80) : ct zl D [(cI, .int), (cN, .object "AlgebraTree$Node"), (cR, .object "AlgebraTree$Rows")] base yX6_value cX6_value 3 (some .int) 2 0 0 [.ref ob, .int x, .int y] V (pi (if (blw x (nI n) && blw y (nI 6)) = true then rwf f (tn x) (tn y) else oE) V) := by
  refine ct_of "AlgebraTree" rfl (by decide) (Nat.le_of_ble_eq_true rfl) ?_
  intro zp ze zs zm zargs zbelow zmeth zc C zr zlk znm
  refine k_pc (pc' := 0) (st' := []) rfl rfl ?_
  show K zp zl ze (gv_rm 2 0 0) zs zm zargs zbelow zmeth zc D base 3 (gv_E D [(cI, .int), (cN, .object "AlgebraTree$Node"), (cR, .object "AlgebraTree$Rows")] base zbelow zargs zs 0 0 (pi (if (blw x (nI n) && blw y (nI 6)) = true then rwf f (tn x) (tn y) else oE) V)) V 0 0 [(0, .ref ob), (1, .int x), (2, .int y)] 0 []
  refine k_iload_n C dX6_value_0 rfl 1 rfl ?_
  refine k_aload_n C dX6_value_1 rfl 0 rfl ?_
  refine k_get (ci := 6) (k := 4) C fl_6_34 h_ob rfl dX6_value_2 ?_
  refine k_get (ci := 4) (k := 1) C fl_6_146 h_a rfl dX6_value_5 ?_
  refine k_callS_pi C ms_6_38 (c_X6_isBelow   ) rfl rfl (by simp [Value.category]) ⟨Nat.le_of_ble_eq_true rfl, Nat.le_of_ble_eq_true rfl⟩ ⟨(by decide), (by decide)⟩ dX6_value_8 ?_
  refine k_if_eq (tgt := 33) C dX6_value_11 (by decide) (fun c11 => ?_) (fun c11 => ?_)
  · skip
    have b11 : (blw x (nI n)) = false := bI_0.mp c11
    refine k_ldc (v := (-2147483648)) C wd_485 dX6_value_33 ?_
    exact k_iret C zr zlk (pi_of (by first | (simp [b11, b18]; rfl) | simp [b11, b18] | simp [b11]) rfl) (Nat.le_refl _) (Nat.le_refl _) dX6_value_35
  · skip
    have b11 : (blw x (nI n)) = true := bI_n.mp c11
    refine k_iload_n C dX6_value_14 rfl 2 rfl ?_
    refine k_callS_pi C ms_6_59 (c_X6_isVariable   ) rfl rfl (by simp [Value.category]) ⟨Nat.le_of_ble_eq_true rfl, Nat.le_of_ble_eq_true rfl⟩ ⟨(by decide), (by decide)⟩ dX6_value_15 ?_
    refine k_if_eq (tgt := 33) C dX6_value_18 (by decide) (fun c18 => ?_) (fun c18 => ?_)
    · skip
      have b18 : (blw y (nI 6)) = false := bI_0.mp c18
      refine k_ldc (v := (-2147483648)) C wd_485 dX6_value_33 ?_
      exact k_iret C zr zlk (pi_of (by first | (simp [b11, b18]; rfl) | simp [b11, b18] | simp [b11]) rfl) (Nat.le_refl _) (Nat.le_refl _) dX6_value_35
    · skip
      have b18 : (blw y (nI 6)) = true := bI_n.mp c18
      refine k_aload_n C dX6_value_21 rfl 0 rfl ?_
      refine k_get (ci := 6) (k := 4) C fl_6_34 h_ob rfl dX6_value_22 ?_
      refine k_iload_n C dX6_value_25 rfl 1 rfl ?_
      refine k_iload_n C dX6_value_26 rfl 2 rfl ?_
      refine k_pc (pc' := 27) (st' := [.int (nI (tn y)), .int (nI (tn x)), .ref a]) rfl (by rw [blw_tn b11, blw_tn b18]) ?_
      refine k_callV_pi C mv_6_149 (c_X4_at  h_a h_c (Nat.le_trans (Nat.le_of_lt (blw_lt (by omega) b11)) hn) (blw_lt (by omega) b18)) h_a rfl rfl (by simp [Value.category]) ⟨Nat.le_of_ble_eq_true rfl, Nat.le_of_ble_eq_true rfl⟩ ⟨(by decide), (by decide)⟩ dX6_value_27 ?_
      refine k_goto (tgt := 35) C dX6_value_30 (by decide) ?_
      exact k_iret C zr zlk (pi_of (by first | (simp [b11, b18]; rfl) | simp [b11, b18] | simp [b11]) rfl) (Nat.le_refl _) (Nat.le_refl _) dX6_value_35
set_option maxHeartbeats 4000000 in
set_option maxRecDepth 100000 in
theorem c_X6_look {zl : Launch} {D : va_G} {cI cN cR : ClassId} {base : Nat} {V : gv_V} {ob mo tr nd : Nat} {a c n : Nat} {tl mk : Int32} {f : Nat → Int32} {xe ak af as ap av ne : Nat} {kd fs sc pt vl : Nat → Int32} {x y : Int32} {E : Nat → Ex}  (h_ob : V ob = some (.inr (6, [.ref mo, .ref tr, .ref xe, .ref nd, .ref a]))) (h_a : V a = some (.inr (4, [.ref c, .int (nI n), .int tl, .int mk]))) (h_c : V c = some (.inl (cI, 486, .inl f))) (h_xe : V xe = some (.inr (0, [.ref ak, .ref af, .ref as, .ref ap, .ref av, .int (nI ne)]))) (h_ak : V ak = some (.inl (cI, 30, .inl kd))) (h_af : V af = some (.inl (cI, 30, .inl fs))) (h_as : V as = some (.inl (cI, 30, .inl sc))) (h_ap : V ap = some (.inl (cI, 30, .inl pt))) (h_av : V av = some (.inl (cI, 30, .inl vl))) (hn : n ≤ 80) (hX : ExR E ne kd fs sc pt) (hd : [ak, af, as, ap, av].Nodup) : ct zl D [(cI, .int), (cN, .object "AlgebraTree$Node"), (cR, .object "AlgebraTree$Rows")] base yX6_look cX6_look 3 (some .int) 3 0 0 [.ref ob, .int x, .int y] V (fun zv zV => ∃ vl1 : Nat → Int32, zv = some (.int (if (blw x (nI n) && blw y (nI ne)) = true then ev E (rwf f (tn x)) (tn y) else oE)) ∧ zV = gv_up V av (.inl (cI, 30, .inl vl1))) := by
  refine ct_of "AlgebraTree" rfl (by decide) (Nat.le_of_ble_eq_true rfl) ?_
  intro zp ze zs zm zargs zbelow zmeth zc C zr zlk znm
  refine k_pc (pc' := 0) (st' := []) rfl rfl ?_
  show K zp zl ze (gv_rm 3 0 0) zs zm zargs zbelow zmeth zc D base 3 (gv_E D [(cI, .int), (cN, .object "AlgebraTree$Node"), (cR, .object "AlgebraTree$Rows")] base zbelow zargs zs 0 0 (fun zv zV => ∃ vl1 : Nat → Int32, zv = some (.int (if (blw x (nI n) && blw y (nI ne)) = true then ev E (rwf f (tn x)) (tn y) else oE)) ∧ zV = gv_up V av (.inl (cI, 30, .inl vl1)))) V 0 0 [(0, .ref ob), (1, .int x), (2, .int y)] 0 []
  have hX1 := hX.1
  refine k_iload_n C dX6_look_0 rfl 1 rfl ?_
  refine k_aload_n C dX6_look_1 rfl 0 rfl ?_
  refine k_get (ci := 6) (k := 4) C fl_6_34 h_ob rfl dX6_look_2 ?_
  refine k_get (ci := 4) (k := 1) C fl_6_146 h_a rfl dX6_look_5 ?_
  refine k_callS_pi C ms_6_38 (c_X6_isBelow   ) rfl rfl (by simp [Value.category]) ⟨Nat.le_of_ble_eq_true rfl, Nat.le_of_ble_eq_true rfl⟩ ⟨(by decide), (by decide)⟩ dX6_look_8 ?_
  refine k_if_eq (tgt := 41) C dX6_look_11 (by decide) (fun c11 => ?_) (fun c11 => ?_)
  · skip
    have b11 : (blw x (nI n)) = false := bI_0.mp c11
    refine k_ldc (v := (-2147483648)) C wd_485 dX6_look_41 ?_
    refine k_view (V1 := gv_up V av (.inl (cI, 30, .inl vl))) (gv_id h_av).symm ?_
    exact k_iret C zr zlk ⟨vl, (by first | simp [b11, b22] | simp [b11]), rfl⟩ (Nat.le_refl _) (Nat.le_refl _) dX6_look_43
  · skip
    have b11 : (blw x (nI n)) = true := bI_n.mp c11
    refine k_aload_n C dX6_look_14 rfl 0 rfl ?_
    refine k_get (ci := 6) (k := 2) C fl_6_25 h_ob rfl dX6_look_15 ?_
    refine k_iload_n C dX6_look_18 rfl 2 rfl ?_
    refine k_callV_pi C mv_6_66 (c_X0_has  h_xe ) h_xe rfl rfl (by simp [Value.category]) ⟨Nat.le_of_ble_eq_true rfl, Nat.le_of_ble_eq_true rfl⟩ ⟨(by decide), (by decide)⟩ dX6_look_19 ?_
    refine k_if_eq (tgt := 41) C dX6_look_22 (by decide) (fun c22 => ?_) (fun c22 => ?_)
    · skip
      have b22 : (blw y (nI ne)) = false := bI_0.mp c22
      refine k_ldc (v := (-2147483648)) C wd_485 dX6_look_41 ?_
      refine k_view (V1 := gv_up V av (.inl (cI, 30, .inl vl))) (gv_id h_av).symm ?_
      exact k_iret C zr zlk ⟨vl, (by first | simp [b11, b22] | simp [b11]), rfl⟩ (Nat.le_refl _) (Nat.le_refl _) dX6_look_43
    · skip
      have b22 : (blw y (nI ne)) = true := bI_n.mp c22
      refine k_aload_n C dX6_look_25 rfl 0 rfl ?_
      refine k_get (ci := 6) (k := 2) C fl_6_25 h_ob rfl dX6_look_26 ?_
      refine k_iload_n C dX6_look_29 rfl 2 rfl ?_
      refine k_aload_n C dX6_look_30 rfl 0 rfl ?_
      refine k_get (ci := 6) (k := 4) C fl_6_34 h_ob rfl dX6_look_31 ?_
      refine k_iload_n C dX6_look_34 rfl 1 rfl ?_
      refine k_pc (pc' := 35) (st' := [.int (nI (tn x)), .ref a, .int (nI (tn y)), .ref xe]) rfl (by rw [blw_tn b11, blw_tn b22]) ?_
      refine k_callV C mv_6_153 (c_X0_valueOf  h_xe h_ak h_af h_as h_ap h_av h_a h_c (by first | assumption | omega) (blw_lt (by omega) b22) (Nat.le_trans (Nat.le_of_lt (blw_lt (by omega) b11)) hn) (by first | assumption | omega)) h_xe rfl rfl (by simp [Value.category]) ⟨Nat.le_of_ble_eq_true rfl, Nat.le_of_ble_eq_true rfl⟩ ⟨(by decide), (by decide)⟩ dX6_look_35 (fun zv zV zh => ?_)
      obtain ⟨vl1_w1, rfl, rfl⟩ := zh
      refine k_pc (pc' := 38) (st' := .int (ev E (rwf f (tn x)) (tn y)) :: []) rfl rfl ?_
      refine k_goto (tgt := 43) C dX6_look_38 (by decide) ?_
      exact k_iret C zr zlk ⟨vl1_w1, (by simp [b11, b22]), rfl⟩ (Nat.le_refl _) (Nat.le_refl _) dX6_look_43
set_option maxHeartbeats 4000000 in
set_option maxRecDepth 100000 in
theorem c_X6_many {zl : Launch} {D : va_G} {cI cN cR : ClassId} {base : Nat} {V : gv_V} {ob mo tr xe nd : Nat} {a c n : Nat} {tl mk : Int32} {f : Nat → Int32} {x : Int32}  (h_ob : V ob = some (.inr (6, [.ref mo, .ref tr, .ref xe, .ref nd, .ref a]))) (h_a : V a = some (.inr (4, [.ref c, .int (nI n), .int tl, .int mk]))) (h_c : V c = some (.inl (cI, 486, .inl f))) (hn : n ≤ 80) : ct zl D [(cI, .int), (cN, .object "AlgebraTree$Node"), (cR, .object "AlgebraTree$Rows")] base yX6_many cX6_many 2 (some .int) 3 0 0 [.ref ob, .int x] V (pi (if blw x (nI n) = true then nI (cntL f n (rwf f (tn x))) else -1) V) := by
  refine ct_of "AlgebraTree" rfl (by decide) (Nat.le_of_ble_eq_true rfl) ?_
  intro zp ze zs zm zargs zbelow zmeth zc C zr zlk znm
  refine k_pc (pc' := 0) (st' := []) rfl rfl ?_
  show K zp zl ze (gv_rm 3 0 0) zs zm zargs zbelow zmeth zc D base 2 (gv_E D [(cI, .int), (cN, .object "AlgebraTree$Node"), (cR, .object "AlgebraTree$Rows")] base zbelow zargs zs 0 0 (pi (if blw x (nI n) = true then nI (cntL f n (rwf f (tn x))) else -1) V)) V 0 0 [(0, .ref ob), (1, .int x)] 0 []
  refine k_iload_n C dX6_many_0 rfl 1 rfl ?_
  refine k_aload_n C dX6_many_1 rfl 0 rfl ?_
  refine k_get (ci := 6) (k := 4) C fl_6_34 h_ob rfl dX6_many_2 ?_
  refine k_get (ci := 4) (k := 1) C fl_6_146 h_a rfl dX6_many_5 ?_
  refine k_callS_pi C ms_6_38 (c_X6_isBelow   ) rfl rfl (by simp [Value.category]) ⟨Nat.le_of_ble_eq_true rfl, Nat.le_of_ble_eq_true rfl⟩ ⟨(by decide), (by decide)⟩ dX6_many_8 ?_
  refine k_if_eq (tgt := 29) C dX6_many_11 (by decide) (fun c11 => ?_) (fun c11 => ?_)
  · skip
    have b11 : (blw x (nI n)) = false := bI_0.mp c11
    refine k_iconst (v := (-1 : Int32)) C dX6_many_29 (by decide) ?_
    exact k_iret C zr zlk (pi_of (by simp [b11]) rfl) (Nat.le_refl _) (Nat.le_refl _) dX6_many_30
  · skip
    have b11 : (blw x (nI n)) = true := bI_n.mp c11
    refine k_aload_n C dX6_many_14 rfl 0 rfl ?_
    refine k_get (ci := 6) (k := 4) C fl_6_34 h_ob rfl dX6_many_15 ?_
    refine k_aload_n C dX6_many_18 rfl 0 rfl ?_
    refine k_get (ci := 6) (k := 4) C fl_6_34 h_ob rfl dX6_many_19 ?_
    refine k_iload_n C dX6_many_22 rfl 1 rfl ?_
    refine k_pc (pc' := 23) (st' := [.int (nI (tn x)), .ref a, .ref a]) rfl (by rw [blw_tn b11]) ?_
    refine k_callV_pi C mv_6_157 (c_X4_countLike  h_a h_c h_a h_c hn (Nat.le_trans (Nat.le_of_lt (blw_lt (by omega) b11)) hn)) h_a rfl rfl (by simp [Value.category]) ⟨Nat.le_of_ble_eq_true rfl, Nat.le_of_ble_eq_true rfl⟩ ⟨(by decide), (by decide)⟩ dX6_many_23 ?_
    refine k_goto (tgt := 30) C dX6_many_26 (by decide) ?_
    exact k_iret C zr zlk (pi_of (by simp [b11]) rfl) (Nat.le_refl _) (Nat.le_refl _) dX6_many_30
