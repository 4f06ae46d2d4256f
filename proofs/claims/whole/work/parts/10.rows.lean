set_option maxHeartbeats 4000000 in
set_option maxRecDepth 100000 in
theorem c_X6_isBelow {zl : Launch} {D : va_G} {cI cN cR : ClassId} {base : Nat} {V : gv_V} {x y : Int32}    : ct zl D [(cI, .int), (cN, .object "AlgebraTree$Node"), (cR, .object "AlgebraTree$Rows")] base yX6_isBelow cX6_isBelow 2 (some .boolean) 0 0 0 [.int x, .int y] V (pi (bI (blw x y)) V) := by
  refine ct_of "AlgebraTree" rfl (by decide) (Nat.le_of_ble_eq_true rfl) ?_
  intro zp ze zs zm zargs zbelow zmeth zc C zr zlk znm
  refine k_pc (pc' := 0) (st' := []) rfl rfl ?_
  show K zp zl ze (gv_rm 0 0 0) zs zm zargs zbelow zmeth zc D base 2 (gv_E D [(cI, .int), (cN, .object "AlgebraTree$Node"), (cR, .object "AlgebraTree$Rows")] base zbelow zargs zs 0 0 (pi (bI (blw x y)) V)) V 0 0 [(0, .int x), (1, .int y)] 0 []
  refine k_iload_n C dX6_isBelow_0 rfl 0 rfl ?_
  refine k_if_lt (tgt := 13) C dX6_isBelow_1 (by decide) (fun c1 => ?_) (fun c1 => ?_)
  · skip
    refine k_iconst (v := nI 0) C dX6_isBelow_13 rfl ?_
    exact k_zret C zr zlk rfl (pi_of (by first | exact bI_t (by grind [blw, wtn, plc, sln, inS, isT, lg_lt, lg_gt, nI]) | exact bI_f (by grind [blw, wtn, plc, sln, inS, isT, lg_lt, lg_gt, nI])) rfl) (Nat.le_refl _) (Nat.le_refl _) dX6_isBelow_14
  · skip
    refine k_iload_n C dX6_isBelow_4 rfl 0 rfl ?_
    refine k_iload_n C dX6_isBelow_5 rfl 1 rfl ?_
    refine k_icmp_ge (tgt := 13) C dX6_isBelow_6 (by decide) (fun c6 => ?_) (fun c6 => ?_)
    · skip
      refine k_iconst (v := nI 0) C dX6_isBelow_13 rfl ?_
      exact k_zret C zr zlk rfl (pi_of (by first | exact bI_t (by grind [blw, wtn, plc, sln, inS, isT, lg_lt, lg_gt, nI]) | exact bI_f (by grind [blw, wtn, plc, sln, inS, isT, lg_lt, lg_gt, nI])) rfl) (Nat.le_refl _) (Nat.le_refl _) dX6_isBelow_14
    · skip
      refine k_iconst (v := nI 1) C dX6_isBelow_9 rfl ?_
      refine k_goto (tgt := 14) C dX6_isBelow_10 (by decide) ?_
      exact k_zret C zr zlk rfl (pi_of (by first | exact bI_t (by grind [blw, wtn, plc, sln, inS, isT, lg_lt, lg_gt, nI]) | exact bI_f (by grind [blw, wtn, plc, sln, inS, isT, lg_lt, lg_gt, nI])) rfl) (Nat.le_refl _) (Nat.le_refl _) dX6_isBelow_14
set_option maxHeartbeats 4000000 in
set_option maxRecDepth 100000 in
theorem c_X6_isWithin {zl : Launch} {D : va_G} {cI cN cR : ClassId} {base : Nat} {V : gv_V} {x : Int64} {y : Int32}    : ct zl D [(cI, .int), (cN, .object "AlgebraTree$Node"), (cR, .object "AlgebraTree$Rows")] base yX6_isWithin cX6_isWithin 3 (some .boolean) 0 0 0 [.long x, .int y] V (pi (bI (wtn x y)) V) := by
  refine ct_of "AlgebraTree" rfl (by decide) (Nat.le_of_ble_eq_true rfl) ?_
  intro zp ze zs zm zargs zbelow zmeth zc C zr zlk znm
  refine k_pc (pc' := 0) (st' := []) rfl rfl ?_
  show K zp zl ze (gv_rm 0 0 0) zs zm zargs zbelow zmeth zc D base 3 (gv_E D [(cI, .int), (cN, .object "AlgebraTree$Node"), (cR, .object "AlgebraTree$Rows")] base zbelow zargs zs 0 0 (pi (bI (wtn x y)) V)) V 0 0 [(0, .long x), (2, .int y)] 0 []
  refine k_lload_n C dX6_isWithin_0 rfl 0 rfl ?_
  refine k_iload_n C dX6_isWithin_1 rfl 1 rfl ?_
  refine k_ineg C dX6_isWithin_2 ?_
  refine k_i2l C dX6_isWithin_3 rfl ?_
  refine k_lcmp C dX6_isWithin_4 ?_
  refine k_if_lt (tgt := 19) C dX6_isWithin_5 (by decide) (fun c5 => ?_) (fun c5 => ?_)
  · skip
    refine k_iconst (v := nI 0) C dX6_isWithin_19 rfl ?_
    exact k_zret C zr zlk rfl (pi_of (by first | exact bI_t (by grind [blw, wtn, plc, sln, inS, isT, lg_lt, lg_gt, nI]) | exact bI_f (by grind [blw, wtn, plc, sln, inS, isT, lg_lt, lg_gt, nI])) rfl) (Nat.le_refl _) (Nat.le_refl _) dX6_isWithin_20
  · skip
    refine k_lload_n C dX6_isWithin_8 rfl 0 rfl ?_
    refine k_iload_n C dX6_isWithin_9 rfl 1 rfl ?_
    refine k_i2l C dX6_isWithin_10 rfl ?_
    refine k_lcmp C dX6_isWithin_11 ?_
    refine k_if_gt (tgt := 19) C dX6_isWithin_12 (by decide) (fun c12 => ?_) (fun c12 => ?_)
    · skip
      refine k_iconst (v := nI 0) C dX6_isWithin_19 rfl ?_
      exact k_zret C zr zlk rfl (pi_of (by first | exact bI_t (by grind [blw, wtn, plc, sln, inS, isT, lg_lt, lg_gt, nI]) | exact bI_f (by grind [blw, wtn, plc, sln, inS, isT, lg_lt, lg_gt, nI])) rfl) (Nat.le_refl _) (Nat.le_refl _) dX6_isWithin_20
    · skip
      refine k_iconst (v := nI 1) C dX6_isWithin_15 rfl ?_
      refine k_goto (tgt := 20) C dX6_isWithin_16 (by decide) ?_
      exact k_zret C zr zlk rfl (pi_of (by first | exact bI_t (by grind [blw, wtn, plc, sln, inS, isT, lg_lt, lg_gt, nI]) | exact bI_f (by grind [blw, wtn, plc, sln, inS, isT, lg_lt, lg_gt, nI])) rfl) (Nat.le_refl _) (Nat.le_refl _) dX6_isWithin_20
set_option maxHeartbeats 4000000 in
set_option maxRecDepth 100000 in
theorem c_X6_isTerm {zl : Launch} {D : va_G} {cI cN cR : ClassId} {base : Nat} {V : gv_V} {x : Int32}    : ct zl D [(cI, .int), (cN, .object "AlgebraTree$Node"), (cR, .object "AlgebraTree$Rows")] base yX6_isTerm cX6_isTerm 1 (some .boolean) 1 0 0 [.int x] V (pi (bI (blw x (nI 1000))) V) := by
  refine ct_of "AlgebraTree" rfl (by decide) (Nat.le_of_ble_eq_true rfl) ?_
  intro zp ze zs zm zargs zbelow zmeth zc C zr zlk znm
  refine k_pc (pc' := 0) (st' := []) rfl rfl ?_
  show K zp zl ze (gv_rm 1 0 0) zs zm zargs zbelow zmeth zc D base 1 (gv_E D [(cI, .int), (cN, .object "AlgebraTree$Node"), (cR, .object "AlgebraTree$Rows")] base zbelow zargs zs 0 0 (pi (bI (blw x (nI 1000))) V)) V 0 0 [(0, .int x)] 0 []
  refine k_iload_n C dX6_isTerm_0 rfl 0 rfl ?_
  refine k_sipush (v := nI 1000) C dX6_isTerm_1 rfl ?_
  refine k_callS_pi C ms_6_38 (c_X6_isBelow   ) rfl rfl (by simp [Value.category]) ⟨by decide, by decide⟩ ⟨(by decide), (by decide)⟩ dX6_isTerm_4 ?_
  exact k_zret C zr zlk bI_nar (pi_of rfl rfl) (Nat.le_refl _) (Nat.le_refl _) dX6_isTerm_7
set_option maxHeartbeats 4000000 in
set_option maxRecDepth 100000 in
theorem c_X6_isVariable {zl : Launch} {D : va_G} {cI cN cR : ClassId} {base : Nat} {V : gv_V} {x : Int32}    : ct zl D [(cI, .int), (cN, .object "AlgebraTree$Node"), (cR, .object "AlgebraTree$Rows")] base yX6_isVariable cX6_isVariable 1 (some .boolean) 1 0 0 [.int x] V (pi (bI (blw x (nI 6))) V) := by
  refine ct_of "AlgebraTree" rfl (by decide) (Nat.le_of_ble_eq_true rfl) ?_
  intro zp ze zs zm zargs zbelow zmeth zc C zr zlk znm
  refine k_pc (pc' := 0) (st' := []) rfl rfl ?_
  show K zp zl ze (gv_rm 1 0 0) zs zm zargs zbelow zmeth zc D base 1 (gv_E D [(cI, .int), (cN, .object "AlgebraTree$Node"), (cR, .object "AlgebraTree$Rows")] base zbelow zargs zs 0 0 (pi (bI (blw x (nI 6))) V)) V 0 0 [(0, .int x)] 0 []
  refine k_iload_n C dX6_isVariable_0 rfl 0 rfl ?_
  refine k_bipush (v := nI 6) C dX6_isVariable_1 rfl ?_
  refine k_callS_pi C ms_6_38 (c_X6_isBelow   ) rfl rfl (by simp [Value.category]) ⟨by decide, by decide⟩ ⟨(by decide), (by decide)⟩ dX6_isVariable_3 ?_
  exact k_zret C zr zlk bI_nar (pi_of rfl rfl) (Nat.le_refl _) (Nat.le_refl _) dX6_isVariable_6
set_option maxHeartbeats 4000000 in
set_option maxRecDepth 100000 in
theorem c_X6_isPlace {zl : Launch} {D : va_G} {cI cN cR : ClassId} {base : Nat} {V : gv_V} {x : Int32}    : ct zl D [(cI, .int), (cN, .object "AlgebraTree$Node"), (cR, .object "AlgebraTree$Rows")] base yX6_isPlace cX6_isPlace 1 (some .boolean) 0 0 0 [.int x] V (pi (bI (plc x)) V) := by
  refine ct_of "AlgebraTree" rfl (by decide) (Nat.le_of_ble_eq_true rfl) ?_
  intro zp ze zs zm zargs zbelow zmeth zc C zr zlk znm
  refine k_pc (pc' := 0) (st' := []) rfl rfl ?_
  show K zp zl ze (gv_rm 0 0 0) zs zm zargs zbelow zmeth zc D base 1 (gv_E D [(cI, .int), (cN, .object "AlgebraTree$Node"), (cR, .object "AlgebraTree$Rows")] base zbelow zargs zs 0 0 (pi (bI (plc x)) V)) V 0 0 [(0, .int x)] 0 []
  refine k_iload_n C dX6_isPlace_0 rfl 0 rfl ?_
  refine k_bipush (v := (-6 : Int32)) C dX6_isPlace_1 (by decide) ?_
  refine k_icmp_lt (tgt := 17) C dX6_isPlace_3 (by decide) (fun c3 => ?_) (fun c3 => ?_)
  · skip
    refine k_iconst (v := nI 0) C dX6_isPlace_17 rfl ?_
    exact k_zret C zr zlk rfl (pi_of (by first | exact bI_t (by have e : nI 1000 = 1000 := rfl; grind [plc]) | exact bI_f (by have e : nI 1000 = 1000 := rfl; grind [plc])) rfl) (Nat.le_refl _) (Nat.le_refl _) dX6_isPlace_18
  · skip
    refine k_iload_n C dX6_isPlace_6 rfl 0 rfl ?_
    refine k_sipush (v := nI 1000) C dX6_isPlace_7 rfl ?_
    refine k_icmp_ge (tgt := 17) C dX6_isPlace_10 (by decide) (fun c10 => ?_) (fun c10 => ?_)
    · skip
      refine k_iconst (v := nI 0) C dX6_isPlace_17 rfl ?_
      exact k_zret C zr zlk rfl (pi_of (by first | exact bI_t (by have e : nI 1000 = 1000 := rfl; grind [plc]) | exact bI_f (by have e : nI 1000 = 1000 := rfl; grind [plc])) rfl) (Nat.le_refl _) (Nat.le_refl _) dX6_isPlace_18
    · skip
      refine k_iconst (v := nI 1) C dX6_isPlace_13 rfl ?_
      refine k_goto (tgt := 18) C dX6_isPlace_14 (by decide) ?_
      exact k_zret C zr zlk rfl (pi_of (by first | exact bI_t (by have e : nI 1000 = 1000 := rfl; grind [plc]) | exact bI_f (by have e : nI 1000 = 1000 := rfl; grind [plc])) rfl) (Nat.le_refl _) (Nat.le_refl _) dX6_isPlace_18
set_option maxHeartbeats 4000000 in
set_option maxRecDepth 100000 in
theorem c_X6_isSliceNumber {zl : Launch} {D : va_G} {cI cN cR : ClassId} {base : Nat} {V : gv_V} {x : Int32}    : ct zl D [(cI, .int), (cN, .object "AlgebraTree$Node"), (cR, .object "AlgebraTree$Rows")] base yX6_isSliceNumber cX6_isSliceNumber 1 (some .boolean) 0 0 0 [.int x] V (pi (bI (sln x)) V) := by
  refine ct_of "AlgebraTree" rfl (by decide) (Nat.le_of_ble_eq_true rfl) ?_
  intro zp ze zs zm zargs zbelow zmeth zc C zr zlk znm
  refine k_pc (pc' := 0) (st' := []) rfl rfl ?_
  show K zp zl ze (gv_rm 0 0 0) zs zm zargs zbelow zmeth zc D base 1 (gv_E D [(cI, .int), (cN, .object "AlgebraTree$Node"), (cR, .object "AlgebraTree$Rows")] base zbelow zargs zs 0 0 (pi (bI (sln x)) V)) V 0 0 [(0, .int x)] 0 []
  refine k_iload_n C dX6_isSliceNumber_0 rfl 0 rfl ?_
  refine k_if_lt (tgt := 15) C dX6_isSliceNumber_1 (by decide) (fun c1 => ?_) (fun c1 => ?_)
  · skip
    refine k_iconst (v := nI 0) C dX6_isSliceNumber_15 rfl ?_
    exact k_zret C zr zlk rfl (pi_of (by first | exact bI_t (by have e : nI 1000 = 1000 := rfl; grind [sln]) | exact bI_f (by have e : nI 1000 = 1000 := rfl; grind [sln])) rfl) (Nat.le_refl _) (Nat.le_refl _) dX6_isSliceNumber_16
  · skip
    refine k_iload_n C dX6_isSliceNumber_4 rfl 0 rfl ?_
    refine k_sipush (v := nI 1000) C dX6_isSliceNumber_5 rfl ?_
    refine k_icmp_gt (tgt := 15) C dX6_isSliceNumber_8 (by decide) (fun c8 => ?_) (fun c8 => ?_)
    · skip
      refine k_iconst (v := nI 0) C dX6_isSliceNumber_15 rfl ?_
      exact k_zret C zr zlk rfl (pi_of (by first | exact bI_t (by have e : nI 1000 = 1000 := rfl; grind [sln]) | exact bI_f (by have e : nI 1000 = 1000 := rfl; grind [sln])) rfl) (Nat.le_refl _) (Nat.le_refl _) dX6_isSliceNumber_16
    · skip
      refine k_iconst (v := nI 1) C dX6_isSliceNumber_11 rfl ?_
      refine k_goto (tgt := 16) C dX6_isSliceNumber_12 (by decide) ?_
      exact k_zret C zr zlk rfl (pi_of (by first | exact bI_t (by have e : nI 1000 = 1000 := rfl; grind [sln]) | exact bI_f (by have e : nI 1000 = 1000 := rfl; grind [sln])) rfl) (Nat.le_refl _) (Nat.le_refl _) dX6_isSliceNumber_16
set_option maxHeartbeats 4000000 in
set_option maxRecDepth 100000 in
theorem c_X6_isInSet {zl : Launch} {D : va_G} {cI cN cR : ClassId} {base : Nat} {V : gv_V} {v x : Int32}    : ct zl D [(cI, .int), (cN, .object "AlgebraTree$Node"), (cR, .object "AlgebraTree$Rows")] base yX6_isInSet cX6_isInSet 2 (some .boolean) 0 0 0 [.int v, .int x] V (pi (bI (inS x v)) V) := by
  refine ct_of "AlgebraTree" rfl (by decide) (Nat.le_of_ble_eq_true rfl) ?_
  intro zp ze zs zm zargs zbelow zmeth zc C zr zlk znm
  refine k_pc (pc' := 0) (st' := []) rfl rfl ?_
  show K zp zl ze (gv_rm 0 0 0) zs zm zargs zbelow zmeth zc D base 2 (gv_E D [(cI, .int), (cN, .object "AlgebraTree$Node"), (cR, .object "AlgebraTree$Rows")] base zbelow zargs zs 0 0 (pi (bI (inS x v)) V)) V 0 0 [(0, .int v), (1, .int x)] 0 []
  refine k_iload_n C dX6_isInSet_0 rfl 1 rfl ?_
  refine k_iload_n C dX6_isInSet_1 rfl 0 rfl ?_
  refine k_ishr C dX6_isInSet_2 ?_
  refine k_iconst (v := nI 1) C dX6_isInSet_3 rfl ?_
  refine k_iand C dX6_isInSet_4 ?_
  refine k_if_eq (tgt := 12) C dX6_isInSet_5 (by decide) (fun c5 => ?_) (fun c5 => ?_)
  · skip
    refine k_iconst (v := nI 0) C dX6_isInSet_12 rfl ?_
    exact k_zret C zr zlk rfl (pi_of (by first | exact bI_t (by have e : nI 1 = 1 := rfl; grind [inS]) | exact bI_f (by have e : nI 1 = 1 := rfl; grind [inS])) rfl) (Nat.le_refl _) (Nat.le_refl _) dX6_isInSet_13
  · skip
    refine k_iconst (v := nI 1) C dX6_isInSet_8 rfl ?_
    refine k_goto (tgt := 13) C dX6_isInSet_9 (by decide) ?_
    exact k_zret C zr zlk rfl (pi_of (by first | exact bI_t (by have e : nI 1 = 1 := rfl; grind [inS]) | exact bI_f (by have e : nI 1 = 1 := rfl; grind [inS])) rfl) (Nat.le_refl _) (Nat.le_refl _) dX6_isInSet_13
set_option maxHeartbeats 4000000 in
set_option maxRecDepth 100000 in
theorem c_X6_isTrue {zl : Launch} {D : va_G} {cI cN cR : ClassId} {base : Nat} {V : gv_V} {x : Int32}    : ct zl D [(cI, .int), (cN, .object "AlgebraTree$Node"), (cR, .object "AlgebraTree$Rows")] base yX6_isTrue cX6_isTrue 1 (some .boolean) 0 0 0 [.int x] V (pi (bI (isT x)) V) := by
  refine ct_of "AlgebraTree" rfl (by decide) (Nat.le_of_ble_eq_true rfl) ?_
  intro zp ze zs zm zargs zbelow zmeth zc C zr zlk znm
  refine k_pc (pc' := 0) (st' := []) rfl rfl ?_
  show K zp zl ze (gv_rm 0 0 0) zs zm zargs zbelow zmeth zc D base 1 (gv_E D [(cI, .int), (cN, .object "AlgebraTree$Node"), (cR, .object "AlgebraTree$Rows")] base zbelow zargs zs 0 0 (pi (bI (isT x)) V)) V 0 0 [(0, .int x)] 0 []
  refine k_iload_n C dX6_isTrue_0 rfl 0 rfl ?_
  refine k_if_eq (tgt := 14) C dX6_isTrue_1 (by decide) (fun c1 => ?_) (fun c1 => ?_)
  · skip
    refine k_iconst (v := nI 0) C dX6_isTrue_14 rfl ?_
    exact k_zret C zr zlk rfl (pi_of (by first | exact bI_t (by grind [blw, wtn, plc, sln, inS, isT, lg_lt, lg_gt, nI]) | exact bI_f (by grind [blw, wtn, plc, sln, inS, isT, lg_lt, lg_gt, nI])) rfl) (Nat.le_refl _) (Nat.le_refl _) dX6_isTrue_15
  · skip
    refine k_iload_n C dX6_isTrue_4 rfl 0 rfl ?_
    refine k_ldc (v := (-2147483648)) C wd_485 dX6_isTrue_5 ?_
    refine k_icmp_eq (tgt := 14) C dX6_isTrue_7 (by decide) (fun c7 => ?_) (fun c7 => ?_)
    · skip
      refine k_iconst (v := nI 0) C dX6_isTrue_14 rfl ?_
      exact k_zret C zr zlk rfl (pi_of (by first | exact bI_t (by grind [blw, wtn, plc, sln, inS, isT, lg_lt, lg_gt, nI]) | exact bI_f (by grind [blw, wtn, plc, sln, inS, isT, lg_lt, lg_gt, nI])) rfl) (Nat.le_refl _) (Nat.le_refl _) dX6_isTrue_15
    · skip
      refine k_iconst (v := nI 1) C dX6_isTrue_10 rfl ?_
      refine k_goto (tgt := 15) C dX6_isTrue_11 (by decide) ?_
      exact k_zret C zr zlk rfl (pi_of (by first | exact bI_t (by grind [blw, wtn, plc, sln, inS, isT, lg_lt, lg_gt, nI]) | exact bI_f (by grind [blw, wtn, plc, sln, inS, isT, lg_lt, lg_gt, nI])) rfl) (Nat.le_refl _) (Nat.le_refl _) dX6_isTrue_15
set_option maxHeartbeats 4000000 in
set_option maxRecDepth 100000 in
theorem c_X6_valueOrError {zl : Launch} {D : va_G} {cI cN cR : ClassId} {base : Nat} {V : gv_V} {x : Int64}    : ct zl D [(cI, .int), (cN, .object "AlgebraTree$Node"), (cR, .object "AlgebraTree$Rows")] base yX6_valueOrError cX6_valueOrError 2 (some .int) 1 0 0 [.long x] V (pi (vOE x) V) := by
  refine ct_of "AlgebraTree" rfl (by decide) (Nat.le_of_ble_eq_true rfl) ?_
  intro zp ze zs zm zargs zbelow zmeth zc C zr zlk znm
  refine k_pc (pc' := 0) (st' := []) rfl rfl ?_
  show K zp zl ze (gv_rm 1 0 0) zs zm zargs zbelow zmeth zc D base 2 (gv_E D [(cI, .int), (cN, .object "AlgebraTree$Node"), (cR, .object "AlgebraTree$Rows")] base zbelow zargs zs 0 0 (pi (vOE x) V)) V 0 0 [(0, .long x)] 0 []
  refine k_lload_n C dX6_valueOrError_0 rfl 0 rfl ?_
  refine k_ldc (v := (1000000000)) C wd_493 dX6_valueOrError_1 ?_
  refine k_callS_pi C ms_6_55 (c_X6_isWithin   ) rfl rfl (by simp [Value.category]) ⟨by decide, by decide⟩ ⟨(by decide), (by decide)⟩ dX6_valueOrError_3 ?_
  refine k_if_eq (tgt := 14) C dX6_valueOrError_6 (by decide) (fun c6 => ?_) (fun c6 => ?_)
  · skip
    have b6 : (wtn x (1000000000 : Int32)) = false := bI_0.mp c6
    refine k_ldc (v := (-2147483648)) C wd_485 dX6_valueOrError_14 ?_
    exact k_iret C zr zlk (pi_of (by simp only [vOE]; first | rw [if_pos b6] | (rw [if_neg (by rw [b6]; decide)])) rfl) (Nat.le_refl _) (Nat.le_refl _) dX6_valueOrError_16
  · skip
    have b6 : (wtn x (1000000000 : Int32)) = true := bI_n.mp c6
    refine k_lload_n C dX6_valueOrError_9 rfl 0 rfl ?_
    refine k_l2i C dX6_valueOrError_10 rfl ?_
    refine k_goto (tgt := 16) C dX6_valueOrError_11 (by decide) ?_
    exact k_iret C zr zlk (pi_of (by simp only [vOE]; first | rw [if_pos b6] | (rw [if_neg (by rw [b6]; decide)])) rfl) (Nat.le_refl _) (Nat.le_refl _) dX6_valueOrError_16
set_option maxHeartbeats 4000000 in
set_option maxRecDepth 100000 in
theorem c_X4_at {zl : Launch} {D : va_G} {cI cN cR : ClassId} {base : Nat} {V : gv_V} {a c n : Nat} {tl mk : Int32} {f : Nat → Int32} {i v : Nat}  (h_a : V a = some (.inr (4, [.ref c, .int (nI n), .int tl, .int mk]))) (h_c : V c = some (.inl (cI, 486, .inl f))) (hi : i ≤ 80) (hv : v < 6) : ct zl D [(cI, .int), (cN, .object "AlgebraTree$Node"), (cR, .object "AlgebraTree$Rows")] base yX4_at cX4_at 3 (some .int) 0 0 0 [.ref a, .int (nI i), .int (nI v)] V (pi (f (i * 6 + v)) V) := by
  refine ct_of "AlgebraTree$Rows" rfl (by decide) (Nat.le_of_ble_eq_true rfl) ?_
  intro zp ze zs zm zargs zbelow zmeth zc C zr zlk znm
  refine k_pc (pc' := 0) (st' := []) rfl rfl ?_
  show K zp zl ze (gv_rm 0 0 0) zs zm zargs zbelow zmeth zc D base 3 (gv_E D [(cI, .int), (cN, .object "AlgebraTree$Node"), (cR, .object "AlgebraTree$Rows")] base zbelow zargs zs 0 0 (pi (f (i * 6 + v)) V)) V 0 0 [(0, .ref a), (1, .int (nI i)), (2, .int (nI v))] 0 []
  refine k_aload_n C dX4_at_0 rfl 0 rfl ?_
  refine k_get (ci := 4) (k := 0) C fl_4_9 h_a rfl dX4_at_1 ?_
  refine k_iload_n C dX4_at_4 rfl 1 rfl ?_
  refine k_bipush (v := nI 6) C dX4_at_5 rfl ?_
  refine k_imul C dX4_at_7 ?_
  refine k_val (y := nI (i * 6)) (pk_mul i 6) ?_
  refine k_iload_n C dX4_at_8 rfl 2 rfl ?_
  refine k_iadd C dX4_at_9 ?_
  refine k_val (y := nI ((i * 6) + v)) (nI_add (i * 6) v) ?_
  refine k_iald (v := f ((i * 6) + v)) C 0 h_c rfl (vp_in_nI (by omega) (by omega)) (by rw [nI_clamp (by omega)]) dX4_at_10 ?_
  exact k_iret C zr zlk (pi_of rfl rfl) (Nat.le_refl _) (Nat.le_refl _) dX4_at_11
set_option maxHeartbeats 4000000 in
set_option maxRecDepth 100000 in
theorem c_X4_put {zl : Launch} {D : va_G} {cI cN cR : ClassId} {base : Nat} {V : gv_V} {a c n : Nat} {tl mk : Int32} {f : Nat → Int32} {i v : Nat} {x : Int32}  (h_a : V a = some (.inr (4, [.ref c, .int (nI n), .int tl, .int mk]))) (h_c : V c = some (.inl (cI, 486, .inl f))) (hi : i ≤ 80) (hv : v < 6) : ct zl D [(cI, .int), (cN, .object "AlgebraTree$Node"), (cR, .object "AlgebraTree$Rows")] base yX4_put cX4_put 4 none 0 0 0 [.ref a, .int (nI i), .int (nI v), .int x] V (pv (gv_up V c (.inl (cI, 486, .inl (upd f (i * 6 + v) x))))) := by
  refine ct_of "AlgebraTree$Rows" rfl (by decide) (Nat.le_of_ble_eq_true rfl) ?_
  intro zp ze zs zm zargs zbelow zmeth zc C zr zlk znm
  refine k_pc (pc' := 0) (st' := []) rfl rfl ?_
  show K zp zl ze (gv_rm 0 0 0) zs zm zargs zbelow zmeth zc D base 4 (gv_E D [(cI, .int), (cN, .object "AlgebraTree$Node"), (cR, .object "AlgebraTree$Rows")] base zbelow zargs zs 0 0 (pv (gv_up V c (.inl (cI, 486, .inl (upd f (i * 6 + v) x)))))) V 0 0 [(0, .ref a), (1, .int (nI i)), (2, .int (nI v)), (3, .int x)] 0 []
  refine k_aload_n C dX4_put_0 rfl 0 rfl ?_
  refine k_get (ci := 4) (k := 0) C fl_4_9 h_a rfl dX4_put_1 ?_
  refine k_iload_n C dX4_put_4 rfl 1 rfl ?_
  refine k_bipush (v := nI 6) C dX4_put_5 rfl ?_
  refine k_imul C dX4_put_7 ?_
  refine k_val (y := nI (i * 6)) (pk_mul i 6) ?_
  refine k_iload_n C dX4_put_8 rfl 2 rfl ?_
  refine k_iadd C dX4_put_9 ?_
  refine k_val (y := nI ((i * 6) + v)) (nI_add (i * 6) v) ?_
  refine k_iload_n C dX4_put_10 rfl 3 rfl ?_
  refine k_iast (f' := upd f ((i * 6) + v) x) C 0 h_c rfl (vp_in_nI (by omega) (by omega)) (by rw [nI_clamp (by omega)]) dX4_put_11 ?_
  refine k_view (V1 := gv_up V c (.inl (cI, 486, .inl (upd f (i * 6 + v) x)))) rfl ?_
  exact k_vret C zr zlk (pv_of rfl) (Nat.le_refl _) (Nat.le_refl _) dX4_put_12
set_option maxHeartbeats 4000000 in
set_option maxRecDepth 100000 in
theorem c_X4_clear {zl : Launch} {D : va_G} {cI cN cR : ClassId} {base : Nat} {V : gv_V} {a c n : Nat} {tl mk : Int32} {f : Nat → Int32}  (h_a : V a = some (.inr (4, [.ref c, .int (nI n), .int tl, .int mk]))) (h_c : V c = some (.inl (cI, 486, .inl f)))  : ct zl D [(cI, .int), (cN, .object "AlgebraTree$Node"), (cR, .object "AlgebraTree$Rows")] base yX4_clear cX4_clear 1 none 0 0 0 [.ref a] V (pv (gv_up V a (.inr (4, [.ref c, .int (nI 0), .int (nI 0), .int mk])))) := by
  refine ct_of "AlgebraTree$Rows" rfl (by decide) (Nat.le_of_ble_eq_true rfl) ?_
  intro zp ze zs zm zargs zbelow zmeth zc C zr zlk znm
  refine k_pc (pc' := 0) (st' := []) rfl rfl ?_
  show K zp zl ze (gv_rm 0 0 0) zs zm zargs zbelow zmeth zc D base 1 (gv_E D [(cI, .int), (cN, .object "AlgebraTree$Node"), (cR, .object "AlgebraTree$Rows")] base zbelow zargs zs 0 0 (pv (gv_up V a (.inr (4, [.ref c, .int (nI 0), .int (nI 0), .int mk]))))) V 0 0 [(0, .ref a)] 0 []
  refine k_aload_n C dX4_clear_0 rfl 0 rfl ?_
  refine k_iconst (v := nI 0) C dX4_clear_1 rfl ?_
  refine k_put (ci := 4) (k := 1) (fs' := [.ref c, .int (nI 0), .int tl, .int mk]) C fl_4_19 pf_4_1 h_a rfl rfl (Nat.le_of_ble_eq_true rfl) rfl dX4_clear_2 ?_
  refine k_aload_n C dX4_clear_5 rfl 0 rfl ?_
  refine k_iconst (v := nI 0) C dX4_clear_6 rfl ?_
  refine k_put (ci := 4) (k := 2) (fs' := [.ref c, .int (nI 0), .int (nI 0), .int mk]) C fl_4_22 pf_4_2 gv_up_s rfl rfl (Nat.le_of_ble_eq_true rfl) rfl dX4_clear_7 ?_
  refine k_view (V1 := gv_up V a (.inr (4, [.ref c, .int (nI 0), .int (nI 0), .int mk]))) gv_uu ?_
  exact k_vret C zr zlk (pv_of rfl) (Nat.le_refl _) (Nat.le_refl _) dX4_clear_10
set_option maxHeartbeats 4000000 in
set_option maxRecDepth 100000 in
theorem c_X4_keepDraft {zl : Launch} {D : va_G} {cI cN cR : ClassId} {base : Nat} {V : gv_V} {a c n : Nat} {tl mk : Int32} {f : Nat → Int32}  (h_a : V a = some (.inr (4, [.ref c, .int (nI n), .int tl, .int mk]))) (h_c : V c = some (.inl (cI, 486, .inl f))) (hn : n ≤ 80) : ct zl D [(cI, .int), (cN, .object "AlgebraTree$Node"), (cR, .object "AlgebraTree$Rows")] base yX4_keepDraft cX4_keepDraft 1 none 0 0 0 [.ref a] V (pv (gv_up V a (.inr (4, [.ref c, .int (nI (if n = 80 then 80 else n + 1)), .int (if n = 80 then 1 else tl), .int mk])))) := by
  refine ct_of "AlgebraTree$Rows" rfl (by decide) (Nat.le_of_ble_eq_true rfl) ?_
  intro zp ze zs zm zargs zbelow zmeth zc C zr zlk znm
  refine k_pc (pc' := 0) (st' := []) rfl rfl ?_
  show K zp zl ze (gv_rm 0 0 0) zs zm zargs zbelow zmeth zc D base 1 (gv_E D [(cI, .int), (cN, .object "AlgebraTree$Node"), (cR, .object "AlgebraTree$Rows")] base zbelow zargs zs 0 0 (pv (gv_up V a (.inr (4, [.ref c, .int (nI (if n = 80 then 80 else n + 1)), .int (if n = 80 then 1 else tl), .int mk]))))) V 0 0 [(0, .ref a)] 0 []
  refine k_aload_n C dX4_keepDraft_0 rfl 0 rfl ?_
  refine k_get (ci := 4) (k := 1) C fl_4_19 h_a rfl dX4_keepDraft_1 ?_
  refine k_bipush (v := nI 80) C dX4_keepDraft_4 rfl ?_
  refine k_icmp_ne (tgt := 17) C dX4_keepDraft_6 (by decide) (fun c6 => ?_) (fun c6 => ?_)
  · skip
    have b6 : ¬ n = 80 := fun z => c6 ((nI_eq (a := n) (b := 80) (by omega) (by omega)).mpr z)
    refine k_aload_n C dX4_keepDraft_17 rfl 0 rfl ?_
    refine k_dup C dX4_keepDraft_18 rfl ?_
    refine k_get (ci := 4) (k := 1) C fl_4_19 h_a rfl dX4_keepDraft_19 ?_
    refine k_iconst (v := nI 1) C dX4_keepDraft_22 rfl ?_
    refine k_iadd C dX4_keepDraft_23 ?_
    refine k_val (y := nI (n + 1)) (nI_add n 1) ?_
    refine k_put (ci := 4) (k := 1) (fs' := [.ref c, .int (nI (n + 1)), .int tl, .int mk]) C fl_4_19 pf_4_1 h_a rfl rfl (Nat.le_of_ble_eq_true rfl) rfl dX4_keepDraft_24 ?_
    refine k_view (V1 := gv_up V a (.inr (4, [.ref c, .int (nI (if n = 80 then 80 else n + 1)), .int (if n = 80 then 1 else tl), .int mk]))) (by first | (rw [if_pos b6, if_pos b6, ← b6]; rfl) | (rw [if_neg b6, if_neg b6])) ?_
    exact k_vret C zr zlk (pv_of rfl) (Nat.le_refl _) (Nat.le_refl _) dX4_keepDraft_27
  · skip
    have b6 : n = 80 := (nI_eq (a := n) (b := 80) (by omega) (by omega)).mp c6
    refine k_aload_n C dX4_keepDraft_9 rfl 0 rfl ?_
    refine k_iconst (v := nI 1) C dX4_keepDraft_10 rfl ?_
    refine k_put (ci := 4) (k := 2) (fs' := [.ref c, .int (nI n), .int (nI 1), .int mk]) C fl_4_22 pf_4_2 h_a rfl rfl (Nat.le_of_ble_eq_true rfl) rfl dX4_keepDraft_11 ?_
    refine k_goto (tgt := 27) C dX4_keepDraft_14 (by decide) ?_
    refine k_view (V1 := gv_up V a (.inr (4, [.ref c, .int (nI (if n = 80 then 80 else n + 1)), .int (if n = 80 then 1 else tl), .int mk]))) (by first | (rw [if_pos b6, if_pos b6, ← b6]; rfl) | (rw [if_neg b6, if_neg b6])) ?_
    exact k_vret C zr zlk (pv_of rfl) (Nat.le_refl _) (Nat.le_refl _) dX4_keepDraft_27
set_option maxHeartbeats 4000000 in
set_option maxRecDepth 100000 in
theorem c_X4_agrees {zl : Launch} {D : va_G} {cI cN cR : ClassId} {base : Nat} {V : gv_V} {a c n : Nat} {tl mk : Int32} {f : Nat → Int32} {b c2 n2 : Nat} {tl2 mk2 : Int32} {g : Nat → Int32} {i j : Nat}  (h_a : V a = some (.inr (4, [.ref c, .int (nI n), .int tl, .int mk]))) (h_c : V c = some (.inl (cI, 486, .inl f))) (h_b : V b = some (.inr (4, [.ref c2, .int (nI n2), .int tl2, .int mk2]))) (h_c2 : V c2 = some (.inl (cI, 486, .inl g))) (hi : i ≤ 80) (hj : j ≤ 80) : ct zl D [(cI, .int), (cN, .object "AlgebraTree$Node"), (cR, .object "AlgebraTree$Rows")] base yX4_agrees cX4_agrees 7 (some .boolean) 1 0 0 [.ref a, .int (nI i), .ref b, .int (nI j)] V (pi (bI (agr (rwf f i) (rwf g j))) V) := by
  refine ct_of "AlgebraTree$Rows" rfl (by decide) (Nat.le_of_ble_eq_true rfl) ?_
  intro zp ze zs zm zargs zbelow zmeth zc C zr zlk znm
  refine k_pc (pc' := 0) (st' := []) rfl rfl ?_
  show K zp zl ze (gv_rm 1 0 0) zs zm zargs zbelow zmeth zc D base 7 (gv_E D [(cI, .int), (cN, .object "AlgebraTree$Node"), (cR, .object "AlgebraTree$Rows")] base zbelow zargs zs 0 0 (pi (bI (agr (rwf f i) (rwf g j))) V)) V 0 0 [(0, .ref a), (1, .int (nI i)), (2, .ref b), (3, .int (nI j))] 0 []
  refine k_iconst (v := nI 0) C dX4_agrees_0 rfl ?_
  refine k_istore (lv' := [(4, .int (nI 0)), (0, .ref a), (1, .int (nI i)), (2, .ref b), (3, .int (nI j))]) C dX4_agrees_1 (by decide) rfl ?_
  have L3 : ∀ (zn1 : Nat) (k : Nat), 6 - k < zn1 → (k ≤ 6) → (∀ z, z < k → agP (rwf f i) (rwf g j) z = true) → K zp zl ze (gv_rm 1 0 0) zs zm zargs zbelow zmeth zc D base 7 (gv_E D [(cI, .int), (cN, .object "AlgebraTree$Node"), (cR, .object "AlgebraTree$Rows")] base zbelow zargs zs 0 0 (pi (bI (agr (rwf f i) (rwf g j))) V)) V 0 0 [(4, .int (nI k)), (0, .ref a), (1, .int (nI i)), (2, .ref b), (3, .int (nI j))] 3 [] := by
    intro zn1
    induction zn1 with
    | zero => intro k hlt; exact absurd hlt (Nat.not_lt_zero _)
    | succ zn1 ih3 =>
      intro k hlt3  hk hal
      refine k_iload C dX4_agrees_3 0 rfl ?_
      refine k_bipush (v := nI 6) C dX4_agrees_5 rfl ?_
      refine k_icmp_ge (tgt := 57) C dX4_agrees_7 (by decide) (fun c7 => ?_) (fun c7 => ?_)
      · skip
        have b7 : 6 ≤ k := (nI_leI (a := 6) (b := k) (by omega) (by omega)).mp c7
        refine k_iconst (v := nI 1) C dX4_agrees_57 rfl ?_
        exact k_zret C zr zlk rfl (pi_of (bI_t (al_iff.mpr (fun z hz => hal z (by omega)))) rfl) (Nat.le_refl _) (Nat.le_refl _) dX4_agrees_58
      · skip
        have b7 : ¬ 6 ≤ k := fun z => c7 ((nI_leI (a := 6) (b := k) (by omega) (by omega)).mpr z)
        refine k_aload_n C dX4_agrees_10 rfl 1 rfl ?_
        refine k_iload_n C dX4_agrees_11 rfl 2 rfl ?_
        refine k_iload C dX4_agrees_12 0 rfl ?_
        refine k_callV_pi C mv_4_41 (c_X4_at  h_a h_c (by first | assumption | omega) (by first | assumption | omega)) h_a rfl rfl (by simp [Value.category]) ⟨by decide, by decide⟩ ⟨(by decide), (by decide)⟩ dX4_agrees_14 ?_
        refine k_istore (lv' := [(5, .int (f (i * 6 + k))), (4, .int (nI k)), (0, .ref a), (1, .int (nI i)), (2, .ref b), (3, .int (nI j))]) C dX4_agrees_17 (by decide) rfl ?_
        refine k_aload_n C dX4_agrees_19 rfl 4 rfl ?_
        refine k_iload_n C dX4_agrees_20 rfl 5 rfl ?_
        refine k_iload C dX4_agrees_21 1 rfl ?_
        refine k_callV_pi C mv_4_41 (c_X4_at  h_b h_c2 (by first | assumption | omega) (by first | assumption | omega)) h_b rfl rfl (by simp [Value.category]) ⟨by decide, by decide⟩ ⟨(by decide), (by decide)⟩ dX4_agrees_23 ?_
        refine k_istore (lv' := [(6, .int (g (j * 6 + k))), (5, .int (f (i * 6 + k))), (4, .int (nI k)), (0, .ref a), (1, .int (nI i)), (2, .ref b), (3, .int (nI j))]) C dX4_agrees_26 (by decide) rfl ?_
        refine k_iload C dX4_agrees_28 1 rfl ?_
        refine k_ldc (v := (-2147483648)) C wd_433 dX4_agrees_30 ?_
        refine k_icmp_eq (tgt := 51) C dX4_agrees_32 (by decide) (fun c32 => ?_) (fun c32 => ?_)
        · skip
          refine k_iinc (v := nI (k + 1)) (lv' := [(4, .int (nI (k + 1))), (6, .int (g (j * 6 + k))), (5, .int (f (i * 6 + k))), (0, .ref a), (1, .int (nI i)), (2, .ref b), (3, .int (nI j))]) C dX4_agrees_51 (k := 2) rfl (nI_add k 1) (by decide) rfl ?_
          refine k_goto (tgt := 3) C dX4_agrees_54 (by decide) ?_
          refine k_sub [0, 3, 4, 5, 6] (lv' := [(4, .int (nI (k + 1))), (0, .ref a), (1, .int (nI i)), (2, .ref b), (3, .int (nI j))]) rfl ?_
          exact ih3 (k + 1) (by omega)  (by omega) (al_nx hal (by grind [agP, shP, lkP, rwf, nI]))
        · skip
          refine k_iload C dX4_agrees_35 0 rfl ?_
          refine k_ldc (v := (-2147483648)) C wd_433 dX4_agrees_37 ?_
          refine k_icmp_eq (tgt := 51) C dX4_agrees_39 (by decide) (fun c39 => ?_) (fun c39 => ?_)
          · skip
            refine k_iinc (v := nI (k + 1)) (lv' := [(4, .int (nI (k + 1))), (6, .int (g (j * 6 + k))), (5, .int (f (i * 6 + k))), (0, .ref a), (1, .int (nI i)), (2, .ref b), (3, .int (nI j))]) C dX4_agrees_51 (k := 2) rfl (nI_add k 1) (by decide) rfl ?_
            refine k_goto (tgt := 3) C dX4_agrees_54 (by decide) ?_
            refine k_sub [0, 3, 4, 5, 6] (lv' := [(4, .int (nI (k + 1))), (0, .ref a), (1, .int (nI i)), (2, .ref b), (3, .int (nI j))]) rfl ?_
            exact ih3 (k + 1) (by omega)  (by omega) (al_nx hal (by grind [agP, shP, lkP, rwf, nI]))
          · skip
            refine k_iload C dX4_agrees_42 1 rfl ?_
            refine k_iload C dX4_agrees_44 0 rfl ?_
            refine k_icmp_eq (tgt := 51) C dX4_agrees_46 (by decide) (fun c46 => ?_) (fun c46 => ?_)
            · skip
              refine k_iinc (v := nI (k + 1)) (lv' := [(4, .int (nI (k + 1))), (6, .int (g (j * 6 + k))), (5, .int (f (i * 6 + k))), (0, .ref a), (1, .int (nI i)), (2, .ref b), (3, .int (nI j))]) C dX4_agrees_51 (k := 2) rfl (nI_add k 1) (by decide) rfl ?_
              refine k_goto (tgt := 3) C dX4_agrees_54 (by decide) ?_
              refine k_sub [0, 3, 4, 5, 6] (lv' := [(4, .int (nI (k + 1))), (0, .ref a), (1, .int (nI i)), (2, .ref b), (3, .int (nI j))]) rfl ?_
              exact ih3 (k + 1) (by omega)  (by omega) (al_nx hal (by grind [agP, shP, lkP, rwf, nI]))
            · skip
              refine k_iconst (v := nI 0) C dX4_agrees_49 rfl ?_
              exact k_zret C zr zlk rfl (pi_of (bI_f (al_no (j := k) (by omega) (by grind [agP, rwf]))) rfl) (Nat.le_refl _) (Nat.le_refl _) dX4_agrees_50
  exact L3 _ 0 (Nat.lt_succ_self _)  (by omega) (fun _ h => absurd h (Nat.not_lt_zero _))
set_option maxHeartbeats 4000000 in
set_option maxRecDepth 100000 in
theorem c_X4_shares {zl : Launch} {D : va_G} {cI cN cR : ClassId} {base : Nat} {V : gv_V} {a c n : Nat} {tl mk : Int32} {f : Nat → Int32} {b c2 n2 : Nat} {tl2 mk2 : Int32} {g : Nat → Int32} {i j : Nat}  (h_a : V a = some (.inr (4, [.ref c, .int (nI n), .int tl, .int mk]))) (h_c : V c = some (.inl (cI, 486, .inl f))) (h_b : V b = some (.inr (4, [.ref c2, .int (nI n2), .int tl2, .int mk2]))) (h_c2 : V c2 = some (.inl (cI, 486, .inl g))) (hi : i ≤ 80) (hj : j ≤ 80) : ct zl D [(cI, .int), (cN, .object "AlgebraTree$Node"), (cR, .object "AlgebraTree$Rows")] base yX4_shares cX4_shares 5 (some .boolean) 1 0 0 [.ref a, .int (nI i), .ref b, .int (nI j)] V (pi (bI (shr (rwf f i) (rwf g j))) V) := by
  refine ct_of "AlgebraTree$Rows" rfl (by decide) (Nat.le_of_ble_eq_true rfl) ?_
  intro zp ze zs zm zargs zbelow zmeth zc C zr zlk znm
  refine k_pc (pc' := 0) (st' := []) rfl rfl ?_
  show K zp zl ze (gv_rm 1 0 0) zs zm zargs zbelow zmeth zc D base 5 (gv_E D [(cI, .int), (cN, .object "AlgebraTree$Node"), (cR, .object "AlgebraTree$Rows")] base zbelow zargs zs 0 0 (pi (bI (shr (rwf f i) (rwf g j))) V)) V 0 0 [(0, .ref a), (1, .int (nI i)), (2, .ref b), (3, .int (nI j))] 0 []
  refine k_iconst (v := nI 0) C dX4_shares_0 rfl ?_
  refine k_istore (lv' := [(4, .int (nI 0)), (0, .ref a), (1, .int (nI i)), (2, .ref b), (3, .int (nI j))]) C dX4_shares_1 (by decide) rfl ?_
  have L3 : ∀ (zn1 : Nat) (k : Nat), 6 - k < zn1 → (k ≤ 6) → (∀ z, z < k → shP (rwf f i) (rwf g j) z = true) → K zp zl ze (gv_rm 1 0 0) zs zm zargs zbelow zmeth zc D base 5 (gv_E D [(cI, .int), (cN, .object "AlgebraTree$Node"), (cR, .object "AlgebraTree$Rows")] base zbelow zargs zs 0 0 (pi (bI (shr (rwf f i) (rwf g j))) V)) V 0 0 [(4, .int (nI k)), (0, .ref a), (1, .int (nI i)), (2, .ref b), (3, .int (nI j))] 3 [] := by
    intro zn1
    induction zn1 with
    | zero => intro k hlt; exact absurd hlt (Nat.not_lt_zero _)
    | succ zn1 ih3 =>
      intro k hlt3  hk hal
      refine k_iload C dX4_shares_3 0 rfl ?_
      refine k_bipush (v := nI 6) C dX4_shares_5 rfl ?_
      refine k_icmp_ge (tgt := 42) C dX4_shares_7 (by decide) (fun c7 => ?_) (fun c7 => ?_)
      · skip
        have b7 : 6 ≤ k := (nI_leI (a := 6) (b := k) (by omega) (by omega)).mp c7
        refine k_iconst (v := nI 0) C dX4_shares_42 rfl ?_
        exact k_zret C zr zlk rfl (pi_of (bI_f (by simp only [shr]; rw [al_iff.mpr (fun z hz => hal z (by omega))]; rfl)) rfl) (Nat.le_refl _) (Nat.le_refl _) dX4_shares_43
      · skip
        have b7 : ¬ 6 ≤ k := fun z => c7 ((nI_leI (a := 6) (b := k) (by omega) (by omega)).mpr z)
        refine k_aload_n C dX4_shares_10 rfl 1 rfl ?_
        refine k_iload_n C dX4_shares_11 rfl 2 rfl ?_
        refine k_iload C dX4_shares_12 0 rfl ?_
        refine k_callV_pi C mv_4_41 (c_X4_at  h_a h_c (by first | assumption | omega) (by first | assumption | omega)) h_a rfl rfl (by simp [Value.category]) ⟨by decide, by decide⟩ ⟨(by decide), (by decide)⟩ dX4_shares_14 ?_
        refine k_ldc (v := (-2147483648)) C wd_433 dX4_shares_17 ?_
        refine k_icmp_eq (tgt := 36) C dX4_shares_19 (by decide) (fun c19 => ?_) (fun c19 => ?_)
        · skip
          refine k_iinc (v := nI (k + 1)) (lv' := [(4, .int (nI (k + 1))), (0, .ref a), (1, .int (nI i)), (2, .ref b), (3, .int (nI j))]) C dX4_shares_36 (k := 0) rfl (nI_add k 1) (by decide) rfl ?_
          refine k_goto (tgt := 3) C dX4_shares_39 (by decide) ?_
          exact ih3 (k + 1) (by omega)  (by omega) (al_nx hal (by grind [agP, shP, lkP, rwf, nI]))
        · skip
          refine k_aload_n C dX4_shares_22 rfl 3 rfl ?_
          refine k_iload_n C dX4_shares_23 rfl 4 rfl ?_
          refine k_iload C dX4_shares_24 0 rfl ?_
          refine k_callV_pi C mv_4_41 (c_X4_at  h_b h_c2 (by first | assumption | omega) (by first | assumption | omega)) h_b rfl rfl (by simp [Value.category]) ⟨by decide, by decide⟩ ⟨(by decide), (by decide)⟩ dX4_shares_26 ?_
          refine k_ldc (v := (-2147483648)) C wd_433 dX4_shares_29 ?_
          refine k_icmp_eq (tgt := 36) C dX4_shares_31 (by decide) (fun c31 => ?_) (fun c31 => ?_)
          · skip
            refine k_iinc (v := nI (k + 1)) (lv' := [(4, .int (nI (k + 1))), (0, .ref a), (1, .int (nI i)), (2, .ref b), (3, .int (nI j))]) C dX4_shares_36 (k := 0) rfl (nI_add k 1) (by decide) rfl ?_
            refine k_goto (tgt := 3) C dX4_shares_39 (by decide) ?_
            exact ih3 (k + 1) (by omega)  (by omega) (al_nx hal (by grind [agP, shP, lkP, rwf, nI]))
          · skip
            refine k_iconst (v := nI 1) C dX4_shares_34 rfl ?_
            exact k_zret C zr zlk rfl (pi_of (bI_t (by simp only [shr]; rw [al_no (j := k) (by omega) (by grind [shP, rwf])]; rfl)) rfl) (Nat.le_refl _) (Nat.le_refl _) dX4_shares_35
  exact L3 _ 0 (Nat.lt_succ_self _)  (by omega) (fun _ h => absurd h (Nat.not_lt_zero _))
set_option maxHeartbeats 4000000 in
set_option maxRecDepth 100000 in
theorem c_X4_isLike {zl : Launch} {D : va_G} {cI cN cR : ClassId} {base : Nat} {V : gv_V} {a c n : Nat} {tl mk : Int32} {f : Nat → Int32} {b c2 n2 : Nat} {tl2 mk2 : Int32} {g : Nat → Int32} {i j : Nat} {x : Int32}  (h_a : V a = some (.inr (4, [.ref c, .int (nI n), .int tl, .int mk]))) (h_c : V c = some (.inl (cI, 486, .inl f))) (h_b : V b = some (.inr (4, [.ref c2, .int (nI n2), .int tl2, .int mk2]))) (h_c2 : V c2 = some (.inl (cI, 486, .inl g))) (hi : i ≤ 80) (hj : j ≤ 80) : ct zl D [(cI, .int), (cN, .object "AlgebraTree$Node"), (cR, .object "AlgebraTree$Rows")] base yX4_isLike cX4_isLike 6 (some .boolean) 1 0 0 [.ref a, .int (nI i), .ref b, .int (nI j), .int x] V (pi (bI (lik x (rwf f i) (rwf g j))) V) := by
  refine ct_of "AlgebraTree$Rows" rfl (by decide) (Nat.le_of_ble_eq_true rfl) ?_
  intro zp ze zs zm zargs zbelow zmeth zc C zr zlk znm
  refine k_pc (pc' := 0) (st' := []) rfl rfl ?_
  show K zp zl ze (gv_rm 1 0 0) zs zm zargs zbelow zmeth zc D base 6 (gv_E D [(cI, .int), (cN, .object "AlgebraTree$Node"), (cR, .object "AlgebraTree$Rows")] base zbelow zargs zs 0 0 (pi (bI (lik x (rwf f i) (rwf g j))) V)) V 0 0 [(0, .ref a), (1, .int (nI i)), (2, .ref b), (3, .int (nI j)), (4, .int x)] 0 []
  refine k_iconst (v := nI 0) C dX4_isLike_0 rfl ?_
  refine k_istore (lv' := [(5, .int (nI 0)), (0, .ref a), (1, .int (nI i)), (2, .ref b), (3, .int (nI j)), (4, .int x)]) C dX4_isLike_1 (by decide) rfl ?_
  have L3 : ∀ (zn1 : Nat) (k : Nat), 6 - k < zn1 → (k ≤ 6) → (∀ z, z < k → lkP x (rwf f i) (rwf g j) z = true) → K zp zl ze (gv_rm 1 0 0) zs zm zargs zbelow zmeth zc D base 6 (gv_E D [(cI, .int), (cN, .object "AlgebraTree$Node"), (cR, .object "AlgebraTree$Rows")] base zbelow zargs zs 0 0 (pi (bI (lik x (rwf f i) (rwf g j))) V)) V 0 0 [(5, .int (nI k)), (0, .ref a), (1, .int (nI i)), (2, .ref b), (3, .int (nI j)), (4, .int x)] 3 [] := by
    intro zn1
    induction zn1 with
    | zero => intro k hlt; exact absurd hlt (Nat.not_lt_zero _)
    | succ zn1 ih3 =>
      intro k hlt3  hk hal
      refine k_iload C dX4_isLike_3 0 rfl ?_
      refine k_bipush (v := nI 6) C dX4_isLike_5 rfl ?_
      refine k_icmp_ge (tgt := 45) C dX4_isLike_7 (by decide) (fun c7 => ?_) (fun c7 => ?_)
      · skip
        have b7 : 6 ≤ k := (nI_leI (a := 6) (b := k) (by omega) (by omega)).mp c7
        refine k_iconst (v := nI 1) C dX4_isLike_45 rfl ?_
        exact k_zret C zr zlk rfl (pi_of (bI_t (al_iff.mpr (fun z hz => hal z (by omega)))) rfl) (Nat.le_refl _) (Nat.le_refl _) dX4_isLike_46
      · skip
        have b7 : ¬ 6 ≤ k := fun z => c7 ((nI_leI (a := 6) (b := k) (by omega) (by omega)).mpr z)
        refine k_iload C dX4_isLike_10 0 rfl ?_
        refine k_iload C dX4_isLike_12 5 rfl ?_
        refine k_callS_pi C ms_4_37 (c_X6_isInSet   ) rfl rfl (by simp [Value.category]) ⟨by decide, by decide⟩ ⟨(by decide), (by decide)⟩ dX4_isLike_14 ?_
        refine k_if_eq (tgt := 39) C dX4_isLike_17 (by decide) (fun c17 => ?_) (fun c17 => ?_)
        · skip
          have b17 : (inS x (nI k)) = false := bI_0.mp c17
          refine k_iinc (v := nI (k + 1)) (lv' := [(5, .int (nI (k + 1))), (0, .ref a), (1, .int (nI i)), (2, .ref b), (3, .int (nI j)), (4, .int x)]) C dX4_isLike_39 (k := 0) rfl (nI_add k 1) (by decide) rfl ?_
          refine k_goto (tgt := 3) C dX4_isLike_42 (by decide) ?_
          exact ih3 (k + 1) (by omega)  (by omega) (al_nx hal (by grind [lkP, rwf]))
        · skip
          have b17 : (inS x (nI k)) = true := bI_n.mp c17
          refine k_aload_n C dX4_isLike_20 rfl 1 rfl ?_
          refine k_iload_n C dX4_isLike_21 rfl 2 rfl ?_
          refine k_iload C dX4_isLike_22 0 rfl ?_
          refine k_callV_pi C mv_4_41 (c_X4_at  h_a h_c (by first | assumption | omega) (by first | assumption | omega)) h_a rfl rfl (by simp [Value.category]) ⟨by decide, by decide⟩ ⟨(by decide), (by decide)⟩ dX4_isLike_24 ?_
          refine k_aload_n C dX4_isLike_27 rfl 3 rfl ?_
          refine k_iload_n C dX4_isLike_28 rfl 4 rfl ?_
          refine k_iload C dX4_isLike_29 0 rfl ?_
          refine k_callV_pi C mv_4_41 (c_X4_at  h_b h_c2 (by first | assumption | omega) (by first | assumption | omega)) h_b rfl rfl (by simp [Value.category]) ⟨by decide, by decide⟩ ⟨(by decide), (by decide)⟩ dX4_isLike_31 ?_
          refine k_icmp_eq (tgt := 39) C dX4_isLike_34 (by decide) (fun c34 => ?_) (fun c34 => ?_)
          · skip
            refine k_iinc (v := nI (k + 1)) (lv' := [(5, .int (nI (k + 1))), (0, .ref a), (1, .int (nI i)), (2, .ref b), (3, .int (nI j)), (4, .int x)]) C dX4_isLike_39 (k := 0) rfl (nI_add k 1) (by decide) rfl ?_
            refine k_goto (tgt := 3) C dX4_isLike_42 (by decide) ?_
            exact ih3 (k + 1) (by omega)  (by omega) (al_nx hal (by grind [lkP, rwf]))
          · skip
            refine k_iconst (v := nI 0) C dX4_isLike_37 rfl ?_
            exact k_zret C zr zlk rfl (pi_of (bI_f (al_no (j := k) (by omega) (by grind [lkP, rwf]))) rfl) (Nat.le_refl _) (Nat.le_refl _) dX4_isLike_38
  exact L3 _ 0 (Nat.lt_succ_self _)  (by omega) (fun _ h => absurd h (Nat.not_lt_zero _))
set_option maxHeartbeats 4000000 in
set_option maxRecDepth 100000 in
theorem c_X4_hasLike {zl : Launch} {D : va_G} {cI cN cR : ClassId} {base : Nat} {V : gv_V} {a c n : Nat} {tl mk : Int32} {f : Nat → Int32} {b c2 n2 : Nat} {tl2 mk2 : Int32} {g : Nat → Int32} {j : Nat} {x : Int32}  (h_a : V a = some (.inr (4, [.ref c, .int (nI n), .int tl, .int mk]))) (h_c : V c = some (.inl (cI, 486, .inl f))) (h_b : V b = some (.inr (4, [.ref c2, .int (nI n2), .int tl2, .int mk2]))) (h_c2 : V c2 = some (.inl (cI, 486, .inl g))) (hn : n ≤ 80) (hj : j ≤ 80) : ct zl D [(cI, .int), (cN, .object "AlgebraTree$Node"), (cR, .object "AlgebraTree$Rows")] base yX4_hasLike cX4_hasLike 5 (some .boolean) 2 0 0 [.ref a, .ref b, .int (nI j), .int x] V (pi (bI (hasL x f n (rwf g j))) V) := by
  refine ct_of "AlgebraTree$Rows" rfl (by decide) (Nat.le_of_ble_eq_true rfl) ?_
  intro zp ze zs zm zargs zbelow zmeth zc C zr zlk znm
  refine k_pc (pc' := 0) (st' := []) rfl rfl ?_
  show K zp zl ze (gv_rm 2 0 0) zs zm zargs zbelow zmeth zc D base 5 (gv_E D [(cI, .int), (cN, .object "AlgebraTree$Node"), (cR, .object "AlgebraTree$Rows")] base zbelow zargs zs 0 0 (pi (bI (hasL x f n (rwf g j))) V)) V 0 0 [(0, .ref a), (1, .ref b), (2, .int (nI j)), (3, .int x)] 0 []
  refine k_iconst (v := nI 0) C dX4_hasLike_0 rfl ?_
  refine k_istore (lv' := [(4, .int (nI 0)), (0, .ref a), (1, .ref b), (2, .int (nI j)), (3, .int x)]) C dX4_hasLike_1 (by decide) rfl ?_
  have L3 : ∀ (zn1 : Nat) (k : Nat), n - k < zn1 → (k ≤ n) → (∀ z, z < k → (!lik x (rwf f z) (rwf g j)) = true) → K zp zl ze (gv_rm 2 0 0) zs zm zargs zbelow zmeth zc D base 5 (gv_E D [(cI, .int), (cN, .object "AlgebraTree$Node"), (cR, .object "AlgebraTree$Rows")] base zbelow zargs zs 0 0 (pi (bI (hasL x f n (rwf g j))) V)) V 0 0 [(4, .int (nI k)), (0, .ref a), (1, .ref b), (2, .int (nI j)), (3, .int x)] 3 [] := by
    intro zn1
    induction zn1 with
    | zero => intro k hlt; exact absurd hlt (Nat.not_lt_zero _)
    | succ zn1 ih3 =>
      intro k hlt3  hk hal
      refine k_iload C dX4_hasLike_3 0 rfl ?_
      refine k_aload_n C dX4_hasLike_5 rfl 1 rfl ?_
      refine k_get (ci := 4) (k := 1) C fl_4_19 h_a rfl dX4_hasLike_6 ?_
      refine k_icmp_ge (tgt := 32) C dX4_hasLike_9 (by decide) (fun c9 => ?_) (fun c9 => ?_)
      · skip
        have b9 : n ≤ k := (nI_leI (a := n) (b := k) (by omega) (by omega)).mp c9
        refine k_iconst (v := nI 0) C dX4_hasLike_32 rfl ?_
        exact k_zret C zr zlk rfl (pi_of (bI_f (by simp only [hasL]; rw [al_iff.mpr (fun z hz => hal z (by omega))]; rfl)) rfl) (Nat.le_refl _) (Nat.le_refl _) dX4_hasLike_33
      · skip
        have b9 : ¬ n ≤ k := fun z => c9 ((nI_leI (a := n) (b := k) (by omega) (by omega)).mpr z)
        refine k_aload_n C dX4_hasLike_12 rfl 1 rfl ?_
        refine k_iload C dX4_hasLike_13 0 rfl ?_
        refine k_aload_n C dX4_hasLike_15 rfl 2 rfl ?_
        refine k_iload_n C dX4_hasLike_16 rfl 3 rfl ?_
        refine k_iload_n C dX4_hasLike_17 rfl 4 rfl ?_
        refine k_callV_pi C mv_4_56 (c_X4_isLike  h_a h_c h_b h_c2 (by first | assumption | omega) (by first | assumption | omega)) h_a rfl rfl (by simp [Value.category]) ⟨by decide, by decide⟩ ⟨(by decide), (by decide)⟩ dX4_hasLike_18 ?_
        refine k_if_eq (tgt := 26) C dX4_hasLike_21 (by decide) (fun c21 => ?_) (fun c21 => ?_)
        · skip
          have b21 : (lik x (rwf f k) (rwf g j)) = false := bI_0.mp c21
          refine k_iinc (v := nI (k + 1)) (lv' := [(4, .int (nI (k + 1))), (0, .ref a), (1, .ref b), (2, .int (nI j)), (3, .int x)]) C dX4_hasLike_26 (k := 0) rfl (nI_add k 1) (by decide) rfl ?_
          refine k_goto (tgt := 3) C dX4_hasLike_29 (by decide) ?_
          exact ih3 (k + 1) (by omega)  (by omega) (al_nx (P := fun z => !lik x (rwf f z) (rwf g j)) hal (by simp [b21]))
        · skip
          have b21 : (lik x (rwf f k) (rwf g j)) = true := bI_n.mp c21
          refine k_iconst (v := nI 1) C dX4_hasLike_24 rfl ?_
          exact k_zret C zr zlk rfl (pi_of (bI_t (by simp only [hasL]; rw [al_no (j := k) (by omega) (by simp [b21])]; rfl)) rfl) (Nat.le_refl _) (Nat.le_refl _) dX4_hasLike_25
  exact L3 _ 0 (Nat.lt_succ_self _)  (by omega) (fun _ h => absurd h (Nat.not_lt_zero _))
set_option maxHeartbeats 4000000 in
set_option maxRecDepth 100000 in
theorem c_X4_countLike {zl : Launch} {D : va_G} {cI cN cR : ClassId} {base : Nat} {V : gv_V} {a c n : Nat} {tl mk : Int32} {f : Nat → Int32} {b c2 n2 : Nat} {tl2 mk2 : Int32} {g : Nat → Int32} {j : Nat}  (h_a : V a = some (.inr (4, [.ref c, .int (nI n), .int tl, .int mk]))) (h_c : V c = some (.inl (cI, 486, .inl f))) (h_b : V b = some (.inr (4, [.ref c2, .int (nI n2), .int tl2, .int mk2]))) (h_c2 : V c2 = some (.inl (cI, 486, .inl g))) (hn : n ≤ 80) (hj : j ≤ 80) : ct zl D [(cI, .int), (cN, .object "AlgebraTree$Node"), (cR, .object "AlgebraTree$Rows")] base yX4_countLike cX4_countLike 5 (some .int) 2 0 0 [.ref a, .ref b, .int (nI j)] V (pi (nI (cntL f n (rwf g j))) V) := by
  refine ct_of "AlgebraTree$Rows" rfl (by decide) (Nat.le_of_ble_eq_true rfl) ?_
  intro zp ze zs zm zargs zbelow zmeth zc C zr zlk znm
  refine k_pc (pc' := 0) (st' := []) rfl rfl ?_
  show K zp zl ze (gv_rm 2 0 0) zs zm zargs zbelow zmeth zc D base 5 (gv_E D [(cI, .int), (cN, .object "AlgebraTree$Node"), (cR, .object "AlgebraTree$Rows")] base zbelow zargs zs 0 0 (pi (nI (cntL f n (rwf g j))) V)) V 0 0 [(0, .ref a), (1, .ref b), (2, .int (nI j))] 0 []
  refine k_iconst (v := nI 0) C dX4_countLike_0 rfl ?_
  refine k_istore_n (lv' := [(3, .int (nI 0)), (0, .ref a), (1, .ref b), (2, .int (nI j))]) C dX4_countLike_1 rfl (by decide) rfl ?_
  refine k_iconst (v := nI 0) C dX4_countLike_2 rfl ?_
  refine k_istore (lv' := [(4, .int (nI 0)), (3, .int (nI 0)), (0, .ref a), (1, .ref b), (2, .int (nI j))]) C dX4_countLike_3 (by decide) rfl ?_
  have L5 : ∀ (zn1 : Nat) (k : Nat) (z : Nat), n - k < zn1 → (k ≤ n) → (z = cntL f k (rwf g j)) → (z ≤ k) → K zp zl ze (gv_rm 2 0 0) zs zm zargs zbelow zmeth zc D base 5 (gv_E D [(cI, .int), (cN, .object "AlgebraTree$Node"), (cR, .object "AlgebraTree$Rows")] base zbelow zargs zs 0 0 (pi (nI (cntL f n (rwf g j))) V)) V 0 0 [(3, .int (nI z)), (4, .int (nI k)), (0, .ref a), (1, .ref b), (2, .int (nI j))] 5 [] := by
    intro zn1
    induction zn1 with
    | zero => intro k z hlt; exact absurd hlt (Nat.not_lt_zero _)
    | succ zn1 ih5 =>
      intro k z hlt5  hk hz hzk
      refine k_iload C dX4_countLike_5 1 rfl ?_
      refine k_aload_n C dX4_countLike_7 rfl 2 rfl ?_
      refine k_get (ci := 4) (k := 1) C fl_4_19 h_a rfl dX4_countLike_8 ?_
      refine k_icmp_ge (tgt := 36) C dX4_countLike_11 (by decide) (fun c11 => ?_) (fun c11 => ?_)
      · skip
        have b11 : n ≤ k := (nI_leI (a := n) (b := k) (by omega) (by omega)).mp c11
        refine k_iload_n C dX4_countLike_36 rfl 0 rfl ?_
        exact k_iret C zr zlk (pi_of (by rw [hz, show k = n by omega]) rfl) (Nat.le_refl _) (Nat.le_refl _) dX4_countLike_37
      · skip
        have b11 : ¬ n ≤ k := fun z => c11 ((nI_leI (a := n) (b := k) (by omega) (by omega)).mpr z)
        refine k_aload_n C dX4_countLike_14 rfl 2 rfl ?_
        refine k_iload C dX4_countLike_15 1 rfl ?_
        refine k_aload_n C dX4_countLike_17 rfl 3 rfl ?_
        refine k_iload_n C dX4_countLike_18 rfl 4 rfl ?_
        refine k_bipush (v := nI 63) C dX4_countLike_19 rfl ?_
        refine k_callV_pi C mv_4_56 (c_X4_isLike  h_a h_c h_b h_c2 (by first | assumption | omega) (by first | assumption | omega)) h_a rfl rfl (by simp [Value.category]) ⟨by decide, by decide⟩ ⟨(by decide), (by decide)⟩ dX4_countLike_21 ?_
        refine k_if_eq (tgt := 30) C dX4_countLike_24 (by decide) (fun c24 => ?_) (fun c24 => ?_)
        · skip
          have b24 : (lik (nI 63) (rwf f k) (rwf g j)) = false := bI_0.mp c24
          refine k_iinc (v := nI (k + 1)) (lv' := [(4, .int (nI (k + 1))), (3, .int (nI z)), (0, .ref a), (1, .ref b), (2, .int (nI j))]) C dX4_countLike_30 (k := 1) rfl (nI_add k 1) (by decide) rfl ?_
          refine k_goto (tgt := 5) C dX4_countLike_33 (by decide) ?_
          refine k_sub [1, 0, 2, 3, 4] (lv' := [(3, .int (nI z)), (4, .int (nI (k + 1))), (0, .ref a), (1, .ref b), (2, .int (nI j))]) rfl ?_
          exact ih5 (k + 1) z (by omega)  (by omega) (by rw [hz]; simp only [cntL, cnt]; simp [b24]) (by omega)
        · skip
          have b24 : (lik (nI 63) (rwf f k) (rwf g j)) = true := bI_n.mp c24
          refine k_iinc (v := nI (z + 1)) (lv' := [(3, .int (nI (z + 1))), (4, .int (nI k)), (0, .ref a), (1, .ref b), (2, .int (nI j))]) C dX4_countLike_27 (k := 0) rfl (nI_add z 1) (by decide) rfl ?_
          refine k_iinc (v := nI (k + 1)) (lv' := [(4, .int (nI (k + 1))), (3, .int (nI (z + 1))), (0, .ref a), (1, .ref b), (2, .int (nI j))]) C dX4_countLike_30 (k := 1) rfl (nI_add k 1) (by decide) rfl ?_
          refine k_goto (tgt := 5) C dX4_countLike_33 (by decide) ?_
          refine k_sub [1, 0, 2, 3, 4] (lv' := [(3, .int (nI (z + 1))), (4, .int (nI (k + 1))), (0, .ref a), (1, .ref b), (2, .int (nI j))]) rfl ?_
          exact ih5 (k + 1) (z + 1) (by omega)  (by omega) (by rw [hz]; simp only [cntL, cnt]; simp [b24]) (by omega)
  refine k_sub [1, 0, 2, 3, 4] (lv' := [(3, .int (nI 0)), (4, .int (nI 0)), (0, .ref a), (1, .ref b), (2, .int (nI j))]) rfl ?_
  exact L5 _ 0 0 (Nat.lt_succ_self _)  (by omega) rfl (by omega)
set_option maxHeartbeats 4000000 in
set_option maxRecDepth 100000 in
theorem c_X4_isSameBagAs {zl : Launch} {D : va_G} {cI cN cR : ClassId} {base : Nat} {V : gv_V} {a c n : Nat} {tl mk : Int32} {f : Nat → Int32} {b c2 n2 : Nat} {tl2 mk2 : Int32} {g : Nat → Int32}  (h_a : V a = some (.inr (4, [.ref c, .int (nI n), .int tl, .int mk]))) (h_c : V c = some (.inl (cI, 486, .inl f))) (h_b : V b = some (.inr (4, [.ref c2, .int (nI n2), .int tl2, .int mk2]))) (h_c2 : V c2 = some (.inl (cI, 486, .inl g))) (hn : n ≤ 80) (hn2 : n2 ≤ 80) : ct zl D [(cI, .int), (cN, .object "AlgebraTree$Node"), (cR, .object "AlgebraTree$Rows")] base yX4_isSameBagAs cX4_isSameBagAs 3 (some .boolean) 3 0 0 [.ref a, .ref b] V (pi (bI (sbag f n g n2)) V) := by
  refine ct_of "AlgebraTree$Rows" rfl (by decide) (Nat.le_of_ble_eq_true rfl) ?_
  intro zp ze zs zm zargs zbelow zmeth zc C zr zlk znm
  refine k_pc (pc' := 0) (st' := []) rfl rfl ?_
  show K zp zl ze (gv_rm 3 0 0) zs zm zargs zbelow zmeth zc D base 3 (gv_E D [(cI, .int), (cN, .object "AlgebraTree$Node"), (cR, .object "AlgebraTree$Rows")] base zbelow zargs zs 0 0 (pi (bI (sbag f n g n2)) V)) V 0 0 [(0, .ref a), (1, .ref b)] 0 []
  refine k_aload_n C dX4_isSameBagAs_0 rfl 0 rfl ?_
  refine k_get (ci := 4) (k := 1) C fl_4_19 h_a rfl dX4_isSameBagAs_1 ?_
  refine k_aload_n C dX4_isSameBagAs_4 rfl 1 rfl ?_
  refine k_get (ci := 4) (k := 1) C fl_4_19 h_b rfl dX4_isSameBagAs_5 ?_
  refine k_icmp_eq (tgt := 13) C dX4_isSameBagAs_8 (by decide) (fun c8 => ?_) (fun c8 => ?_)
  · skip
    have b8 : n = n2 := (nI_eq (a := n) (b := n2) (by omega) (by omega)).mp c8
    refine k_iconst (v := nI 0) C dX4_isSameBagAs_13 rfl ?_
    refine k_istore_n (lv' := [(2, .int (nI 0)), (0, .ref a), (1, .ref b)]) C dX4_isSameBagAs_14 rfl (by decide) rfl ?_
    have L15 : ∀ (zn1 : Nat) (k : Nat), n - k < zn1 → (k ≤ n) → (∀ z, z < k → sbP f n g n2 z = true) → K zp zl ze (gv_rm 3 0 0) zs zm zargs zbelow zmeth zc D base 3 (gv_E D [(cI, .int), (cN, .object "AlgebraTree$Node"), (cR, .object "AlgebraTree$Rows")] base zbelow zargs zs 0 0 (pi (bI (sbag f n g n2)) V)) V 0 0 [(2, .int (nI k)), (0, .ref a), (1, .ref b)] 15 [] := by
      intro zn1
      induction zn1 with
      | zero => intro k hlt; exact absurd hlt (Nat.not_lt_zero _)
      | succ zn1 ih15 =>
        intro k hlt15  hk hal
        refine k_iload_n C dX4_isSameBagAs_15 rfl 0 rfl ?_
        refine k_aload_n C dX4_isSameBagAs_16 rfl 1 rfl ?_
        refine k_get (ci := 4) (k := 1) C fl_4_19 h_a rfl dX4_isSameBagAs_17 ?_
        refine k_icmp_ge (tgt := 46) C dX4_isSameBagAs_20 (by decide) (fun c20 => ?_) (fun c20 => ?_)
        · skip
          have b20 : n ≤ k := (nI_leI (a := n) (b := k) (by omega) (by omega)).mp c20
          refine k_iconst (v := nI 1) C dX4_isSameBagAs_46 rfl ?_
          exact k_zret C zr zlk rfl (pi_of (bI_t (by simp only [sbag]; rw [decide_eq_true b8, al_iff.mpr (fun z hz => hal z (by omega))]; rfl)) rfl) (Nat.le_refl _) (Nat.le_refl _) dX4_isSameBagAs_47
        · skip
          have b20 : ¬ n ≤ k := fun z => c20 ((nI_leI (a := n) (b := k) (by omega) (by omega)).mpr z)
          refine k_aload_n C dX4_isSameBagAs_23 rfl 1 rfl ?_
          refine k_aload_n C dX4_isSameBagAs_24 rfl 1 rfl ?_
          refine k_iload_n C dX4_isSameBagAs_25 rfl 0 rfl ?_
          refine k_callV_pi C mv_4_60 (c_X4_countLike  h_a h_c h_a h_c (by first | assumption | omega) (by first | assumption | omega)) h_a rfl rfl (by simp [Value.category]) ⟨by decide, by decide⟩ ⟨(by decide), (by decide)⟩ dX4_isSameBagAs_26 ?_
          refine k_aload_n C dX4_isSameBagAs_29 rfl 2 rfl ?_
          refine k_aload_n C dX4_isSameBagAs_30 rfl 1 rfl ?_
          refine k_iload_n C dX4_isSameBagAs_31 rfl 0 rfl ?_
          refine k_callV_pi C mv_4_60 (c_X4_countLike  h_b h_c2 h_a h_c (by first | assumption | omega) (by first | assumption | omega)) h_b rfl rfl (by simp [Value.category]) ⟨by decide, by decide⟩ ⟨(by decide), (by decide)⟩ dX4_isSameBagAs_32 ?_
          have hc1 := cntL_le f n (rwf f k)
          have hc2 := cntL_le g n2 (rwf f k)
          refine k_icmp_eq (tgt := 40) C dX4_isSameBagAs_35 (by decide) (fun c35 => ?_) (fun c35 => ?_)
          · skip
            have b35 : (cntL f n (rwf f k)) = (cntL g n2 (rwf f k)) := (nI_eq (a := cntL f n (rwf f k)) (b := cntL g n2 (rwf f k)) (by omega) (by omega)).mp c35
            refine k_iinc (v := nI (k + 1)) (lv' := [(2, .int (nI (k + 1))), (0, .ref a), (1, .ref b)]) C dX4_isSameBagAs_40 (k := 0) rfl (nI_add k 1) (by decide) rfl ?_
            refine k_goto (tgt := 15) C dX4_isSameBagAs_43 (by decide) ?_
            exact ih15 (k + 1) (by omega)  (by omega) (al_nx hal (by simp only [sbP]; rw [b35]; exact beq_self_eq_true _))
          · skip
            have b35 : ¬ (cntL f n (rwf f k)) = (cntL g n2 (rwf f k)) := fun z => c35 ((nI_eq (a := cntL f n (rwf f k)) (b := cntL g n2 (rwf f k)) (by omega) (by omega)).mpr z)
            refine k_iconst (v := nI 0) C dX4_isSameBagAs_38 rfl ?_
            exact k_zret C zr zlk rfl (pi_of (bI_f (by simp only [sbag]; rw [al_no (j := k) (by omega) (by simp only [sbP]; simpa using b35)]; exact Bool.and_false _)) rfl) (Nat.le_refl _) (Nat.le_refl _) dX4_isSameBagAs_39
    exact L15 _ 0 (Nat.lt_succ_self _)  (by omega) (fun _ h => absurd h (Nat.not_lt_zero _))
  · skip
    have b8 : ¬ n = n2 := fun z => c8 ((nI_eq (a := n) (b := n2) (by omega) (by omega)).mpr z)
    refine k_iconst (v := nI 0) C dX4_isSameBagAs_11 rfl ?_
    exact k_zret C zr zlk rfl (pi_of (bI_f (by simp only [sbag]; rw [decide_eq_false b8]; rfl)) rfl) (Nat.le_refl _) (Nat.le_refl _) dX4_isSameBagAs_12
set_option maxHeartbeats 4000000 in
set_option maxRecDepth 100000 in
theorem c_X4_draftOpen {zl : Launch} {D : va_G} {cI cN cR : ClassId} {base : Nat} {V : gv_V} {a c n : Nat} {tl mk : Int32} {f : Nat → Int32}  (h_a : V a = some (.inr (4, [.ref c, .int (nI n), .int tl, .int mk]))) (h_c : V c = some (.inl (cI, 486, .inl f))) (hn : n ≤ 80) : ct zl D [(cI, .int), (cN, .object "AlgebraTree$Node"), (cR, .object "AlgebraTree$Rows")] base yX4_draftOpen cX4_draftOpen 2 none 1 0 0 [.ref a] V (pv (gv_up V c (.inl (cI, 486, .inl (wrk f n opn 6))))) := by
  refine ct_of "AlgebraTree$Rows" rfl (by decide) (Nat.le_of_ble_eq_true rfl) ?_
  intro zp ze zs zm zargs zbelow zmeth zc C zr zlk znm
  refine k_pc (pc' := 0) (st' := []) rfl rfl ?_
  show K zp zl ze (gv_rm 1 0 0) zs zm zargs zbelow zmeth zc D base 2 (gv_E D [(cI, .int), (cN, .object "AlgebraTree$Node"), (cR, .object "AlgebraTree$Rows")] base zbelow zargs zs 0 0 (pv (gv_up V c (.inl (cI, 486, .inl (wrk f n opn 6)))))) V 0 0 [(0, .ref a)] 0 []
  refine k_iconst (v := nI 0) C dX4_draftOpen_0 rfl ?_
  refine k_istore_n (lv' := [(1, .int (nI 0)), (0, .ref a)]) C dX4_draftOpen_1 rfl (by decide) rfl ?_
  have L2 : ∀ (zn1 : Nat) (k : Nat), 6 - k < zn1 → (k ≤ 6) → K zp zl ze (gv_rm 1 0 0) zs zm zargs zbelow zmeth zc D base 2 (gv_E D [(cI, .int), (cN, .object "AlgebraTree$Node"), (cR, .object "AlgebraTree$Rows")] base zbelow zargs zs 0 0 (pv (gv_up V c (.inl (cI, 486, .inl (wrk f n opn 6)))))) (gv_up V c (.inl (cI, 486, .inl (wrk f n opn k)))) 0 0 [(1, .int (nI k)), (0, .ref a)] 2 [] := by
    intro zn1
    induction zn1 with
    | zero => intro k hlt; exact absurd hlt (Nat.not_lt_zero _)
    | succ zn1 ih2 =>
      intro k hlt2  hk
      refine k_iload_n C dX4_draftOpen_2 rfl 0 rfl ?_
      refine k_bipush (v := nI 6) C dX4_draftOpen_3 rfl ?_
      refine k_icmp_ge (tgt := 25) C dX4_draftOpen_5 (by decide) (fun c5 => ?_) (fun c5 => ?_)
      · skip
        have b5 : 6 ≤ k := (nI_leI (a := 6) (b := k) (by omega) (by omega)).mp c5
        refine k_view (V1 := gv_up V c (.inl (cI, 486, .inl (wrk f n opn 6)))) (by rw [show k = 6 by omega]) ?_
        exact k_vret C zr zlk (pv_of rfl) (Nat.le_refl _) (Nat.le_refl _) dX4_draftOpen_25
      · skip
        have b5 : ¬ 6 ≤ k := fun z => c5 ((nI_leI (a := 6) (b := k) (by omega) (by omega)).mpr z)
        refine k_aload_n C dX4_draftOpen_8 rfl 1 rfl ?_
        refine k_aload_n C dX4_draftOpen_9 rfl 1 rfl ?_
        have ne2 : nq a c := gv_ne h_c h_a (by simp)
        refine k_get (ci := 4) (k := 1) C fl_4_19 ((gv_up_n ne2).trans h_a) rfl dX4_draftOpen_10 ?_
        refine k_iload_n C dX4_draftOpen_13 rfl 0 rfl ?_
        refine k_ldc (v := (-2147483648)) C wd_433 dX4_draftOpen_14 ?_
        refine k_callV_pv C mv_4_33 (c_X4_put  ((gv_up_n ne2).trans h_a) gv_up_s (by first | assumption | omega) (by first | assumption | omega)) ((gv_up_n ne2).trans h_a) rfl rfl (by simp [Value.category]) ⟨by decide, by decide⟩ ⟨(by decide), (by decide)⟩ dX4_draftOpen_16 ?_
        refine k_view (V1 := gv_up V c (.inl (cI, 486, .inl (upd (wrk f n opn k) (n * 6 + k) (-2147483648 : Int32))))) gv_uu ?_
        refine k_iinc (v := nI (k + 1)) (lv' := [(1, .int (nI (k + 1))), (0, .ref a)]) C dX4_draftOpen_19 (k := 0) rfl (nI_add k 1) (by decide) rfl ?_
        refine k_goto (tgt := 2) C dX4_draftOpen_22 (by decide) ?_
        refine k_view (V1 := gv_up V c (.inl (cI, 486, .inl (wrk f n opn (k + 1))))) (by rw [wrk_s (by rfl)]) ?_
        exact ih2 (k + 1) (by omega)  (by omega)
  refine k_view (V1 := gv_up V c (.inl (cI, 486, .inl f))) (gv_id h_c).symm ?_
  refine k_view (V1 := gv_up V c (.inl (cI, 486, .inl (wrk f n opn 0)))) (by rw [wrk_0]) ?_
  exact L2 _ 0 (Nat.lt_succ_self _)  (by omega)
set_option maxHeartbeats 4000000 in
set_option maxRecDepth 100000 in
theorem c_X4_draftOf {zl : Launch} {D : va_G} {cI cN cR : ClassId} {base : Nat} {V : gv_V} {a c n : Nat} {tl mk : Int32} {f : Nat → Int32} {b c2 n2 : Nat} {tl2 mk2 : Int32} {g : Nat → Int32} {j : Nat} {x : Int32}  (h_a : V a = some (.inr (4, [.ref c, .int (nI n), .int tl, .int mk]))) (h_c : V c = some (.inl (cI, 486, .inl f))) (h_b : V b = some (.inr (4, [.ref c2, .int (nI n2), .int tl2, .int mk2]))) (h_c2 : V c2 = some (.inl (cI, 486, .inl g))) (hn : n ≤ 80) (hj : j ≤ 80) (hab : nq c c2) : ct zl D [(cI, .int), (cN, .object "AlgebraTree$Node"), (cR, .object "AlgebraTree$Rows")] base yX4_draftOf cX4_draftOf 5 none 1 0 0 [.ref a, .ref b, .int (nI j), .int x] V (pv (gv_up V c (.inl (cI, 486, .inl (wrk f n (prj x (rwf g j)) 6))))) := by
  refine ct_of "AlgebraTree$Rows" rfl (by decide) (Nat.le_of_ble_eq_true rfl) ?_
  intro zp ze zs zm zargs zbelow zmeth zc C zr zlk znm
  refine k_pc (pc' := 0) (st' := []) rfl rfl ?_
  show K zp zl ze (gv_rm 1 0 0) zs zm zargs zbelow zmeth zc D base 5 (gv_E D [(cI, .int), (cN, .object "AlgebraTree$Node"), (cR, .object "AlgebraTree$Rows")] base zbelow zargs zs 0 0 (pv (gv_up V c (.inl (cI, 486, .inl (wrk f n (prj x (rwf g j)) 6)))))) V 0 0 [(0, .ref a), (1, .ref b), (2, .int (nI j)), (3, .int x)] 0 []
  refine k_iconst (v := nI 0) C dX4_draftOf_0 rfl ?_
  refine k_istore (lv' := [(4, .int (nI 0)), (0, .ref a), (1, .ref b), (2, .int (nI j)), (3, .int x)]) C dX4_draftOf_1 (by decide) rfl ?_
  have L3 : ∀ (zn1 : Nat) (k : Nat), 6 - k < zn1 → (k ≤ 6) → K zp zl ze (gv_rm 1 0 0) zs zm zargs zbelow zmeth zc D base 5 (gv_E D [(cI, .int), (cN, .object "AlgebraTree$Node"), (cR, .object "AlgebraTree$Rows")] base zbelow zargs zs 0 0 (pv (gv_up V c (.inl (cI, 486, .inl (wrk f n (prj x (rwf g j)) 6)))))) (gv_up V c (.inl (cI, 486, .inl (wrk f n (prj x (rwf g j)) k)))) 0 0 [(4, .int (nI k)), (0, .ref a), (1, .ref b), (2, .int (nI j)), (3, .int x)] 3 [] := by
    intro zn1
    induction zn1 with
    | zero => intro k hlt; exact absurd hlt (Nat.not_lt_zero _)
    | succ zn1 ih3 =>
      intro k hlt3  hk
      refine k_iload C dX4_draftOf_3 0 rfl ?_
      refine k_bipush (v := nI 6) C dX4_draftOf_5 rfl ?_
      refine k_icmp_ge (tgt := 47) C dX4_draftOf_7 (by decide) (fun c7 => ?_) (fun c7 => ?_)
      · skip
        have b7 : 6 ≤ k := (nI_leI (a := 6) (b := k) (by omega) (by omega)).mp c7
        refine k_view (V1 := gv_up V c (.inl (cI, 486, .inl (wrk f n (prj x (rwf g j)) 6)))) (by rw [show k = 6 by omega]) ?_
        exact k_vret C zr zlk (pv_of rfl) (Nat.le_refl _) (Nat.le_refl _) dX4_draftOf_47
      · skip
        have b7 : ¬ 6 ≤ k := fun z => c7 ((nI_leI (a := 6) (b := k) (by omega) (by omega)).mpr z)
        refine k_aload_n C dX4_draftOf_10 rfl 1 rfl ?_
        refine k_aload_n C dX4_draftOf_11 rfl 1 rfl ?_
        have ne2 : nq a c := gv_ne h_c h_a (by simp)
        refine k_get (ci := 4) (k := 1) C fl_4_19 ((gv_up_n ne2).trans h_a) rfl dX4_draftOf_12 ?_
        refine k_iload C dX4_draftOf_15 0 rfl ?_
        refine k_iload C dX4_draftOf_17 0 rfl ?_
        refine k_iload_n C dX4_draftOf_19 rfl 4 rfl ?_
        refine k_callS_pi C ms_4_37 (c_X6_isInSet   ) rfl rfl (by simp [Value.category]) ⟨by decide, by decide⟩ ⟨(by decide), (by decide)⟩ dX4_draftOf_20 ?_
        refine k_if_eq (tgt := 36) C dX4_draftOf_23 (by decide) (fun c23 => ?_) (fun c23 => ?_)
        · skip
          have b23 : (inS x (nI k)) = false := bI_0.mp c23
          refine k_ldc (v := (-2147483648)) C wd_433 dX4_draftOf_36 ?_
          refine k_callV_pv C mv_4_33 (c_X4_put  ((gv_up_n ne2).trans h_a) gv_up_s (by first | assumption | omega) (by first | assumption | omega)) ((gv_up_n ne2).trans h_a) rfl rfl (by simp [Value.category]) ⟨by decide, by decide⟩ ⟨(by decide), (by decide)⟩ dX4_draftOf_38 ?_
          refine k_view (V1 := gv_up V c (.inl (cI, 486, .inl (upd (wrk f n (prj x (rwf g j)) k) (n * 6 + k) (-2147483648 : Int32))))) gv_uu ?_
          refine k_iinc (v := nI (k + 1)) (lv' := [(4, .int (nI (k + 1))), (0, .ref a), (1, .ref b), (2, .int (nI j)), (3, .int x)]) C dX4_draftOf_41 (k := 0) rfl (nI_add k 1) (by decide) rfl ?_
          refine k_goto (tgt := 3) C dX4_draftOf_44 (by decide) ?_
          refine k_view (V1 := gv_up V c (.inl (cI, 486, .inl (wrk f n (prj x (rwf g j)) (k + 1))))) (by rw [wrk_s (by simp [prj, rwf, b23])]) ?_
          exact ih3 (k + 1) (by omega)  (by omega)
        · skip
          have b23 : (inS x (nI k)) = true := bI_n.mp c23
          refine k_aload_n C dX4_draftOf_26 rfl 2 rfl ?_
          refine k_iload_n C dX4_draftOf_27 rfl 3 rfl ?_
          refine k_iload C dX4_draftOf_28 0 rfl ?_
          have ne3 : nq b c := gv_ne h_c h_b (by simp)
          refine k_callV_pi C mv_4_41 (c_X4_at  ((gv_up_n ne3).trans h_b) ((gv_up_n (Ne.symm hab)).trans h_c2) (by first | assumption | omega) (by first | assumption | omega)) ((gv_up_n ne3).trans h_b) rfl rfl (by simp [Value.category]) ⟨by decide, by decide⟩ ⟨(by decide), (by decide)⟩ dX4_draftOf_30 ?_
          refine k_goto (tgt := 38) C dX4_draftOf_33 (by decide) ?_
          refine k_callV_pv C mv_4_33 (c_X4_put  ((gv_up_n ne2).trans h_a) gv_up_s (by first | assumption | omega) (by first | assumption | omega)) ((gv_up_n ne2).trans h_a) rfl rfl (by simp [Value.category]) ⟨by decide, by decide⟩ ⟨(by decide), (by decide)⟩ dX4_draftOf_38 ?_
          refine k_view (V1 := gv_up V c (.inl (cI, 486, .inl (upd (wrk f n (prj x (rwf g j)) k) (n * 6 + k) (g (j * 6 + k)))))) gv_uu ?_
          refine k_iinc (v := nI (k + 1)) (lv' := [(4, .int (nI (k + 1))), (0, .ref a), (1, .ref b), (2, .int (nI j)), (3, .int x)]) C dX4_draftOf_41 (k := 0) rfl (nI_add k 1) (by decide) rfl ?_
          refine k_goto (tgt := 3) C dX4_draftOf_44 (by decide) ?_
          refine k_view (V1 := gv_up V c (.inl (cI, 486, .inl (wrk f n (prj x (rwf g j)) (k + 1))))) (by rw [wrk_s (by simp [prj, rwf, b23])]) ?_
          exact ih3 (k + 1) (by omega)  (by omega)
  refine k_view (V1 := gv_up V c (.inl (cI, 486, .inl f))) (gv_id h_c).symm ?_
  refine k_view (V1 := gv_up V c (.inl (cI, 486, .inl (wrk f n (prj x (rwf g j)) 0)))) (by rw [wrk_0]) ?_
  exact L3 _ 0 (Nat.lt_succ_self _)  (by omega)
set_option maxHeartbeats 4000000 in
set_option maxRecDepth 100000 in
theorem c_X4_draftTogether {zl : Launch} {D : va_G} {cI cN cR : ClassId} {base : Nat} {V : gv_V} {a c n : Nat} {tl mk : Int32} {f : Nat → Int32} {b c2 n2 : Nat} {tl2 mk2 : Int32} {g : Nat → Int32} {d c3 n3 : Nat} {tl3 mk3 : Int32} {h : Nat → Int32} {i j : Nat}  (h_a : V a = some (.inr (4, [.ref c, .int (nI n), .int tl, .int mk]))) (h_c : V c = some (.inl (cI, 486, .inl f))) (h_b : V b = some (.inr (4, [.ref c2, .int (nI n2), .int tl2, .int mk2]))) (h_c2 : V c2 = some (.inl (cI, 486, .inl g))) (h_d : V d = some (.inr (4, [.ref c3, .int (nI n3), .int tl3, .int mk3]))) (h_c3 : V c3 = some (.inl (cI, 486, .inl h))) (hn : n ≤ 80) (hi : i ≤ 80) (hj : j ≤ 80) (hab : nq c c2) (had : nq c c3) : ct zl D [(cI, .int), (cN, .object "AlgebraTree$Node"), (cR, .object "AlgebraTree$Rows")] base yX4_draftTogether cX4_draftTogether 7 none 1 0 0 [.ref a, .ref b, .int (nI i), .ref d, .int (nI j)] V (pv (gv_up V c (.inl (cI, 486, .inl (wrk f n (tog (rwf g i) (rwf h j)) 6))))) := by
  refine ct_of "AlgebraTree$Rows" rfl (by decide) (Nat.le_of_ble_eq_true rfl) ?_
  intro zp ze zs zm zargs zbelow zmeth zc C zr zlk znm
  refine k_pc (pc' := 0) (st' := []) rfl rfl ?_
  show K zp zl ze (gv_rm 1 0 0) zs zm zargs zbelow zmeth zc D base 7 (gv_E D [(cI, .int), (cN, .object "AlgebraTree$Node"), (cR, .object "AlgebraTree$Rows")] base zbelow zargs zs 0 0 (pv (gv_up V c (.inl (cI, 486, .inl (wrk f n (tog (rwf g i) (rwf h j)) 6)))))) V 0 0 [(0, .ref a), (1, .ref b), (2, .int (nI i)), (3, .ref d), (4, .int (nI j))] 0 []
  refine k_iconst (v := nI 0) C dX4_draftTogether_0 rfl ?_
  refine k_istore (lv' := [(5, .int (nI 0)), (0, .ref a), (1, .ref b), (2, .int (nI i)), (3, .ref d), (4, .int (nI j))]) C dX4_draftTogether_1 (by decide) rfl ?_
  have L3 : ∀ (zn1 : Nat) (k : Nat), 6 - k < zn1 → (k ≤ 6) → K zp zl ze (gv_rm 1 0 0) zs zm zargs zbelow zmeth zc D base 7 (gv_E D [(cI, .int), (cN, .object "AlgebraTree$Node"), (cR, .object "AlgebraTree$Rows")] base zbelow zargs zs 0 0 (pv (gv_up V c (.inl (cI, 486, .inl (wrk f n (tog (rwf g i) (rwf h j)) 6)))))) (gv_up V c (.inl (cI, 486, .inl (wrk f n (tog (rwf g i) (rwf h j)) k)))) 0 0 [(5, .int (nI k)), (0, .ref a), (1, .ref b), (2, .int (nI i)), (3, .ref d), (4, .int (nI j))] 3 [] := by
    intro zn1
    induction zn1 with
    | zero => intro k hlt; exact absurd hlt (Nat.not_lt_zero _)
    | succ zn1 ih3 =>
      intro k hlt3  hk
      refine k_iload C dX4_draftTogether_3 0 rfl ?_
      refine k_bipush (v := nI 6) C dX4_draftTogether_5 rfl ?_
      refine k_icmp_ge (tgt := 55) C dX4_draftTogether_7 (by decide) (fun c7 => ?_) (fun c7 => ?_)
      · skip
        have b7 : 6 ≤ k := (nI_leI (a := 6) (b := k) (by omega) (by omega)).mp c7
        refine k_view (V1 := gv_up V c (.inl (cI, 486, .inl (wrk f n (tog (rwf g i) (rwf h j)) 6)))) (by rw [show k = 6 by omega]) ?_
        exact k_vret C zr zlk (pv_of rfl) (Nat.le_refl _) (Nat.le_refl _) dX4_draftTogether_55
      · skip
        have b7 : ¬ 6 ≤ k := fun z => c7 ((nI_leI (a := 6) (b := k) (by omega) (by omega)).mpr z)
        refine k_aload_n C dX4_draftTogether_10 rfl 2 rfl ?_
        refine k_iload_n C dX4_draftTogether_11 rfl 3 rfl ?_
        refine k_iload C dX4_draftTogether_12 0 rfl ?_
        have ne2 : nq b c := gv_ne h_c h_b (by simp)
        refine k_callV_pi C mv_4_41 (c_X4_at  ((gv_up_n ne2).trans h_b) ((gv_up_n (Ne.symm hab)).trans h_c2) (by first | assumption | omega) (by first | assumption | omega)) ((gv_up_n ne2).trans h_b) rfl rfl (by simp [Value.category]) ⟨by decide, by decide⟩ ⟨(by decide), (by decide)⟩ dX4_draftTogether_14 ?_
        refine k_istore (lv' := [(6, .int (g (i * 6 + k))), (5, .int (nI k)), (0, .ref a), (1, .ref b), (2, .int (nI i)), (3, .ref d), (4, .int (nI j))]) C dX4_draftTogether_17 (by decide) rfl ?_
        refine k_aload_n C dX4_draftTogether_19 rfl 2 rfl ?_
        refine k_aload_n C dX4_draftTogether_20 rfl 2 rfl ?_
        have ne3 : nq a c := gv_ne h_c h_a (by simp)
        refine k_get (ci := 4) (k := 1) C fl_4_19 ((gv_up_n ne3).trans h_a) rfl dX4_draftTogether_21 ?_
        refine k_iload C dX4_draftTogether_24 1 rfl ?_
        refine k_iload C dX4_draftTogether_26 0 rfl ?_
        refine k_ldc (v := (-2147483648)) C wd_433 dX4_draftTogether_28 ?_
        refine k_icmp_ne (tgt := 44) C dX4_draftTogether_30 (by decide) (fun c30 => ?_) (fun c30 => ?_)
        · skip
          refine k_iload C dX4_draftTogether_44 0 rfl ?_
          refine k_callV_pv C mv_4_33 (c_X4_put  ((gv_up_n ne3).trans h_a) gv_up_s (by first | assumption | omega) (by first | assumption | omega)) ((gv_up_n ne3).trans h_a) rfl rfl (by simp [Value.category]) ⟨by decide, by decide⟩ ⟨(by decide), (by decide)⟩ dX4_draftTogether_46 ?_
          refine k_view (V1 := gv_up V c (.inl (cI, 486, .inl (upd (wrk f n (tog (rwf g i) (rwf h j)) k) (n * 6 + k) (g (i * 6 + k)))))) gv_uu ?_
          refine k_iinc (v := nI (k + 1)) (lv' := [(5, .int (nI (k + 1))), (6, .int (g (i * 6 + k))), (0, .ref a), (1, .ref b), (2, .int (nI i)), (3, .ref d), (4, .int (nI j))]) C dX4_draftTogether_49 (k := 1) rfl (nI_add k 1) (by decide) rfl ?_
          refine k_goto (tgt := 3) C dX4_draftTogether_52 (by decide) ?_
          refine k_sub [0, 2, 3, 4, 5, 6] (lv' := [(5, .int (nI (k + 1))), (0, .ref a), (1, .ref b), (2, .int (nI i)), (3, .ref d), (4, .int (nI j))]) rfl ?_
          refine k_view (V1 := gv_up V c (.inl (cI, 486, .inl (wrk f n (tog (rwf g i) (rwf h j)) (k + 1))))) (by rw [wrk_s (by simp [tog, rwf, c30])]) ?_
          exact ih3 (k + 1) (by omega)  (by omega)
        · skip
          refine k_aload_n C dX4_draftTogether_33 rfl 5 rfl ?_
          refine k_iload C dX4_draftTogether_34 6 rfl ?_
          refine k_iload C dX4_draftTogether_36 1 rfl ?_
          have ne4 : nq d c := gv_ne h_c h_d (by simp)
          refine k_callV_pi C mv_4_41 (c_X4_at  ((gv_up_n ne4).trans h_d) ((gv_up_n (Ne.symm had)).trans h_c3) (by first | assumption | omega) (by first | assumption | omega)) ((gv_up_n ne4).trans h_d) rfl rfl (by simp [Value.category]) ⟨by decide, by decide⟩ ⟨(by decide), (by decide)⟩ dX4_draftTogether_38 ?_
          refine k_goto (tgt := 46) C dX4_draftTogether_41 (by decide) ?_
          refine k_callV_pv C mv_4_33 (c_X4_put  ((gv_up_n ne3).trans h_a) gv_up_s (by first | assumption | omega) (by first | assumption | omega)) ((gv_up_n ne3).trans h_a) rfl rfl (by simp [Value.category]) ⟨by decide, by decide⟩ ⟨(by decide), (by decide)⟩ dX4_draftTogether_46 ?_
          refine k_view (V1 := gv_up V c (.inl (cI, 486, .inl (upd (wrk f n (tog (rwf g i) (rwf h j)) k) (n * 6 + k) (h (j * 6 + k)))))) gv_uu ?_
          refine k_iinc (v := nI (k + 1)) (lv' := [(5, .int (nI (k + 1))), (6, .int (g (i * 6 + k))), (0, .ref a), (1, .ref b), (2, .int (nI i)), (3, .ref d), (4, .int (nI j))]) C dX4_draftTogether_49 (k := 1) rfl (nI_add k 1) (by decide) rfl ?_
          refine k_goto (tgt := 3) C dX4_draftTogether_52 (by decide) ?_
          refine k_sub [0, 2, 3, 4, 5, 6] (lv' := [(5, .int (nI (k + 1))), (0, .ref a), (1, .ref b), (2, .int (nI i)), (3, .ref d), (4, .int (nI j))]) rfl ?_
          refine k_view (V1 := gv_up V c (.inl (cI, 486, .inl (wrk f n (tog (rwf g i) (rwf h j)) (k + 1))))) (by rw [wrk_s (by simp [tog, rwf, c30])]) ?_
          exact ih3 (k + 1) (by omega)  (by omega)
  refine k_view (V1 := gv_up V c (.inl (cI, 486, .inl f))) (gv_id h_c).symm ?_
  refine k_view (V1 := gv_up V c (.inl (cI, 486, .inl (wrk f n (tog (rwf g i) (rwf h j)) 0)))) (by rw [wrk_0]) ?_
  exact L3 _ 0 (Nat.lt_succ_self _)  (by omega)
set_option maxHeartbeats 4000000 in
set_option maxRecDepth 100000 in
theorem c_X4_draftTakes {zl : Launch} {D : va_G} {cI cN cR : ClassId} {base : Nat} {V : gv_V} {a c n : Nat} {tl mk : Int32} {f : Nat → Int32} {v : Nat} {x : Int32}  (h_a : V a = some (.inr (4, [.ref c, .int (nI n), .int tl, .int mk]))) (h_c : V c = some (.inl (cI, 486, .inl f))) (hn : n ≤ 80) (hv : v < 6) : ct zl D [(cI, .int), (cN, .object "AlgebraTree$Node"), (cR, .object "AlgebraTree$Rows")] base yX4_draftTakes cX4_draftTakes 3 (some .boolean) 1 0 0 [.ref a, .int (nI v), .int x] V (pi (bI (tk f (n * 6 + v) x (n * 6 + v) == x)) (gv_up V c (.inl (cI, 486, .inl (tk f (n * 6 + v) x))))) := by
  refine ct_of "AlgebraTree$Rows" rfl (by decide) (Nat.le_of_ble_eq_true rfl) ?_
  intro zp ze zs zm zargs zbelow zmeth zc C zr zlk znm
  refine k_pc (pc' := 0) (st' := []) rfl rfl ?_
  show K zp zl ze (gv_rm 1 0 0) zs zm zargs zbelow zmeth zc D base 3 (gv_E D [(cI, .int), (cN, .object "AlgebraTree$Node"), (cR, .object "AlgebraTree$Rows")] base zbelow zargs zs 0 0 (pi (bI (tk f (n * 6 + v) x (n * 6 + v) == x)) (gv_up V c (.inl (cI, 486, .inl (tk f (n * 6 + v) x)))))) V 0 0 [(0, .ref a), (1, .int (nI v)), (2, .int x)] 0 []
  refine k_aload_n C dX4_draftTakes_0 rfl 0 rfl ?_
  refine k_aload_n C dX4_draftTakes_1 rfl 0 rfl ?_
  refine k_get (ci := 4) (k := 1) C fl_4_19 h_a rfl dX4_draftTakes_2 ?_
  refine k_iload_n C dX4_draftTakes_5 rfl 1 rfl ?_
  refine k_callV_pi C mv_4_41 (c_X4_at  h_a h_c (by first | assumption | omega) (by first | assumption | omega)) h_a rfl rfl (by simp [Value.category]) ⟨by decide, by decide⟩ ⟨(by decide), (by decide)⟩ dX4_draftTakes_6 ?_
  refine k_ldc (v := (-2147483648)) C wd_433 dX4_draftTakes_9 ?_
  refine k_icmp_ne (tgt := 24) C dX4_draftTakes_11 (by decide) (fun c11 => ?_) (fun c11 => ?_)
  · skip
    refine k_aload_n C dX4_draftTakes_24 rfl 0 rfl ?_
    refine k_aload_n C dX4_draftTakes_25 rfl 0 rfl ?_
    refine k_get (ci := 4) (k := 1) C fl_4_19 h_a rfl dX4_draftTakes_26 ?_
    refine k_iload_n C dX4_draftTakes_29 rfl 1 rfl ?_
    refine k_callV_pi C mv_4_41 (c_X4_at  h_a h_c (by first | assumption | omega) (by first | assumption | omega)) h_a rfl rfl (by simp [Value.category]) ⟨by decide, by decide⟩ ⟨(by decide), (by decide)⟩ dX4_draftTakes_30 ?_
    refine k_iload_n C dX4_draftTakes_33 rfl 2 rfl ?_
    refine k_icmp_ne (tgt := 41) C dX4_draftTakes_34 (by decide) (fun c34 => ?_) (fun c34 => ?_)
    · skip
      refine k_iconst (v := nI 0) C dX4_draftTakes_41 rfl ?_
      refine k_view (V1 := gv_up V c (.inl (cI, 486, .inl f))) (gv_id h_c).symm ?_
      refine k_view (V1 := gv_up V c (.inl (cI, 486, .inl (tk f (n * 6 + v) x)))) (by simp only [tk]; first | rw [if_pos c11] | rw [if_neg c11]) ?_
      exact k_zret C zr zlk rfl (pi_of (by first | exact bI_t (by rw [tk_at]; grind [upd]) | exact bI_f (by rw [tk_at]; grind [upd])) rfl) (Nat.le_refl _) (Nat.le_refl _) dX4_draftTakes_42
    · skip
      refine k_iconst (v := nI 1) C dX4_draftTakes_37 rfl ?_
      refine k_goto (tgt := 42) C dX4_draftTakes_38 (by decide) ?_
      refine k_view (V1 := gv_up V c (.inl (cI, 486, .inl f))) (gv_id h_c).symm ?_
      refine k_view (V1 := gv_up V c (.inl (cI, 486, .inl (tk f (n * 6 + v) x)))) (by simp only [tk]; first | rw [if_pos c11] | rw [if_neg c11]) ?_
      exact k_zret C zr zlk rfl (pi_of (by first | exact bI_t (by rw [tk_at]; grind [upd]) | exact bI_f (by rw [tk_at]; grind [upd])) rfl) (Nat.le_refl _) (Nat.le_refl _) dX4_draftTakes_42
  · skip
    refine k_aload_n C dX4_draftTakes_14 rfl 0 rfl ?_
    refine k_aload_n C dX4_draftTakes_15 rfl 0 rfl ?_
    refine k_get (ci := 4) (k := 1) C fl_4_19 h_a rfl dX4_draftTakes_16 ?_
    refine k_iload_n C dX4_draftTakes_19 rfl 1 rfl ?_
    refine k_iload_n C dX4_draftTakes_20 rfl 2 rfl ?_
    refine k_callV_pv C mv_4_33 (c_X4_put  h_a h_c (by first | assumption | omega) (by first | assumption | omega)) h_a rfl rfl (by simp [Value.category]) ⟨by decide, by decide⟩ ⟨(by decide), (by decide)⟩ dX4_draftTakes_21 ?_
    refine k_aload_n C dX4_draftTakes_24 rfl 0 rfl ?_
    refine k_aload_n C dX4_draftTakes_25 rfl 0 rfl ?_
    have ne1 : nq a c := gv_ne h_c h_a (by simp)
    refine k_get (ci := 4) (k := 1) C fl_4_19 ((gv_up_n ne1).trans h_a) rfl dX4_draftTakes_26 ?_
    refine k_iload_n C dX4_draftTakes_29 rfl 1 rfl ?_
    refine k_callV_pi C mv_4_41 (c_X4_at  ((gv_up_n ne1).trans h_a) gv_up_s (by first | assumption | omega) (by first | assumption | omega)) ((gv_up_n ne1).trans h_a) rfl rfl (by simp [Value.category]) ⟨by decide, by decide⟩ ⟨(by decide), (by decide)⟩ dX4_draftTakes_30 ?_
    refine k_iload_n C dX4_draftTakes_33 rfl 2 rfl ?_
    refine k_icmp_ne (tgt := 41) C dX4_draftTakes_34 (by decide) (fun c34 => ?_) (fun c34 => ?_)
    · skip
      refine k_iconst (v := nI 0) C dX4_draftTakes_41 rfl ?_
      refine k_view (V1 := gv_up V c (.inl (cI, 486, .inl (tk f (n * 6 + v) x)))) (by simp only [tk]; first | rw [if_pos c11] | rw [if_neg c11]) ?_
      exact k_zret C zr zlk rfl (pi_of (by first | exact bI_t (by rw [tk_at]; grind [upd]) | exact bI_f (by rw [tk_at]; grind [upd])) rfl) (Nat.le_refl _) (Nat.le_refl _) dX4_draftTakes_42
    · skip
      refine k_iconst (v := nI 1) C dX4_draftTakes_37 rfl ?_
      refine k_goto (tgt := 42) C dX4_draftTakes_38 (by decide) ?_
      refine k_view (V1 := gv_up V c (.inl (cI, 486, .inl (tk f (n * 6 + v) x)))) (by simp only [tk]; first | rw [if_pos c11] | rw [if_neg c11]) ?_
      exact k_zret C zr zlk rfl (pi_of (by first | exact bI_t (by rw [tk_at]; grind [upd]) | exact bI_f (by rw [tk_at]; grind [upd])) rfl) (Nat.le_refl _) (Nat.le_refl _) dX4_draftTakes_42
set_option maxHeartbeats 4000000 in
set_option maxRecDepth 100000 in
theorem c_X4_addRow {zl : Launch} {D : va_G} {cI cN cR : ClassId} {base : Nat} {V : gv_V} {a c n : Nat} {tl mk : Int32} {f : Nat → Int32} {b c2 n2 : Nat} {tl2 mk2 : Int32} {g : Nat → Int32} {j : Nat}  (h_a : V a = some (.inr (4, [.ref c, .int (nI n), .int tl, .int mk]))) (h_c : V c = some (.inl (cI, 486, .inl f))) (h_b : V b = some (.inr (4, [.ref c2, .int (nI n2), .int tl2, .int mk2]))) (h_c2 : V c2 = some (.inl (cI, 486, .inl g))) (hn : n ≤ 80) (hj : j ≤ 80) (hab : nq c c2) : ct zl D [(cI, .int), (cN, .object "AlgebraTree$Node"), (cR, .object "AlgebraTree$Rows")] base yX4_addRow cX4_addRow 3 none 2 0 0 [.ref a, .ref b, .int (nI j)] V (pv (gv_up (gv_up V c (.inl (cI, 486, .inl (wrk f n (prj (nI 63) (rwf g j)) 6)))) a (.inr (4, [.ref c, .int (nI (if n = 80 then 80 else n + 1)), .int (if n = 80 then 1 else tl), .int mk])))) := by
  refine ct_of "AlgebraTree$Rows" rfl (by decide) (Nat.le_of_ble_eq_true rfl) ?_
  intro zp ze zs zm zargs zbelow zmeth zc C zr zlk znm
  refine k_pc (pc' := 0) (st' := []) rfl rfl ?_
  show K zp zl ze (gv_rm 2 0 0) zs zm zargs zbelow zmeth zc D base 3 (gv_E D [(cI, .int), (cN, .object "AlgebraTree$Node"), (cR, .object "AlgebraTree$Rows")] base zbelow zargs zs 0 0 (pv (gv_up (gv_up V c (.inl (cI, 486, .inl (wrk f n (prj (nI 63) (rwf g j)) 6)))) a (.inr (4, [.ref c, .int (nI (if n = 80 then 80 else n + 1)), .int (if n = 80 then 1 else tl), .int mk]))))) V 0 0 [(0, .ref a), (1, .ref b), (2, .int (nI j))] 0 []
  refine k_aload_n C dX4_addRow_0 rfl 0 rfl ?_
  refine k_aload_n C dX4_addRow_1 rfl 1 rfl ?_
  refine k_iload_n C dX4_addRow_2 rfl 2 rfl ?_
  refine k_bipush (v := nI 63) C dX4_addRow_3 rfl ?_
  refine k_callV_pv C mv_4_49 (c_X4_draftOf  h_a h_c h_b h_c2 (by first | assumption | omega) (by first | assumption | omega) hab) h_a rfl rfl (by simp [Value.category]) ⟨by decide, by decide⟩ ⟨(by decide), (by decide)⟩ dX4_addRow_5 ?_
  refine k_aload_n C dX4_addRow_8 rfl 0 rfl ?_
  have ne1 : nq a c := gv_ne h_c h_a (by simp)
  refine k_callV_pv C mv_4_53 (c_X4_keepDraft  ((gv_up_n ne1).trans h_a) gv_up_s (by first | assumption | omega)) ((gv_up_n ne1).trans h_a) rfl rfl (by simp [Value.category]) ⟨by decide, by decide⟩ ⟨(by decide), (by decide)⟩ dX4_addRow_9 ?_
  exact k_vret C zr zlk (pv_of rfl) (Nat.le_refl _) (Nat.le_refl _) dX4_addRow_12
set_option maxHeartbeats 4000000 in
set_option maxRecDepth 100000 in
theorem c_X4_addAll {zl : Launch} {D : va_G} {cI cN cR : ClassId} {base : Nat} {V : gv_V} {a c n : Nat} {tl mk : Int32} {f : Nat → Int32} {b c2 n2 : Nat} {tl2 mk2 : Int32} {g : Nat → Int32} {M N : List Row}  (h_a : V a = some (.inr (4, [.ref c, .int (nI n), .int tl, .int mk]))) (h_c : V c = some (.inl (cI, 486, .inl f))) (h_b : V b = some (.inr (4, [.ref c2, .int (nI n2), .int tl2, .int mk2]))) (h_c2 : V c2 = some (.inl (cI, 486, .inl g))) (hr : Rep M n tl f) (hm : Tab N n2 g) (hab : nq c c2) (hba : nq a b) : ct zl D [(cI, .int), (cN, .object "AlgebraTree$Node"), (cR, .object "AlgebraTree$Rows")] base yX4_addAll cX4_addAll 3 none 3 0 0 [.ref a, .ref b] V (fun zv zV => ∃ n1 : Nat, ∃ tl1 : Int32, ∃ f1 : Nat → Int32, zv = none ∧ zV = gv_up (gv_up V c (.inl (cI, 486, .inl f1))) a (.inr (4, [.ref c, .int (nI n1), .int tl1, .int mk])) ∧ (Rep (M ++ N) n1 tl1 f1)) := by
  refine ct_of "AlgebraTree$Rows" rfl (by decide) (Nat.le_of_ble_eq_true rfl) ?_
  intro zp ze zs zm zargs zbelow zmeth zc C zr zlk znm
  refine k_pc (pc' := 0) (st' := []) rfl rfl ?_
  show K zp zl ze (gv_rm 3 0 0) zs zm zargs zbelow zmeth zc D base 3 (gv_E D [(cI, .int), (cN, .object "AlgebraTree$Node"), (cR, .object "AlgebraTree$Rows")] base zbelow zargs zs 0 0 (fun zv zV => ∃ n1 : Nat, ∃ tl1 : Int32, ∃ f1 : Nat → Int32, zv = none ∧ zV = gv_up (gv_up V c (.inl (cI, 486, .inl f1))) a (.inr (4, [.ref c, .int (nI n1), .int tl1, .int mk])) ∧ (Rep (M ++ N) n1 tl1 f1))) V 0 0 [(0, .ref a), (1, .ref b)] 0 []
  have hne := gv_ne h_c h_a (by simp)
  have hn2 := hm.1
  have hn3 := hm.2.1
  refine k_iconst (v := nI 0) C dX4_addAll_0 rfl ?_
  refine k_istore_n (lv' := [(2, .int (nI 0)), (0, .ref a), (1, .ref b)]) C dX4_addAll_1 rfl (by decide) rfl ?_
  have L2 : ∀ (zn1 : Nat) (k : Nat) (n1 : Nat) (tl1 : Int32) (f1 : Nat → Int32), n2 - k < zn1 → (k ≤ n2) → (Rep (M ++ N.take k) n1 tl1 f1) → K zp zl ze (gv_rm 3 0 0) zs zm zargs zbelow zmeth zc D base 3 (gv_E D [(cI, .int), (cN, .object "AlgebraTree$Node"), (cR, .object "AlgebraTree$Rows")] base zbelow zargs zs 0 0 (fun zv zV => ∃ n1 : Nat, ∃ tl1 : Int32, ∃ f1 : Nat → Int32, zv = none ∧ zV = gv_up (gv_up V c (.inl (cI, 486, .inl f1))) a (.inr (4, [.ref c, .int (nI n1), .int tl1, .int mk])) ∧ (Rep (M ++ N) n1 tl1 f1))) (gv_up (gv_up V c (.inl (cI, 486, .inl f1))) a (.inr (4, [.ref c, .int (nI n1), .int tl1, .int mk]))) 0 0 [(2, .int (nI k)), (0, .ref a), (1, .ref b)] 2 [] := by
    intro zn1
    induction zn1 with
    | zero => intro k n1 tl1 f1 hlt; exact absurd hlt (Nat.not_lt_zero _)
    | succ zn1 ih2 =>
      intro k n1 tl1 f1 hlt2  hk hr1
      have hn1 := hr1.le
      refine k_iload_n C dX4_addAll_2 rfl 0 rfl ?_
      refine k_aload_n C dX4_addAll_3 rfl 2 rfl ?_
      have ne2 : nq b c := gv_ne h_c h_b (by simp)
      refine k_get (ci := 4) (k := 1) C fl_4_19 ((gv_up_n (Ne.symm hba)).trans ((gv_up_n ne2).trans h_b)) rfl dX4_addAll_4 ?_
      refine k_icmp_ge (tgt := 22) C dX4_addAll_7 (by decide) (fun c7 => ?_) (fun c7 => ?_)
      · skip
        have b7 : n2 ≤ k := (nI_leI (a := n2) (b := k) (by omega) (by omega)).mp c7
        exact k_vret C zr zlk ⟨n1, tl1, f1, rfl, rfl, by rw [← List.take_of_length_le (l := N) (i := k) (by omega)]; exact hr1⟩ (Nat.le_refl _) (Nat.le_refl _) dX4_addAll_22
      · skip
        have b7 : ¬ n2 ≤ k := fun z => c7 ((nI_leI (a := n2) (b := k) (by omega) (by omega)).mpr z)
        refine k_aload_n C dX4_addAll_10 rfl 1 rfl ?_
        refine k_aload_n C dX4_addAll_11 rfl 2 rfl ?_
        refine k_iload_n C dX4_addAll_12 rfl 0 rfl ?_
        have ne3 : nq c a := gv_ne h_a h_c (by simp)
        have ne4 : nq c2 a := gv_ne h_a h_c2 (by simp)
        refine k_callV_pv C mv_4_45 (c_X4_addRow  gv_up_s ((gv_up_n ne3).trans gv_up_s) ((gv_up_n (Ne.symm hba)).trans ((gv_up_n ne2).trans h_b)) ((gv_up_n ne4).trans ((gv_up_n (Ne.symm hab)).trans h_c2)) (by first | assumption | omega) (by first | assumption | omega) hab) gv_up_s rfl rfl (by simp [Value.category]) ⟨by decide, by decide⟩ ⟨(by decide), (by decide)⟩ dX4_addAll_13 ?_
        refine k_view (V1 := gv_up (gv_up (gv_up V c (.inl (cI, 486, .inl (wrk f1 n1 (prj (nI 63) (rwf g k)) 6)))) a (.inr (4, [.ref c, .int (nI n1), .int tl1, .int mk]))) a (.inr (4, [.ref c, .int (nI (if n1 = 80 then 80 else n1 + 1)), .int (if n1 = 80 then 1 else tl1), .int mk]))) (congrArg (fun W => gv_up W a (.inr (4, [.ref c, .int (nI (if n1 = 80 then 80 else n1 + 1)), .int (if n1 = 80 then 1 else tl1), .int mk]))) ((gv_uc ne3).trans (congrArg (fun W => gv_up W a (.inr (4, [.ref c, .int (nI n1), .int tl1, .int mk]))) gv_uu))) ?_
        refine k_view (V1 := gv_up (gv_up V c (.inl (cI, 486, .inl (wrk f1 n1 (prj (nI 63) (rwf g k)) 6)))) a (.inr (4, [.ref c, .int (nI (if n1 = 80 then 80 else n1 + 1)), .int (if n1 = 80 then 1 else tl1), .int mk]))) gv_uu ?_
        refine k_iinc (v := nI (k + 1)) (lv' := [(2, .int (nI (k + 1))), (0, .ref a), (1, .ref b)]) C dX4_addAll_16 (k := 0) rfl (nI_add k 1) (by decide) rfl ?_
        refine k_goto (tgt := 2) C dX4_addAll_19 (by decide) ?_
        exact ih2 (k + 1) (if n1 = 80 then 80 else n1 + 1) (if n1 = 80 then 1 else tl1) (wrk f1 n1 (prj (nI 63) (rwf g k)) 6) (by omega)  (by omega) (by rw [take_s (by omega), ← List.append_assoc]; exact hr1.add (eq6_prj (hm.2.2 k (by omega))))
  refine k_view (V1 := gv_up V c (.inl (cI, 486, .inl f))) (gv_id h_c).symm ?_
  have ne5 : nq a c := gv_ne h_c h_a (by simp)
  refine k_view (V1 := gv_up (gv_up V c (.inl (cI, 486, .inl f))) a (.inr (4, [.ref c, .int (nI n), .int tl, .int mk]))) (gv_id ((gv_up_n ne5).trans h_a)).symm ?_
  exact L2 _ 0 n tl f (Nat.lt_succ_self _)  (by omega) (by simpa using hr)
