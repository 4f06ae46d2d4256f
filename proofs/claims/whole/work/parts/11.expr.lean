set_option maxHeartbeats 4000000 in
set_option maxRecDepth 100000 in
theorem c_leaf9 {zl : Launch} {D : va_G} {cI cN cR : ClassId} {base : Nat} {V : gv_V} {b c2 n2 : Nat} {tl2 mk2 : Int32} {g : Nat → Int32} {q j : Nat} {x : Int32}  (h_b : V b = some (.inr (4, [.ref c2, .int (nI n2), .int tl2, .int mk2]))) (h_c2 : V c2 = some (.inl (cI, 486, .inl g))) (hq : q = 9) : ct zl D [(cI, .int), (cN, .object "AlgebraTree$Node"), (cR, .object "AlgebraTree$Rows")] base yX0_leafValue cX0_leafValue 5 (some .int) 1 0 0 [.int (nI q), .int x, .ref b, .int (nI j)] V (pi x V) := by
  refine ct_of "AlgebraTree$Expressions" rfl (by decide) (Nat.le_of_ble_eq_true rfl) ?_
  intro zp ze zs zm zargs zbelow zmeth zc C zr zlk znm
  refine k_pc (pc' := 0) (st' := []) rfl rfl ?_
  show K zp zl ze (gv_rm 1 0 0) zs zm zargs zbelow zmeth zc D base 5 (gv_E D [(cI, .int), (cN, .object "AlgebraTree$Node"), (cR, .object "AlgebraTree$Rows")] base zbelow zargs zs 0 0 (pi x V)) V 0 0 [(0, .int (nI q)), (1, .int x), (2, .ref b), (3, .int (nI j))] 0 []
  refine k_iload_n C dX0_leafValue_0 rfl 0 rfl ?_
  refine k_bipush (v := nI 9) C dX0_leafValue_1 rfl ?_
  refine k_icmp_ne (tgt := 8) C dX0_leafValue_3 (by decide) (fun c3 => ?_) (fun c3 => ?_)
  · skip
    exact absurd (by rw [hq]) c3
  · skip
    have b3 : q = 9 := (nI_eq (a := q) (b := 9) (by omega) (by omega)).mp c3
    refine k_iload_n C dX0_leafValue_6 rfl 1 rfl ?_
    exact k_iret C zr zlk (pi_of rfl rfl) (Nat.le_refl _) (Nat.le_refl _) dX0_leafValue_7
set_option maxHeartbeats 4000000 in
set_option maxRecDepth 100000 in
theorem c_leafV {zl : Launch} {D : va_G} {cI cN cR : ClassId} {base : Nat} {V : gv_V} {b c2 n2 : Nat} {tl2 mk2 : Int32} {g : Nat → Int32} {q v j : Nat}  (h_b : V b = some (.inr (4, [.ref c2, .int (nI n2), .int tl2, .int mk2]))) (h_c2 : V c2 = some (.inl (cI, 486, .inl g))) (hq : ¬ q = 9) (hq2 : q ≤ 11) (hj : j ≤ 80) (hv : v < 6) : ct zl D [(cI, .int), (cN, .object "AlgebraTree$Node"), (cR, .object "AlgebraTree$Rows")] base yX0_leafValue cX0_leafValue 5 (some .int) 1 0 0 [.int (nI q), .int (nI v), .ref b, .int (nI j)] V (pi (if q = 10 then rwf g j v else if rwf g j v = oE then 0 else 1) V) := by
  refine ct_of "AlgebraTree$Expressions" rfl (by decide) (Nat.le_of_ble_eq_true rfl) ?_
  intro zp ze zs zm zargs zbelow zmeth zc C zr zlk znm
  refine k_pc (pc' := 0) (st' := []) rfl rfl ?_
  show K zp zl ze (gv_rm 1 0 0) zs zm zargs zbelow zmeth zc D base 5 (gv_E D [(cI, .int), (cN, .object "AlgebraTree$Node"), (cR, .object "AlgebraTree$Rows")] base zbelow zargs zs 0 0 (pi (if q = 10 then rwf g j v else if rwf g j v = oE then 0 else 1) V)) V 0 0 [(0, .int (nI q)), (1, .int (nI v)), (2, .ref b), (3, .int (nI j))] 0 []
  refine k_iload_n C dX0_leafValue_0 rfl 0 rfl ?_
  refine k_bipush (v := nI 9) C dX0_leafValue_1 rfl ?_
  refine k_icmp_ne (tgt := 8) C dX0_leafValue_3 (by decide) (fun c3 => ?_) (fun c3 => ?_)
  · skip
    have b3 : ¬ q = 9 := fun z => c3 ((nI_eq (a := q) (b := 9) (by omega) (by omega)).mpr z)
    refine k_aload_n C dX0_leafValue_8 rfl 2 rfl ?_
    refine k_iload_n C dX0_leafValue_9 rfl 3 rfl ?_
    refine k_iload_n C dX0_leafValue_10 rfl 1 rfl ?_
    refine k_callV_pi C mv_0_55 (c_X4_at  h_b h_c2 (by first | assumption | omega) (by first | assumption | omega)) h_b rfl rfl (by simp [Value.category]) ⟨by decide, by decide⟩ ⟨(by decide), (by decide)⟩ dX0_leafValue_11 ?_
    refine k_istore (lv' := [(4, .int (g (j * 6 + v))), (0, .int (nI q)), (1, .int (nI v)), (2, .ref b), (3, .int (nI j))]) C dX0_leafValue_14 (by decide) rfl ?_
    refine k_iload_n C dX0_leafValue_16 rfl 1 rfl ?_
    refine k_bipush (v := nI 10) C dX0_leafValue_17 rfl ?_
    refine k_icmp_ne (tgt := 25) C dX0_leafValue_19 (by decide) (fun c19 => ?_) (fun c19 => ?_)
    · skip
      have b19 : ¬ q = 10 := fun z => c19 ((nI_eq (a := q) (b := 10) (by omega) (by omega)).mpr z)
      refine k_iload C dX0_leafValue_25 0 rfl ?_
      refine k_ldc (v := (-2147483648)) C wd_478 dX0_leafValue_27 ?_
      refine k_icmp_ne (tgt := 36) C dX0_leafValue_29 (by decide) (fun c29 => ?_) (fun c29 => ?_)
      · skip
        refine k_iconst (v := nI 1) C dX0_leafValue_36 rfl ?_
        exact k_iret C zr zlk (pi_of (by rw [if_neg b19]; first | exact (if_pos (show rwf g j v = oE from c29)).symm | exact (if_neg (show ¬ rwf g j v = oE from c29)).symm) rfl) (Nat.le_refl _) (Nat.le_refl _) dX0_leafValue_37
      · skip
        refine k_iconst (v := nI 0) C dX0_leafValue_32 rfl ?_
        refine k_goto (tgt := 37) C dX0_leafValue_33 (by decide) ?_
        exact k_iret C zr zlk (pi_of (by rw [if_neg b19]; first | exact (if_pos (show rwf g j v = oE from c29)).symm | exact (if_neg (show ¬ rwf g j v = oE from c29)).symm) rfl) (Nat.le_refl _) (Nat.le_refl _) dX0_leafValue_37
    · skip
      have b19 : q = 10 := (nI_eq (a := q) (b := 10) (by omega) (by omega)).mp c19
      refine k_iload C dX0_leafValue_22 0 rfl ?_
      exact k_iret C zr zlk (pi_of (by rw [if_pos b19]; rfl) rfl) (Nat.le_refl _) (Nat.le_refl _) dX0_leafValue_24
  · skip
    exact absurd ((nI_eq (by omega) (by omega)).mp c3) hq
set_option maxHeartbeats 4000000 in
set_option maxRecDepth 100000 in
theorem c_X0_logicValue {zl : Launch} {D : va_G} {cI cN cR : ClassId} {base : Nat} {V : gv_V} {q : Nat} {x y : Int32}   (hq : q ≤ 11) : ct zl D [(cI, .int), (cN, .object "AlgebraTree$Node"), (cR, .object "AlgebraTree$Rows")] base yX0_logicValue cX0_logicValue 3 (some .int) 1 0 0 [.int (nI q), .int x, .int y] V (pi (lgv q x y) V) := by
  refine ct_of "AlgebraTree$Expressions" rfl (by decide) (Nat.le_of_ble_eq_true rfl) ?_
  intro zp ze zs zm zargs zbelow zmeth zc C zr zlk znm
  refine k_pc (pc' := 0) (st' := []) rfl rfl ?_
  show K zp zl ze (gv_rm 1 0 0) zs zm zargs zbelow zmeth zc D base 3 (gv_E D [(cI, .int), (cN, .object "AlgebraTree$Node"), (cR, .object "AlgebraTree$Rows")] base zbelow zargs zs 0 0 (pi (lgv q x y) V)) V 0 0 [(0, .int (nI q)), (1, .int x), (2, .int y)] 0 []
  refine k_iload_n C dX0_logicValue_0 rfl 0 rfl ?_
  refine k_bipush (v := nI 6) C dX0_logicValue_1 rfl ?_
  refine k_icmp_ne (tgt := 16) C dX0_logicValue_3 (by decide) (fun c3 => ?_) (fun c3 => ?_)
  · skip
    have b3 : ¬ q = 6 := fun z => c3 ((nI_eq (a := q) (b := 6) (by omega) (by omega)).mpr z)
    refine k_iload_n C dX0_logicValue_16 rfl 0 rfl ?_
    refine k_bipush (v := nI 7) C dX0_logicValue_17 rfl ?_
    refine k_icmp_ne (tgt := 38) C dX0_logicValue_19 (by decide) (fun c19 => ?_) (fun c19 => ?_)
    · skip
      have b19 : ¬ q = 7 := fun z => c19 ((nI_eq (a := q) (b := 7) (by omega) (by omega)).mpr z)
      refine k_iload_n C dX0_logicValue_38 rfl 1 rfl ?_
      refine k_ldc (v := (-2147483648)) C wd_478 dX0_logicValue_39 ?_
      refine k_icmp_eq (tgt := 50) C dX0_logicValue_41 (by decide) (fun c41 => ?_) (fun c41 => ?_)
      · skip
        refine k_ldc (v := (-2147483648)) C wd_478 dX0_logicValue_50 ?_
        exact k_iret C zr zlk (pi_of (by grind [lgv, nI_0, show nI 1 = 1 from rfl]) rfl) (Nat.le_refl _) (Nat.le_refl _) dX0_logicValue_52
      · skip
        refine k_iload_n C dX0_logicValue_44 rfl 2 rfl ?_
        refine k_ldc (v := (-2147483648)) C wd_478 dX0_logicValue_45 ?_
        refine k_icmp_ne (tgt := 53) C dX0_logicValue_47 (by decide) (fun c47 => ?_) (fun c47 => ?_)
        · skip
          refine k_iload_n C dX0_logicValue_53 rfl 0 rfl ?_
          refine k_bipush (v := nI 8) C dX0_logicValue_54 rfl ?_
          refine k_icmp_ne (tgt := 69) C dX0_logicValue_56 (by decide) (fun c56 => ?_) (fun c56 => ?_)
          · skip
            have b56 : ¬ q = 8 := fun z => c56 ((nI_eq (a := q) (b := 8) (by omega) (by omega)).mpr z)
            refine k_iload_n C dX0_logicValue_69 rfl 0 rfl ?_
            refine k_bipush (v := nI 6) C dX0_logicValue_70 rfl ?_
            refine k_icmp_ne (tgt := 79) C dX0_logicValue_72 (by decide) (fun c72 => ?_) (fun c72 => ?_)
            · skip
              have b72 : ¬ q = 6 := fun z => c72 ((nI_eq (a := q) (b := 6) (by omega) (by omega)).mpr z)
              refine k_iconst (v := nI 0) C dX0_logicValue_79 rfl ?_
              exact k_iret C zr zlk (pi_of (by grind [lgv, nI_0, show nI 1 = 1 from rfl]) rfl) (Nat.le_refl _) (Nat.le_refl _) dX0_logicValue_80
            · skip
              have b72 : q = 6 := (nI_eq (a := q) (b := 6) (by omega) (by omega)).mp c72
              refine k_iconst (v := nI 1) C dX0_logicValue_75 rfl ?_
              refine k_goto (tgt := 80) C dX0_logicValue_76 (by decide) ?_
              exact k_iret C zr zlk (pi_of (by grind [lgv, nI_0, show nI 1 = 1 from rfl]) rfl) (Nat.le_refl _) (Nat.le_refl _) dX0_logicValue_80
          · skip
            have b56 : q = 8 := (nI_eq (a := q) (b := 8) (by omega) (by omega)).mp c56
            refine k_iload_n C dX0_logicValue_59 rfl 1 rfl ?_
            refine k_if_ne (tgt := 67) C dX0_logicValue_60 (by decide) (fun c60 => ?_) (fun c60 => ?_)
            · skip
              refine k_iconst (v := nI 0) C dX0_logicValue_67 rfl ?_
              exact k_iret C zr zlk (pi_of (by grind [lgv, nI_0, show nI 1 = 1 from rfl]) rfl) (Nat.le_refl _) (Nat.le_refl _) dX0_logicValue_68
            · skip
              refine k_iconst (v := nI 1) C dX0_logicValue_63 rfl ?_
              refine k_goto (tgt := 68) C dX0_logicValue_64 (by decide) ?_
              exact k_iret C zr zlk (pi_of (by grind [lgv, nI_0, show nI 1 = 1 from rfl]) rfl) (Nat.le_refl _) (Nat.le_refl _) dX0_logicValue_68
        · skip
          refine k_ldc (v := (-2147483648)) C wd_478 dX0_logicValue_50 ?_
          exact k_iret C zr zlk (pi_of (by grind [lgv, nI_0, show nI 1 = 1 from rfl]) rfl) (Nat.le_refl _) (Nat.le_refl _) dX0_logicValue_52
    · skip
      have b19 : q = 7 := (nI_eq (a := q) (b := 7) (by omega) (by omega)).mp c19
      refine k_iload_n C dX0_logicValue_22 rfl 1 rfl ?_
      refine k_callS_pi C ms_0_62 (c_X6_isTrue   ) rfl rfl (by simp [Value.category]) ⟨by decide, by decide⟩ ⟨(by decide), (by decide)⟩ dX0_logicValue_23 ?_
      refine k_if_ne (tgt := 36) C dX0_logicValue_26 (by decide) (fun c26 => ?_) (fun c26 => ?_)
      · skip
        have b26 : (isT x) = true := bI_n.mp c26
        refine k_iconst (v := nI 1) C dX0_logicValue_36 rfl ?_
        exact k_iret C zr zlk (pi_of (by grind [lgv, nI_0, show nI 1 = 1 from rfl]) rfl) (Nat.le_refl _) (Nat.le_refl _) dX0_logicValue_37
      · skip
        have b26 : (isT x) = false := bI_0.mp c26
        refine k_iload_n C dX0_logicValue_29 rfl 2 rfl ?_
        refine k_callS_pi C ms_0_62 (c_X6_isTrue   ) rfl rfl (by simp [Value.category]) ⟨by decide, by decide⟩ ⟨(by decide), (by decide)⟩ dX0_logicValue_30 ?_
        refine k_if_eq (tgt := 38) C dX0_logicValue_33 (by decide) (fun c33 => ?_) (fun c33 => ?_)
        · skip
          have b33 : (isT y) = false := bI_0.mp c33
          refine k_iload_n C dX0_logicValue_38 rfl 1 rfl ?_
          refine k_ldc (v := (-2147483648)) C wd_478 dX0_logicValue_39 ?_
          refine k_icmp_eq (tgt := 50) C dX0_logicValue_41 (by decide) (fun c41 => ?_) (fun c41 => ?_)
          · skip
            refine k_ldc (v := (-2147483648)) C wd_478 dX0_logicValue_50 ?_
            exact k_iret C zr zlk (pi_of (by grind [lgv, nI_0, show nI 1 = 1 from rfl]) rfl) (Nat.le_refl _) (Nat.le_refl _) dX0_logicValue_52
          · skip
            refine k_iload_n C dX0_logicValue_44 rfl 2 rfl ?_
            refine k_ldc (v := (-2147483648)) C wd_478 dX0_logicValue_45 ?_
            refine k_icmp_ne (tgt := 53) C dX0_logicValue_47 (by decide) (fun c47 => ?_) (fun c47 => ?_)
            · skip
              refine k_iload_n C dX0_logicValue_53 rfl 0 rfl ?_
              refine k_bipush (v := nI 8) C dX0_logicValue_54 rfl ?_
              refine k_icmp_ne (tgt := 69) C dX0_logicValue_56 (by decide) (fun c56 => ?_) (fun c56 => ?_)
              · skip
                have b56 : ¬ q = 8 := fun z => c56 ((nI_eq (a := q) (b := 8) (by omega) (by omega)).mpr z)
                refine k_iload_n C dX0_logicValue_69 rfl 0 rfl ?_
                refine k_bipush (v := nI 6) C dX0_logicValue_70 rfl ?_
                refine k_icmp_ne (tgt := 79) C dX0_logicValue_72 (by decide) (fun c72 => ?_) (fun c72 => ?_)
                · skip
                  have b72 : ¬ q = 6 := fun z => c72 ((nI_eq (a := q) (b := 6) (by omega) (by omega)).mpr z)
                  refine k_iconst (v := nI 0) C dX0_logicValue_79 rfl ?_
                  exact k_iret C zr zlk (pi_of (by grind [lgv, nI_0, show nI 1 = 1 from rfl]) rfl) (Nat.le_refl _) (Nat.le_refl _) dX0_logicValue_80
                · skip
                  have b72 : q = 6 := (nI_eq (a := q) (b := 6) (by omega) (by omega)).mp c72
                  refine k_iconst (v := nI 1) C dX0_logicValue_75 rfl ?_
                  refine k_goto (tgt := 80) C dX0_logicValue_76 (by decide) ?_
                  exact k_iret C zr zlk (pi_of (by grind [lgv, nI_0, show nI 1 = 1 from rfl]) rfl) (Nat.le_refl _) (Nat.le_refl _) dX0_logicValue_80
              · skip
                have b56 : q = 8 := (nI_eq (a := q) (b := 8) (by omega) (by omega)).mp c56
                refine k_iload_n C dX0_logicValue_59 rfl 1 rfl ?_
                refine k_if_ne (tgt := 67) C dX0_logicValue_60 (by decide) (fun c60 => ?_) (fun c60 => ?_)
                · skip
                  refine k_iconst (v := nI 0) C dX0_logicValue_67 rfl ?_
                  exact k_iret C zr zlk (pi_of (by grind [lgv, nI_0, show nI 1 = 1 from rfl]) rfl) (Nat.le_refl _) (Nat.le_refl _) dX0_logicValue_68
                · skip
                  refine k_iconst (v := nI 1) C dX0_logicValue_63 rfl ?_
                  refine k_goto (tgt := 68) C dX0_logicValue_64 (by decide) ?_
                  exact k_iret C zr zlk (pi_of (by grind [lgv, nI_0, show nI 1 = 1 from rfl]) rfl) (Nat.le_refl _) (Nat.le_refl _) dX0_logicValue_68
            · skip
              refine k_ldc (v := (-2147483648)) C wd_478 dX0_logicValue_50 ?_
              exact k_iret C zr zlk (pi_of (by grind [lgv, nI_0, show nI 1 = 1 from rfl]) rfl) (Nat.le_refl _) (Nat.le_refl _) dX0_logicValue_52
        · skip
          have b33 : (isT y) = true := bI_n.mp c33
          refine k_iconst (v := nI 1) C dX0_logicValue_36 rfl ?_
          exact k_iret C zr zlk (pi_of (by grind [lgv, nI_0, show nI 1 = 1 from rfl]) rfl) (Nat.le_refl _) (Nat.le_refl _) dX0_logicValue_37
  · skip
    have b3 : q = 6 := (nI_eq (a := q) (b := 6) (by omega) (by omega)).mp c3
    refine k_iload_n C dX0_logicValue_6 rfl 1 rfl ?_
    refine k_if_eq (tgt := 14) C dX0_logicValue_7 (by decide) (fun c7 => ?_) (fun c7 => ?_)
    · skip
      refine k_iconst (v := nI 0) C dX0_logicValue_14 rfl ?_
      exact k_iret C zr zlk (pi_of (by grind [lgv, nI_0, show nI 1 = 1 from rfl]) rfl) (Nat.le_refl _) (Nat.le_refl _) dX0_logicValue_15
    · skip
      refine k_iload_n C dX0_logicValue_10 rfl 2 rfl ?_
      refine k_if_ne (tgt := 16) C dX0_logicValue_11 (by decide) (fun c11 => ?_) (fun c11 => ?_)
      · skip
        refine k_iload_n C dX0_logicValue_16 rfl 0 rfl ?_
        refine k_bipush (v := nI 7) C dX0_logicValue_17 rfl ?_
        refine k_icmp_ne (tgt := 38) C dX0_logicValue_19 (by decide) (fun c19 => ?_) (fun c19 => ?_)
        · skip
          have b19 : ¬ q = 7 := fun z => c19 ((nI_eq (a := q) (b := 7) (by omega) (by omega)).mpr z)
          refine k_iload_n C dX0_logicValue_38 rfl 1 rfl ?_
          refine k_ldc (v := (-2147483648)) C wd_478 dX0_logicValue_39 ?_
          refine k_icmp_eq (tgt := 50) C dX0_logicValue_41 (by decide) (fun c41 => ?_) (fun c41 => ?_)
          · skip
            refine k_ldc (v := (-2147483648)) C wd_478 dX0_logicValue_50 ?_
            exact k_iret C zr zlk (pi_of (by grind [lgv, nI_0, show nI 1 = 1 from rfl]) rfl) (Nat.le_refl _) (Nat.le_refl _) dX0_logicValue_52
          · skip
            refine k_iload_n C dX0_logicValue_44 rfl 2 rfl ?_
            refine k_ldc (v := (-2147483648)) C wd_478 dX0_logicValue_45 ?_
            refine k_icmp_ne (tgt := 53) C dX0_logicValue_47 (by decide) (fun c47 => ?_) (fun c47 => ?_)
            · skip
              refine k_iload_n C dX0_logicValue_53 rfl 0 rfl ?_
              refine k_bipush (v := nI 8) C dX0_logicValue_54 rfl ?_
              refine k_icmp_ne (tgt := 69) C dX0_logicValue_56 (by decide) (fun c56 => ?_) (fun c56 => ?_)
              · skip
                have b56 : ¬ q = 8 := fun z => c56 ((nI_eq (a := q) (b := 8) (by omega) (by omega)).mpr z)
                refine k_iload_n C dX0_logicValue_69 rfl 0 rfl ?_
                refine k_bipush (v := nI 6) C dX0_logicValue_70 rfl ?_
                refine k_icmp_ne (tgt := 79) C dX0_logicValue_72 (by decide) (fun c72 => ?_) (fun c72 => ?_)
                · skip
                  have b72 : ¬ q = 6 := fun z => c72 ((nI_eq (a := q) (b := 6) (by omega) (by omega)).mpr z)
                  refine k_iconst (v := nI 0) C dX0_logicValue_79 rfl ?_
                  exact k_iret C zr zlk (pi_of (by grind [lgv, nI_0, show nI 1 = 1 from rfl]) rfl) (Nat.le_refl _) (Nat.le_refl _) dX0_logicValue_80
                · skip
                  have b72 : q = 6 := (nI_eq (a := q) (b := 6) (by omega) (by omega)).mp c72
                  refine k_iconst (v := nI 1) C dX0_logicValue_75 rfl ?_
                  refine k_goto (tgt := 80) C dX0_logicValue_76 (by decide) ?_
                  exact k_iret C zr zlk (pi_of (by grind [lgv, nI_0, show nI 1 = 1 from rfl]) rfl) (Nat.le_refl _) (Nat.le_refl _) dX0_logicValue_80
              · skip
                have b56 : q = 8 := (nI_eq (a := q) (b := 8) (by omega) (by omega)).mp c56
                refine k_iload_n C dX0_logicValue_59 rfl 1 rfl ?_
                refine k_if_ne (tgt := 67) C dX0_logicValue_60 (by decide) (fun c60 => ?_) (fun c60 => ?_)
                · skip
                  refine k_iconst (v := nI 0) C dX0_logicValue_67 rfl ?_
                  exact k_iret C zr zlk (pi_of (by grind [lgv, nI_0, show nI 1 = 1 from rfl]) rfl) (Nat.le_refl _) (Nat.le_refl _) dX0_logicValue_68
                · skip
                  refine k_iconst (v := nI 1) C dX0_logicValue_63 rfl ?_
                  refine k_goto (tgt := 68) C dX0_logicValue_64 (by decide) ?_
                  exact k_iret C zr zlk (pi_of (by grind [lgv, nI_0, show nI 1 = 1 from rfl]) rfl) (Nat.le_refl _) (Nat.le_refl _) dX0_logicValue_68
            · skip
              refine k_ldc (v := (-2147483648)) C wd_478 dX0_logicValue_50 ?_
              exact k_iret C zr zlk (pi_of (by grind [lgv, nI_0, show nI 1 = 1 from rfl]) rfl) (Nat.le_refl _) (Nat.le_refl _) dX0_logicValue_52
        · skip
          have b19 : q = 7 := (nI_eq (a := q) (b := 7) (by omega) (by omega)).mp c19
          refine k_iload_n C dX0_logicValue_22 rfl 1 rfl ?_
          refine k_callS_pi C ms_0_62 (c_X6_isTrue   ) rfl rfl (by simp [Value.category]) ⟨by decide, by decide⟩ ⟨(by decide), (by decide)⟩ dX0_logicValue_23 ?_
          refine k_if_ne (tgt := 36) C dX0_logicValue_26 (by decide) (fun c26 => ?_) (fun c26 => ?_)
          · skip
            have b26 : (isT x) = true := bI_n.mp c26
            refine k_iconst (v := nI 1) C dX0_logicValue_36 rfl ?_
            exact k_iret C zr zlk (pi_of (by grind [lgv, nI_0, show nI 1 = 1 from rfl]) rfl) (Nat.le_refl _) (Nat.le_refl _) dX0_logicValue_37
          · skip
            have b26 : (isT x) = false := bI_0.mp c26
            refine k_iload_n C dX0_logicValue_29 rfl 2 rfl ?_
            refine k_callS_pi C ms_0_62 (c_X6_isTrue   ) rfl rfl (by simp [Value.category]) ⟨by decide, by decide⟩ ⟨(by decide), (by decide)⟩ dX0_logicValue_30 ?_
            refine k_if_eq (tgt := 38) C dX0_logicValue_33 (by decide) (fun c33 => ?_) (fun c33 => ?_)
            · skip
              have b33 : (isT y) = false := bI_0.mp c33
              refine k_iload_n C dX0_logicValue_38 rfl 1 rfl ?_
              refine k_ldc (v := (-2147483648)) C wd_478 dX0_logicValue_39 ?_
              refine k_icmp_eq (tgt := 50) C dX0_logicValue_41 (by decide) (fun c41 => ?_) (fun c41 => ?_)
              · skip
                refine k_ldc (v := (-2147483648)) C wd_478 dX0_logicValue_50 ?_
                exact k_iret C zr zlk (pi_of (by grind [lgv, nI_0, show nI 1 = 1 from rfl]) rfl) (Nat.le_refl _) (Nat.le_refl _) dX0_logicValue_52
              · skip
                refine k_iload_n C dX0_logicValue_44 rfl 2 rfl ?_
                refine k_ldc (v := (-2147483648)) C wd_478 dX0_logicValue_45 ?_
                refine k_icmp_ne (tgt := 53) C dX0_logicValue_47 (by decide) (fun c47 => ?_) (fun c47 => ?_)
                · skip
                  refine k_iload_n C dX0_logicValue_53 rfl 0 rfl ?_
                  refine k_bipush (v := nI 8) C dX0_logicValue_54 rfl ?_
                  refine k_icmp_ne (tgt := 69) C dX0_logicValue_56 (by decide) (fun c56 => ?_) (fun c56 => ?_)
                  · skip
                    have b56 : ¬ q = 8 := fun z => c56 ((nI_eq (a := q) (b := 8) (by omega) (by omega)).mpr z)
                    refine k_iload_n C dX0_logicValue_69 rfl 0 rfl ?_
                    refine k_bipush (v := nI 6) C dX0_logicValue_70 rfl ?_
                    refine k_icmp_ne (tgt := 79) C dX0_logicValue_72 (by decide) (fun c72 => ?_) (fun c72 => ?_)
                    · skip
                      have b72 : ¬ q = 6 := fun z => c72 ((nI_eq (a := q) (b := 6) (by omega) (by omega)).mpr z)
                      refine k_iconst (v := nI 0) C dX0_logicValue_79 rfl ?_
                      exact k_iret C zr zlk (pi_of (by grind [lgv, nI_0, show nI 1 = 1 from rfl]) rfl) (Nat.le_refl _) (Nat.le_refl _) dX0_logicValue_80
                    · skip
                      have b72 : q = 6 := (nI_eq (a := q) (b := 6) (by omega) (by omega)).mp c72
                      refine k_iconst (v := nI 1) C dX0_logicValue_75 rfl ?_
                      refine k_goto (tgt := 80) C dX0_logicValue_76 (by decide) ?_
                      exact k_iret C zr zlk (pi_of (by grind [lgv, nI_0, show nI 1 = 1 from rfl]) rfl) (Nat.le_refl _) (Nat.le_refl _) dX0_logicValue_80
                  · skip
                    have b56 : q = 8 := (nI_eq (a := q) (b := 8) (by omega) (by omega)).mp c56
                    refine k_iload_n C dX0_logicValue_59 rfl 1 rfl ?_
                    refine k_if_ne (tgt := 67) C dX0_logicValue_60 (by decide) (fun c60 => ?_) (fun c60 => ?_)
                    · skip
                      refine k_iconst (v := nI 0) C dX0_logicValue_67 rfl ?_
                      exact k_iret C zr zlk (pi_of (by grind [lgv, nI_0, show nI 1 = 1 from rfl]) rfl) (Nat.le_refl _) (Nat.le_refl _) dX0_logicValue_68
                    · skip
                      refine k_iconst (v := nI 1) C dX0_logicValue_63 rfl ?_
                      refine k_goto (tgt := 68) C dX0_logicValue_64 (by decide) ?_
                      exact k_iret C zr zlk (pi_of (by grind [lgv, nI_0, show nI 1 = 1 from rfl]) rfl) (Nat.le_refl _) (Nat.le_refl _) dX0_logicValue_68
                · skip
                  refine k_ldc (v := (-2147483648)) C wd_478 dX0_logicValue_50 ?_
                  exact k_iret C zr zlk (pi_of (by grind [lgv, nI_0, show nI 1 = 1 from rfl]) rfl) (Nat.le_refl _) (Nat.le_refl _) dX0_logicValue_52
            · skip
              have b33 : (isT y) = true := bI_n.mp c33
              refine k_iconst (v := nI 1) C dX0_logicValue_36 rfl ?_
              exact k_iret C zr zlk (pi_of (by grind [lgv, nI_0, show nI 1 = 1 from rfl]) rfl) (Nat.le_refl _) (Nat.le_refl _) dX0_logicValue_37
      · skip
        refine k_iconst (v := nI 0) C dX0_logicValue_14 rfl ?_
        exact k_iret C zr zlk (pi_of (by grind [lgv, nI_0, show nI 1 = 1 from rfl]) rfl) (Nat.le_refl _) (Nat.le_refl _) dX0_logicValue_15
set_option maxHeartbeats 4000000 in
set_option maxRecDepth 100000 in
theorem c_X0_number {zl : Launch} {D : va_G} {cI cN cR : ClassId} {base : Nat} {V : gv_V} {q : Nat} {x y : Int32}   (hq : q ≤ 5) : ct zl D [(cI, .int), (cN, .object "AlgebraTree$Node"), (cR, .object "AlgebraTree$Rows")] base yX0_number cX0_number 3 (some .long) 0 0 0 [.int (nI q), .int x, .int y] V (pl (nmb q x y) V) := by
  refine ct_of "AlgebraTree$Expressions" rfl (by decide) (Nat.le_of_ble_eq_true rfl) ?_
  intro zp ze zs zm zargs zbelow zmeth zc C zr zlk znm
  refine k_pc (pc' := 0) (st' := []) rfl rfl ?_
  show K zp zl ze (gv_rm 0 0 0) zs zm zargs zbelow zmeth zc D base 3 (gv_E D [(cI, .int), (cN, .object "AlgebraTree$Node"), (cR, .object "AlgebraTree$Rows")] base zbelow zargs zs 0 0 (pl (nmb q x y) V)) V 0 0 [(0, .int (nI q)), (1, .int x), (2, .int y)] 0 []
  refine k_iload_n C dX0_number_0 rfl 1 rfl ?_
  refine k_ldc (v := (-2147483648)) C wd_478 dX0_number_1 ?_
  refine k_icmp_eq (tgt := 12) C dX0_number_3 (by decide) (fun c3 => ?_) (fun c3 => ?_)
  · skip
    refine k_ldc2 (v := (-2147483648)) C wd_489 dX0_number_12 ?_
    exact k_lret C zr zlk (pl_of (by simp only [nmb]; simp [*]) rfl) (Nat.le_refl _) (Nat.le_refl _) dX0_number_15
  · skip
    refine k_iload_n C dX0_number_6 rfl 2 rfl ?_
    refine k_ldc (v := (-2147483648)) C wd_478 dX0_number_7 ?_
    refine k_icmp_ne (tgt := 16) C dX0_number_9 (by decide) (fun c9 => ?_) (fun c9 => ?_)
    · skip
      refine k_iload_n C dX0_number_16 rfl 0 rfl ?_
      rcases (show q = 0 ∨ q = 1 ∨ q = 2 ∨ q = 3 ∨ q = 4 ∨ q = 5 from by omega) with sw17 | sw17 | sw17 | sw17 | sw17 | sw17
      · skip
        refine k_val (y := nI 0) (by rw [sw17]) ?_
        refine k_tableIn (tgt := 52) C dX0_number_17 (by decide) (by decide) rfl (by decide) ?_
        refine k_iload_n C dX0_number_52 rfl 1 rfl ?_
        refine k_i2l C dX0_number_53 rfl ?_
        refine k_iload_n C dX0_number_54 rfl 2 rfl ?_
        refine k_i2l C dX0_number_55 rfl ?_
        refine k_ladd C dX0_number_56 ?_
        exact k_lret C zr zlk (pl_of (by simp only [nmb]; simp [*]) rfl) (Nat.le_refl _) (Nat.le_refl _) dX0_number_57
      · skip
        refine k_val (y := nI 1) (by rw [sw17]) ?_
        refine k_tableIn (tgt := 58) C dX0_number_17 (by decide) (by decide) rfl (by decide) ?_
        refine k_iload_n C dX0_number_58 rfl 1 rfl ?_
        refine k_i2l C dX0_number_59 rfl ?_
        refine k_iload_n C dX0_number_60 rfl 2 rfl ?_
        refine k_i2l C dX0_number_61 rfl ?_
        refine k_lsub C dX0_number_62 ?_
        exact k_lret C zr zlk (pl_of (by simp only [nmb]; simp [*]) rfl) (Nat.le_refl _) (Nat.le_refl _) dX0_number_63
      · skip
        refine k_val (y := nI 2) (by rw [sw17]) ?_
        refine k_tableIn (tgt := 64) C dX0_number_17 (by decide) (by decide) rfl (by decide) ?_
        refine k_iload_n C dX0_number_64 rfl 1 rfl ?_
        refine k_i2l C dX0_number_65 rfl ?_
        refine k_iload_n C dX0_number_66 rfl 2 rfl ?_
        refine k_i2l C dX0_number_67 rfl ?_
        refine k_lmul C dX0_number_68 ?_
        exact k_lret C zr zlk (pl_of (by simp only [nmb]; simp [*]) rfl) (Nat.le_refl _) (Nat.le_refl _) dX0_number_69
      · skip
        refine k_val (y := nI 3) (by rw [sw17]) ?_
        refine k_tableIn (tgt := 70) C dX0_number_17 (by decide) (by decide) rfl (by decide) ?_
        refine k_iload_n C dX0_number_70 rfl 2 rfl ?_
        refine k_if_ne (tgt := 80) C dX0_number_71 (by decide) (fun c71 => ?_) (fun c71 => ?_)
        · skip
          refine k_iload_n C dX0_number_80 rfl 1 rfl ?_
          refine k_iload_n C dX0_number_81 rfl 2 rfl ?_
          refine k_idiv C dX0_number_82 c71 ?_
          refine k_i2l C dX0_number_83 rfl ?_
          exact k_lret C zr zlk (pl_of (by simp only [nmb]; simp [*]) rfl) (Nat.le_refl _) (Nat.le_refl _) dX0_number_84
        · skip
          refine k_ldc2 (v := (-2147483648)) C wd_489 dX0_number_74 ?_
          refine k_goto (tgt := 84) C dX0_number_77 (by decide) ?_
          exact k_lret C zr zlk (pl_of (by simp only [nmb]; simp [*]) rfl) (Nat.le_refl _) (Nat.le_refl _) dX0_number_84
      · skip
        refine k_val (y := nI 4) (by rw [sw17]) ?_
        refine k_tableIn (tgt := 85) C dX0_number_17 (by decide) (by decide) rfl (by decide) ?_
        refine k_iload_n C dX0_number_85 rfl 1 rfl ?_
        refine k_iload_n C dX0_number_86 rfl 2 rfl ?_
        refine k_icmp_ge (tgt := 94) C dX0_number_87 (by decide) (fun c87 => ?_) (fun c87 => ?_)
        · skip
          refine k_lconst (v := 0) C dX0_number_94 rfl ?_
          exact k_lret C zr zlk (pl_of (by simp only [nmb]; simp [*]) rfl) (Nat.le_refl _) (Nat.le_refl _) dX0_number_95
        · skip
          refine k_lconst (v := 1) C dX0_number_90 rfl ?_
          refine k_goto (tgt := 95) C dX0_number_91 (by decide) ?_
          exact k_lret C zr zlk (pl_of (by simp only [nmb]; simp [*]) rfl) (Nat.le_refl _) (Nat.le_refl _) dX0_number_95
      · skip
        refine k_val (y := nI 5) (by rw [sw17]) ?_
        refine k_tableOut (tgt := 96) C dX0_number_17 (by decide) (by decide) ?_
        refine k_iload_n C dX0_number_96 rfl 1 rfl ?_
        refine k_iload_n C dX0_number_97 rfl 2 rfl ?_
        refine k_icmp_ne (tgt := 105) C dX0_number_98 (by decide) (fun c98 => ?_) (fun c98 => ?_)
        · skip
          refine k_lconst (v := 0) C dX0_number_105 rfl ?_
          exact k_lret C zr zlk (pl_of (by simp only [nmb]; simp [*]) rfl) (Nat.le_refl _) (Nat.le_refl _) dX0_number_106
        · skip
          refine k_lconst (v := 1) C dX0_number_101 rfl ?_
          refine k_goto (tgt := 106) C dX0_number_102 (by decide) ?_
          exact k_lret C zr zlk (pl_of (by simp only [nmb]; simp [*]) rfl) (Nat.le_refl _) (Nat.le_refl _) dX0_number_106
    · skip
      refine k_ldc2 (v := (-2147483648)) C wd_489 dX0_number_12 ?_
      exact k_lret C zr zlk (pl_of (by simp only [nmb]; simp [*]) rfl) (Nat.le_refl _) (Nat.le_refl _) dX0_number_15
set_option maxHeartbeats 4000000 in
set_option maxRecDepth 100000 in
theorem c_X0_has {zl : Launch} {D : va_G} {cI cN cR : ClassId} {base : Nat} {V : gv_V} {xe ak af as ap av ne : Nat} {x : Int32}  (h_xe : V xe = some (.inr (0, [.ref ak, .ref af, .ref as, .ref ap, .ref av, .int (nI ne)])))  : ct zl D [(cI, .int), (cN, .object "AlgebraTree$Node"), (cR, .object "AlgebraTree$Rows")] base yX0_has cX0_has 2 (some .boolean) 1 0 0 [.ref xe, .int x] V (pi (bI (blw x (nI ne))) V) := by
  refine ct_of "AlgebraTree$Expressions" rfl (by decide) (Nat.le_of_ble_eq_true rfl) ?_
  intro zp ze zs zm zargs zbelow zmeth zc C zr zlk znm
  refine k_pc (pc' := 0) (st' := []) rfl rfl ?_
  show K zp zl ze (gv_rm 1 0 0) zs zm zargs zbelow zmeth zc D base 2 (gv_E D [(cI, .int), (cN, .object "AlgebraTree$Node"), (cR, .object "AlgebraTree$Rows")] base zbelow zargs zs 0 0 (pi (bI (blw x (nI ne))) V)) V 0 0 [(0, .ref xe), (1, .int x)] 0 []
  refine k_iload_n C dX0_has_0 rfl 1 rfl ?_
  refine k_aload_n C dX0_has_1 rfl 0 rfl ?_
  refine k_get (ci := 0) (k := 5) C fl_0_27 h_xe rfl dX0_has_2 ?_
  refine k_callS_pi C ms_0_31 (c_X6_isBelow   ) rfl rfl (by simp [Value.category]) ⟨by decide, by decide⟩ ⟨(by decide), (by decide)⟩ dX0_has_5 ?_
  exact k_zret C zr zlk bI_nar (pi_of rfl rfl) (Nat.le_refl _) (Nat.le_refl _) dX0_has_8
set_option maxHeartbeats 4000000 in
set_option maxRecDepth 100000 in
theorem c_X0_valueOf {zl : Launch} {D : va_G} {cI cN cR : ClassId} {base : Nat} {V : gv_V} {xe ak af as ap av ne : Nat} {kd fs sc pt vl : Nat → Int32} {b c2 n2 : Nat} {tl2 mk2 : Int32} {g : Nat → Int32} {E : Nat → Ex} {e j : Nat}  (h_xe : V xe = some (.inr (0, [.ref ak, .ref af, .ref as, .ref ap, .ref av, .int (nI ne)]))) (h_ak : V ak = some (.inl (cI, 30, .inl kd))) (h_af : V af = some (.inl (cI, 30, .inl fs))) (h_as : V as = some (.inl (cI, 30, .inl sc))) (h_ap : V ap = some (.inl (cI, 30, .inl pt))) (h_av : V av = some (.inl (cI, 30, .inl vl))) (h_b : V b = some (.inr (4, [.ref c2, .int (nI n2), .int tl2, .int mk2]))) (h_c2 : V c2 = some (.inl (cI, 486, .inl g))) (hX : ExR E ne kd fs sc pt) (he : e < ne) (hj : j ≤ 80) (hd : [ak, af, as, ap, av].Nodup) : ct zl D [(cI, .int), (cN, .object "AlgebraTree$Node"), (cR, .object "AlgebraTree$Rows")] base yX0_valueOf cX0_valueOf 5 (some .int) 2 0 0 [.ref xe, .int (nI e), .ref b, .int (nI j)] V (fun zv zV => ∃ vl1 : Nat → Int32, zv = some (.int (ev E (rwf g j) e)) ∧ zV = gv_up V av (.inl (cI, 30, .inl vl1))) := by
  refine ct_of "AlgebraTree$Expressions" rfl (by decide) (Nat.le_of_ble_eq_true rfl) ?_
  intro zp ze zs zm zargs zbelow zmeth zc C zr zlk znm
  refine k_pc (pc' := 0) (st' := []) rfl rfl ?_
  show K zp zl ze (gv_rm 2 0 0) zs zm zargs zbelow zmeth zc D base 5 (gv_E D [(cI, .int), (cN, .object "AlgebraTree$Node"), (cR, .object "AlgebraTree$Rows")] base zbelow zargs zs 0 0 (fun zv zV => ∃ vl1 : Nat → Int32, zv = some (.int (ev E (rwf g j) e)) ∧ zV = gv_up V av (.inl (cI, 30, .inl vl1)))) V 0 0 [(0, .ref xe), (1, .int (nI e)), (2, .ref b), (3, .int (nI j))] 0 []
  have hne := hX.1
  refine k_iconst (v := nI 0) C dX0_valueOf_0 rfl ?_
  refine k_istore (lv' := [(4, .int (nI 0)), (0, .ref xe), (1, .int (nI e)), (2, .ref b), (3, .int (nI j))]) C dX0_valueOf_1 (by decide) rfl ?_
  have L3 : ∀ (zn1 : Nat) (k : Nat) (vl1 : Nat → Int32), e + 1 - k < zn1 → (k ≤ e + 1) → (∀ z, z < k → bt (pt e) z = true → vl1 z = ev E (rwf g j) z) → K zp zl ze (gv_rm 2 0 0) zs zm zargs zbelow zmeth zc D base 5 (gv_E D [(cI, .int), (cN, .object "AlgebraTree$Node"), (cR, .object "AlgebraTree$Rows")] base zbelow zargs zs 0 0 (fun zv zV => ∃ vl1 : Nat → Int32, zv = some (.int (ev E (rwf g j) e)) ∧ zV = gv_up V av (.inl (cI, 30, .inl vl1)))) (gv_up V av (.inl (cI, 30, .inl vl1))) 0 0 [(4, .int (nI k)), (0, .ref xe), (1, .int (nI e)), (2, .ref b), (3, .int (nI j))] 3 [] := by
    intro zn1
    induction zn1 with
    | zero => intro k vl1 hlt; exact absurd hlt (Nat.not_lt_zero _)
    | succ zn1 ih3 =>
      intro k vl1 hlt3  hk hvl
      refine k_iload C dX0_valueOf_3 0 rfl ?_
      refine k_iload_n C dX0_valueOf_5 rfl 2 rfl ?_
      refine k_icmp_gt (tgt := 173) C dX0_valueOf_6 (by decide) (fun c6 => ?_) (fun c6 => ?_)
      · skip
        have b6 : e < k := (nI_ltI (a := e) (b := k) (by omega) (by omega)).mp c6
        refine k_aload_n C dX0_valueOf_173 rfl 1 rfl ?_
        have ne2 : nq xe av := gv_ne h_av h_xe (by simp)
        refine k_get (ci := 0) (k := 4) C fl_0_24 ((gv_up_n ne2).trans h_xe) rfl dX0_valueOf_174 ?_
        refine k_iload_n C dX0_valueOf_177 rfl 2 rfl ?_
        refine k_iald (v := vl1 e) C 0 gv_up_s rfl (vp_in_nI (by omega) (by omega)) (by rw [nI_clamp (by omega)]) dX0_valueOf_178 ?_
        exact k_iret C zr zlk ⟨vl1, by rw [hvl e (by omega) (hX.se he)], rfl⟩ (Nat.le_refl _) (Nat.le_refl _) dX0_valueOf_179
      · skip
        have b6 : ¬ e < k := fun z => c6 ((nI_ltI (a := e) (b := k) (by omega) (by omega)).mpr z)
        refine k_aload_n C dX0_valueOf_9 rfl 1 rfl ?_
        have ne3 : nq xe av := gv_ne h_av h_xe (by simp)
        refine k_get (ci := 0) (k := 3) C fl_0_21 ((gv_up_n ne3).trans h_xe) rfl dX0_valueOf_10 ?_
        refine k_iload_n C dX0_valueOf_13 rfl 2 rfl ?_
        refine k_iald (v := pt e) C 0 ((gv_up_n (Ne.symm (ndp hd 4 3 rfl rfl (by decide)))).trans h_ap) rfl (vp_in_nI (by omega) (by omega)) (by rw [nI_clamp (by omega)]) dX0_valueOf_14 ?_
        refine k_iload C dX0_valueOf_15 0 rfl ?_
        refine k_ishr C dX0_valueOf_17 ?_
        refine k_iconst (v := nI 1) C dX0_valueOf_18 rfl ?_
        refine k_iand C dX0_valueOf_19 ?_
        refine k_if_ne (tgt := 26) C dX0_valueOf_20 (by decide) (fun c20 => ?_) (fun c20 => ?_)
        · skip
          have hbk : bt (pt e) k = true := by rw [← inS_bt _ (by omega)]; cases hz : inS (pt e) (nI k) with | true => rfl | false => exact absurd (inS_e.mpr hz) c20
          have hk1 := hX.ki (k := k) (by omega)
          have hk11 := hX.le (k := k) (by omega)
          refine k_aload_n C dX0_valueOf_26 rfl 1 rfl ?_
          refine k_get (ci := 0) (k := 0) C fl_0_9 ((gv_up_n ne3).trans h_xe) rfl dX0_valueOf_27 ?_
          refine k_iload C dX0_valueOf_30 0 rfl ?_
          refine k_iald (v := kd k) C 0 ((gv_up_n (Ne.symm (ndp hd 4 0 rfl rfl (by decide)))).trans h_ak) rfl (vp_in_nI (by omega) (by omega)) (by rw [nI_clamp (by omega)]) dX0_valueOf_32 ?_
          refine k_val (y := nI ((E k).1)) hk1 ?_
          refine k_bipush (v := nI 9) C dX0_valueOf_33 rfl ?_
          refine k_icmp_lt (tgt := 67) C dX0_valueOf_35 (by decide) (fun c35 => ?_) (fun c35 => ?_)
          · skip
            have b35 : ((E k).1) < 9 := (nI_ltI (a := (E k).1) (b := 9) (by omega) (by omega)).mp c35
            obtain ⟨i1, i2, hi1, hi2, hx1, hx2, hf1, hf2, hb1, hb2⟩ := hX.op (k := k) (by omega) (by omega)
            refine k_aload_n C dX0_valueOf_67 rfl 1 rfl ?_
            refine k_get (ci := 0) (k := 0) C fl_0_9 ((gv_up_n ne3).trans h_xe) rfl dX0_valueOf_68 ?_
            refine k_iload C dX0_valueOf_71 0 rfl ?_
            refine k_iald (v := kd k) C 0 ((gv_up_n (Ne.symm (ndp hd 4 0 rfl rfl (by decide)))).trans h_ak) rfl (vp_in_nI (by omega) (by omega)) (by rw [nI_clamp (by omega)]) dX0_valueOf_73 ?_
            refine k_val (y := nI ((E k).1)) hk1 ?_
            refine k_bipush (v := nI 6) C dX0_valueOf_74 rfl ?_
            refine k_icmp_lt (tgt := 123) C dX0_valueOf_76 (by decide) (fun c76 => ?_) (fun c76 => ?_)
            · skip
              have b76 : ((E k).1) < 6 := (nI_ltI (a := (E k).1) (b := 6) (by omega) (by omega)).mp c76
              refine k_aload_n C dX0_valueOf_123 rfl 1 rfl ?_
              refine k_get (ci := 0) (k := 4) C fl_0_24 ((gv_up_n ne3).trans h_xe) rfl dX0_valueOf_124 ?_
              refine k_iload C dX0_valueOf_127 0 rfl ?_
              refine k_aload_n C dX0_valueOf_129 rfl 1 rfl ?_
              refine k_get (ci := 0) (k := 0) C fl_0_9 ((gv_up_n ne3).trans h_xe) rfl dX0_valueOf_130 ?_
              refine k_iload C dX0_valueOf_133 0 rfl ?_
              refine k_iald (v := kd k) C 0 ((gv_up_n (Ne.symm (ndp hd 4 0 rfl rfl (by decide)))).trans h_ak) rfl (vp_in_nI (by omega) (by omega)) (by rw [nI_clamp (by omega)]) dX0_valueOf_135 ?_
              refine k_val (y := nI ((E k).1)) hk1 ?_
              refine k_aload_n C dX0_valueOf_136 rfl 1 rfl ?_
              refine k_get (ci := 0) (k := 4) C fl_0_24 ((gv_up_n ne3).trans h_xe) rfl dX0_valueOf_137 ?_
              refine k_aload_n C dX0_valueOf_140 rfl 1 rfl ?_
              refine k_get (ci := 0) (k := 1) C fl_0_15 ((gv_up_n ne3).trans h_xe) rfl dX0_valueOf_141 ?_
              refine k_iload C dX0_valueOf_144 0 rfl ?_
              refine k_iald (v := fs k) C 0 ((gv_up_n (Ne.symm (ndp hd 4 1 rfl rfl (by decide)))).trans h_af) rfl (vp_in_nI (by omega) (by omega)) (by rw [nI_clamp (by omega)]) dX0_valueOf_146 ?_
              refine k_val (y := nI i1) hf1 ?_
              refine k_iald (v := vl1 i1) C 0 gv_up_s rfl (vp_in_nI (by omega) (by omega)) (by rw [nI_clamp (by omega)]) dX0_valueOf_147 ?_
              refine k_aload_n C dX0_valueOf_148 rfl 1 rfl ?_
              refine k_get (ci := 0) (k := 4) C fl_0_24 ((gv_up_n ne3).trans h_xe) rfl dX0_valueOf_149 ?_
              refine k_aload_n C dX0_valueOf_152 rfl 1 rfl ?_
              refine k_get (ci := 0) (k := 2) C fl_0_18 ((gv_up_n ne3).trans h_xe) rfl dX0_valueOf_153 ?_
              refine k_iload C dX0_valueOf_156 0 rfl ?_
              refine k_iald (v := sc k) C 0 ((gv_up_n (Ne.symm (ndp hd 4 2 rfl rfl (by decide)))).trans h_as) rfl (vp_in_nI (by omega) (by omega)) (by rw [nI_clamp (by omega)]) dX0_valueOf_158 ?_
              refine k_val (y := nI i2) hf2 ?_
              refine k_iald (v := vl1 i2) C 0 gv_up_s rfl (vp_in_nI (by omega) (by omega)) (by rw [nI_clamp (by omega)]) dX0_valueOf_159 ?_
              refine k_callS_pl C ms_0_47 (c_X0_number   (by first | assumption | omega)) rfl rfl (by simp [Value.category]) ⟨by decide, by decide⟩ ⟨(by decide), (by decide)⟩ dX0_valueOf_160 ?_
              refine k_callS_pi C ms_0_51 (c_X6_valueOrError   ) rfl rfl (by simp [Value.category]) ⟨by decide, by decide⟩ ⟨(by decide), (by decide)⟩ dX0_valueOf_163 ?_
              refine k_iast (f' := upd vl1 k (vOE (nmb ((E k).1) (vl1 i1) (vl1 i2)))) C 0 gv_up_s rfl (vp_in_nI (by omega) (by omega)) (by rw [nI_clamp (by omega)]) dX0_valueOf_166 ?_
              refine k_view (V1 := gv_up V av (.inl (cI, 30, .inl (upd vl1 k (vOE (nmb ((E k).1) (vl1 i1) (vl1 i2))))))) gv_uu ?_
              refine k_iinc (v := nI (k + 1)) (lv' := [(4, .int (nI (k + 1))), (0, .ref xe), (1, .int (nI e)), (2, .ref b), (3, .int (nI j))]) C dX0_valueOf_167 (k := 0) rfl (nI_add k 1) (by decide) rfl ?_
              refine k_goto (tgt := 3) C dX0_valueOf_170 (by decide) ?_
              exact ih3 (k + 1) (upd vl1 k (vOE (nmb ((E k).1) (vl1 i1) (vl1 i2)))) (by omega)  (by omega) (vl_nx hvl (by rw [ev_op (by omega) (by omega) hi1 hi2 hx1 hx2, ← hvl i1 (by omega) (hX.tr he hbk hb1), ← hvl i2 (by omega) (hX.tr he hbk hb2)]; simp only [opv]; rw [if_neg (by omega)]))
            · skip
              have b76 : ¬ ((E k).1) < 6 := fun z => c76 ((nI_ltI (a := (E k).1) (b := 6) (by omega) (by omega)).mpr z)
              refine k_aload_n C dX0_valueOf_79 rfl 1 rfl ?_
              refine k_get (ci := 0) (k := 4) C fl_0_24 ((gv_up_n ne3).trans h_xe) rfl dX0_valueOf_80 ?_
              refine k_iload C dX0_valueOf_83 0 rfl ?_
              refine k_aload_n C dX0_valueOf_85 rfl 1 rfl ?_
              refine k_get (ci := 0) (k := 0) C fl_0_9 ((gv_up_n ne3).trans h_xe) rfl dX0_valueOf_86 ?_
              refine k_iload C dX0_valueOf_89 0 rfl ?_
              refine k_iald (v := kd k) C 0 ((gv_up_n (Ne.symm (ndp hd 4 0 rfl rfl (by decide)))).trans h_ak) rfl (vp_in_nI (by omega) (by omega)) (by rw [nI_clamp (by omega)]) dX0_valueOf_91 ?_
              refine k_val (y := nI ((E k).1)) hk1 ?_
              refine k_aload_n C dX0_valueOf_92 rfl 1 rfl ?_
              refine k_get (ci := 0) (k := 4) C fl_0_24 ((gv_up_n ne3).trans h_xe) rfl dX0_valueOf_93 ?_
              refine k_aload_n C dX0_valueOf_96 rfl 1 rfl ?_
              refine k_get (ci := 0) (k := 1) C fl_0_15 ((gv_up_n ne3).trans h_xe) rfl dX0_valueOf_97 ?_
              refine k_iload C dX0_valueOf_100 0 rfl ?_
              refine k_iald (v := fs k) C 0 ((gv_up_n (Ne.symm (ndp hd 4 1 rfl rfl (by decide)))).trans h_af) rfl (vp_in_nI (by omega) (by omega)) (by rw [nI_clamp (by omega)]) dX0_valueOf_102 ?_
              refine k_val (y := nI i1) hf1 ?_
              refine k_iald (v := vl1 i1) C 0 gv_up_s rfl (vp_in_nI (by omega) (by omega)) (by rw [nI_clamp (by omega)]) dX0_valueOf_103 ?_
              refine k_aload_n C dX0_valueOf_104 rfl 1 rfl ?_
              refine k_get (ci := 0) (k := 4) C fl_0_24 ((gv_up_n ne3).trans h_xe) rfl dX0_valueOf_105 ?_
              refine k_aload_n C dX0_valueOf_108 rfl 1 rfl ?_
              refine k_get (ci := 0) (k := 2) C fl_0_18 ((gv_up_n ne3).trans h_xe) rfl dX0_valueOf_109 ?_
              refine k_iload C dX0_valueOf_112 0 rfl ?_
              refine k_iald (v := sc k) C 0 ((gv_up_n (Ne.symm (ndp hd 4 2 rfl rfl (by decide)))).trans h_as) rfl (vp_in_nI (by omega) (by omega)) (by rw [nI_clamp (by omega)]) dX0_valueOf_114 ?_
              refine k_val (y := nI i2) hf2 ?_
              refine k_iald (v := vl1 i2) C 0 gv_up_s rfl (vp_in_nI (by omega) (by omega)) (by rw [nI_clamp (by omega)]) dX0_valueOf_115 ?_
              refine k_callS_pi C ms_0_43 (c_X0_logicValue   (by first | assumption | omega)) rfl rfl (by simp [Value.category]) ⟨by decide, by decide⟩ ⟨(by decide), (by decide)⟩ dX0_valueOf_116 ?_
              refine k_iast (f' := upd vl1 k (lgv ((E k).1) (vl1 i1) (vl1 i2))) C 0 gv_up_s rfl (vp_in_nI (by omega) (by omega)) (by rw [nI_clamp (by omega)]) dX0_valueOf_119 ?_
              refine k_view (V1 := gv_up V av (.inl (cI, 30, .inl (upd vl1 k (lgv ((E k).1) (vl1 i1) (vl1 i2)))))) gv_uu ?_
              refine k_goto (tgt := 167) C dX0_valueOf_120 (by decide) ?_
              refine k_iinc (v := nI (k + 1)) (lv' := [(4, .int (nI (k + 1))), (0, .ref xe), (1, .int (nI e)), (2, .ref b), (3, .int (nI j))]) C dX0_valueOf_167 (k := 0) rfl (nI_add k 1) (by decide) rfl ?_
              refine k_goto (tgt := 3) C dX0_valueOf_170 (by decide) ?_
              exact ih3 (k + 1) (upd vl1 k (lgv ((E k).1) (vl1 i1) (vl1 i2))) (by omega)  (by omega) (vl_nx hvl (by rw [ev_op (by omega) (by omega) hi1 hi2 hx1 hx2, ← hvl i1 (by omega) (hX.tr he hbk hb1), ← hvl i2 (by omega) (hX.tr he hbk hb2)]; simp only [opv]; rw [if_pos (by omega)]))
          · skip
            have b35 : ¬ ((E k).1) < 9 := fun z => c35 ((nI_ltI (a := (E k).1) (b := 9) (by omega) (by omega)).mpr z)
            refine k_aload_n C dX0_valueOf_38 rfl 1 rfl ?_
            refine k_get (ci := 0) (k := 4) C fl_0_24 ((gv_up_n ne3).trans h_xe) rfl dX0_valueOf_39 ?_
            refine k_iload C dX0_valueOf_42 0 rfl ?_
            refine k_aload_n C dX0_valueOf_44 rfl 1 rfl ?_
            refine k_get (ci := 0) (k := 0) C fl_0_9 ((gv_up_n ne3).trans h_xe) rfl dX0_valueOf_45 ?_
            refine k_iload C dX0_valueOf_48 0 rfl ?_
            refine k_iald (v := kd k) C 0 ((gv_up_n (Ne.symm (ndp hd 4 0 rfl rfl (by decide)))).trans h_ak) rfl (vp_in_nI (by omega) (by omega)) (by rw [nI_clamp (by omega)]) dX0_valueOf_50 ?_
            refine k_val (y := nI ((E k).1)) hk1 ?_
            refine k_aload_n C dX0_valueOf_51 rfl 1 rfl ?_
            refine k_get (ci := 0) (k := 1) C fl_0_15 ((gv_up_n ne3).trans h_xe) rfl dX0_valueOf_52 ?_
            refine k_iload C dX0_valueOf_55 0 rfl ?_
            refine k_iald (v := fs k) C 0 ((gv_up_n (Ne.symm (ndp hd 4 1 rfl rfl (by decide)))).trans h_af) rfl (vp_in_nI (by omega) (by omega)) (by rw [nI_clamp (by omega)]) dX0_valueOf_57 ?_
            refine k_val (y := (E k).2.1) (hX.lf (by omega) (by omega)) ?_
            refine k_aload_n C dX0_valueOf_58 rfl 3 rfl ?_
            refine k_iload_n C dX0_valueOf_59 rfl 4 rfl ?_
            by_cases hq9 : (E k).1 = 9
            · skip
              have ne4 : nq b av := gv_ne h_av h_b (by simp)
              have ne5 : nq c2 av := gv_ne h_av h_c2 (by simp)
              refine k_callS_pi C ms_0_39 (c_leaf9  ((gv_up_n ne4).trans h_b) ((gv_up_n ne5).trans h_c2) hq9) rfl rfl (by simp [Value.category]) ⟨by decide, by decide⟩ ⟨(by decide), (by decide)⟩ dX0_valueOf_60 ?_
              refine k_iast (f' := upd vl1 k ((E k).2.1)) C 0 gv_up_s rfl (vp_in_nI (by omega) (by omega)) (by rw [nI_clamp (by omega)]) dX0_valueOf_63 ?_
              refine k_view (V1 := gv_up V av (.inl (cI, 30, .inl (upd vl1 k ((E k).2.1))))) gv_uu ?_
              refine k_goto (tgt := 167) C dX0_valueOf_64 (by decide) ?_
              refine k_iinc (v := nI (k + 1)) (lv' := [(4, .int (nI (k + 1))), (0, .ref xe), (1, .int (nI e)), (2, .ref b), (3, .int (nI j))]) C dX0_valueOf_167 (k := 0) rfl (nI_add k 1) (by decide) rfl ?_
              refine k_goto (tgt := 3) C dX0_valueOf_170 (by decide) ?_
              exact ih3 (k + 1) (upd vl1 k ((E k).2.1)) (by omega)  (by omega) (vl_nx hvl (by rw [ev_lf (by omega), hq9, lfv_9]))
            · skip
              obtain ⟨v, hv, hxv⟩ := hX.va (k := k) (by omega) (by omega) hq9
              refine k_pc (pc' := 60) (st' := [.int (nI j), .ref b, .int (nI v), .int (nI ((E k).1)), .int (nI k), .ref av]) rfl (by rw [hxv]) ?_
              have ne6 : nq b av := gv_ne h_av h_b (by simp)
              have ne7 : nq c2 av := gv_ne h_av h_c2 (by simp)
              refine k_callS_pi C ms_0_39 (c_leafV  ((gv_up_n ne6).trans h_b) ((gv_up_n ne7).trans h_c2) (by assumption) (by first | assumption | omega) (by first | assumption | omega) (by first | assumption | omega)) rfl rfl (by simp [Value.category]) ⟨by decide, by decide⟩ ⟨(by decide), (by decide)⟩ dX0_valueOf_60 ?_
              refine k_iast (f' := upd vl1 k (if ((E k).1) = 10 then rwf g j v else if rwf g j v = oE then 0 else 1)) C 0 gv_up_s rfl (vp_in_nI (by omega) (by omega)) (by rw [nI_clamp (by omega)]) dX0_valueOf_63 ?_
              refine k_view (V1 := gv_up V av (.inl (cI, 30, .inl (upd vl1 k (if ((E k).1) = 10 then rwf g j v else if rwf g j v = oE then 0 else 1))))) gv_uu ?_
              refine k_goto (tgt := 167) C dX0_valueOf_64 (by decide) ?_
              refine k_iinc (v := nI (k + 1)) (lv' := [(4, .int (nI (k + 1))), (0, .ref xe), (1, .int (nI e)), (2, .ref b), (3, .int (nI j))]) C dX0_valueOf_167 (k := 0) rfl (nI_add k 1) (by decide) rfl ?_
              refine k_goto (tgt := 3) C dX0_valueOf_170 (by decide) ?_
              exact ih3 (k + 1) (upd vl1 k (if ((E k).1) = 10 then rwf g j v else if rwf g j v = oE then 0 else 1)) (by omega)  (by omega) (vl_nx hvl (by rw [ev_lf (by omega), hxv, lfv_v hv (by assumption)]))
        · skip
          refine k_goto (tgt := 167) C dX0_valueOf_23 (by decide) ?_
          refine k_iinc (v := nI (k + 1)) (lv' := [(4, .int (nI (k + 1))), (0, .ref xe), (1, .int (nI e)), (2, .ref b), (3, .int (nI j))]) C dX0_valueOf_167 (k := 0) rfl (nI_add k 1) (by decide) rfl ?_
          refine k_goto (tgt := 3) C dX0_valueOf_170 (by decide) ?_
          exact ih3 (k + 1) vl1 (by omega)  (by omega) (fun z hz hb => by
            rcases Nat.lt_or_ge z k with h | h
            · exact hvl z h hb
            · rw [show z = k by omega] at hb; rw [← inS_bt _ (by omega), inS_e.mp c20] at hb; cases hb)
  refine k_view (V1 := gv_up V av (.inl (cI, 30, .inl vl))) (gv_id h_av).symm ?_
  exact L3 _ 0 vl (Nat.lt_succ_self _)  (by omega) (fun _ h => absurd h (Nat.not_lt_zero _))
