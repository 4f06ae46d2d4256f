theorem ev_m9 {E : Nat → Ex} {r : Row} {k : Nat} (h : (E k).1 = 9) : ev E r k = (E k).2.1 := by
  unfold ev e1 lfv
  rw [if_pos (by omega), if_pos h]
theorem ev_mv {E : Nat → Ex} {r : Row} {k v : Nat} (h : (E k).1 = 10) (hv : v < 6) (hx : (E k).2.1 = nI v) : ev E r k = r v := by
  unfold ev e1 lfv
  rw [if_pos (by omega), if_neg (by omega), if_pos h, hx, nI_clamp (by omega)]
theorem ev_mb {E : Nat → Ex} {r : Row} {k v : Nat} (h : 11 ≤ (E k).1) (hv : v < 6) (hx : (E k).2.1 = nI v) : ev E r k = if r v = oE then 0 else 1 := by
  unfold ev e1 lfv
  rw [if_pos (by omega), if_neg (by omega), if_neg (by omega), hx, nI_clamp (by omega)]
theorem ev_m2 {E : Nat → Ex} {r : Row} {k i1 i2 : Nat} (h : (E k).1 < 8) (hk : k < 2 ^ 31) (h1 : i1 < k) (h2 : i2 < k) (hx : (E k).2.1 = nI i1) (hy : (E k).2.2 = nI i2) : ev E r k = opv (E k).1 (ev E r i1) (ev E r i2) := by
  show e1 E r (evs E r k) k = _
  unfold e1
  rw [if_neg (by omega), if_neg (show ¬ (E k).1 = 8 by omega), hx, hy, nI_clamp (by omega), nI_clamp (by omega), evs_at h1, evs_at h2]
theorem ev_m8 {E : Nat → Ex} {r : Row} {k i1 : Nat} (h : (E k).1 = 8) (hk : k < 2 ^ 31) (h1 : i1 < k) (hx : (E k).2.1 = nI i1) : ev E r k = opv 8 (ev E r i1) (ev E r i1) := by
  show e1 E r (evs E r k) k = _
  unfold e1
  rw [if_neg (by omega), if_pos h, hx, nI_clamp (by omega), evs_at h1, h]
theorem lf_c {x y : Int32} {b : Bool} : (blw x (nI 3) && (if x = 0 then wi y (-1000000) 1000000 else blw y (nI 6)) && b) = ((if x = 0 then wi y (-1000000) 1000000 else (x == nI 1 || x == nI 2) && blw y (nI 6)) && b) := by
  congr 1
  by_cases h0 : x = 0
  · rw [if_pos h0, if_pos h0, h0, show blw 0 (nI 3) = true from by decide]; simp
  · rw [if_neg h0, if_neg h0]
    congr 1
    cases h : blw x (nI 3) with
    | true =>
      obtain ⟨k, hk, rfl⟩ := blw_nI (by decide) h
      rcases (show k = 0 ∨ k = 1 ∨ k = 2 by omega) with rfl | rfl | rfl
      · exact absurd rfl h0
      · rfl
      · rfl
    | false =>
      have h1 : ¬ x = nI 1 := fun e => by rw [e] at h; exact absurd h (by decide)
      have h2 : ¬ x = nI 2 := fun e => by rw [e] at h; exact absurd h (by decide)
      simp [h1, h2]
set_option maxHeartbeats 4000000 in
set_option maxRecDepth 100000 in
theorem c_X7_valueOf {zl : Launch} {D : va_G} {cI cN cR : ClassId} {base : Nat} {V : gv_V} {m wt wa wv wm wr wc wn ws wk wp nt ne nn sh : Nat} {kn : Int32} {fa fv fw : Nat → Int32} {E : Nat → Ex} {e : Nat}  (h_m : V m = some (.inr (7, [.int (nI nt), .ref wt, .int (nI ne), .ref wa, .ref wv, .int (nI nn), .ref wm, .int kn, .ref wr, .ref wc, .ref wn, .int (nI sh), .ref ws, .ref wk, .ref wp]))) (h_wa : V wa = some (.inl (cI, 90, .inl fa))) (h_wv : V wv = some (.inl (cI, 30, .inl fv))) (h_wn : V wn = some (.inl (cI, 6, .inl fw))) (hM : MA E ne fa) (he : e < ne) : ct zl D [(cI, .int), (cN, .object "AlgebraTree$Node"), (cR, .object "AlgebraTree$Rows")] base yX7_valueOf cX7_valueOf 6 (some .int) 2 0 0 [.ref m, .int (nI e)] V (fun zv zV => ∃ fv1 : Nat → Int32, zv = some (.int (ev E fw e)) ∧ zV = gv_up V wv (.inl (cI, 30, .inl fv1))) := by
  refine ct_of "AlgebraTreeModel" rfl (by decide) (Nat.le_of_ble_eq_true rfl) ?_
  intro zp ze zs zm zargs zbelow zmeth zc C zr zlk znm
  refine k_pc (pc' := 0) (st' := []) rfl rfl ?_
  show K zp zl ze (gv_rm 2 0 0) zs zm zargs zbelow zmeth zc D base 6 (gv_E D [(cI, .int), (cN, .object "AlgebraTree$Node"), (cR, .object "AlgebraTree$Rows")] base zbelow zargs zs 0 0 (fun zv zV => ∃ fv1 : Nat → Int32, zv = some (.int (ev E fw e)) ∧ zV = gv_up V wv (.inl (cI, 30, .inl fv1)))) V 0 0 [(0, .ref m), (1, .int (nI e))] 0 []
  have hne := hM.1
  refine k_iconst (v := nI 0) C dX7_valueOf_0 rfl ?_
  refine k_istore_n (lv' := [(2, .int (nI 0)), (0, .ref m), (1, .int (nI e))]) C dX7_valueOf_1 rfl (by decide) rfl ?_
  have L2 : ∀ (zn1 : Nat) (k : Nat) (fv1 : Nat → Int32), e + 1 - k < zn1 → (k ≤ e + 1) → (∀ z, z < k → fv1 z = ev E fw z) → K zp zl ze (gv_rm 2 0 0) zs zm zargs zbelow zmeth zc D base 6 (gv_E D [(cI, .int), (cN, .object "AlgebraTree$Node"), (cR, .object "AlgebraTree$Rows")] base zbelow zargs zs 0 0 (fun zv zV => ∃ fv1 : Nat → Int32, zv = some (.int (ev E fw e)) ∧ zV = gv_up V wv (.inl (cI, 30, .inl fv1)))) (gv_up V wv (.inl (cI, 30, .inl fv1))) 0 0 [(2, .int (nI k)), (0, .ref m), (1, .int (nI e))] 2 [] := by
    intro zn1
    induction zn1 with
    | zero => intro k fv1 hlt; exact absurd hlt (Nat.not_lt_zero _)
    | succ zn1 ih2 =>
      intro k fv1 hlt2  hk hvl
      refine k_iload_n C dX7_valueOf_2 rfl 0 rfl ?_
      refine k_iload_n C dX7_valueOf_3 rfl 2 rfl ?_
      refine k_icmp_gt (tgt := 139) C dX7_valueOf_4 (by decide) (fun c4 => ?_) (fun c4 => ?_)
      · skip
        have b4 : e < k := (nI_ltI (a := e) (b := k) (by omega) (by omega)).mp c4
        refine k_aload_n C dX7_valueOf_139 rfl 1 rfl ?_
        have ne2 : nq m wv := gv_ne h_wv h_m (by simp)
        refine k_get (ci := 7) (k := 4) C fl_7_16 ((gv_up_n ne2).trans h_m) rfl dX7_valueOf_140 ?_
        refine k_iload_n C dX7_valueOf_143 rfl 2 rfl ?_
        refine k_iald (v := fv1 e) C 0 gv_up_s rfl (vp_in_nI (by omega) (by omega)) (by rw [nI_clamp (by omega)]) dX7_valueOf_144 ?_
        exact k_iret C zr zlk ⟨fv1, (by rw [hvl e (by omega)]), rfl⟩ (Nat.le_refl _) (Nat.le_refl _) dX7_valueOf_145
      · skip
        have b4 : ¬ e < k := fun z => c4 ((nI_ltI (a := e) (b := k) (by omega) (by omega)).mpr z)
        have hk11 := hM.le (k := k) (by omega)
        by_cases h9 : 9 ≤ (E k).1
        · skip
          refine k_aload_n C dX7_valueOf_7 rfl 1 rfl ?_
          have ne3 : nq m wv := gv_ne h_wv h_m (by simp)
          refine k_get (ci := 7) (k := 3) C fl_7_13 ((gv_up_n ne3).trans h_m) rfl dX7_valueOf_8 ?_
          refine k_iconst (v := nI 3) C dX7_valueOf_11 rfl ?_
          refine k_iload_n C dX7_valueOf_12 rfl 0 rfl ?_
          refine k_imul C dX7_valueOf_13 ?_
          refine k_val (y := nI (3 * k)) (pk_mul 3 k) ?_
          have ne4 : nq wa wv := gv_ne h_wv h_wa (by simp)
          refine k_iald (v := fa (3 * k)) C 0 ((gv_up_n ne4).trans h_wa) rfl (vp_in_nI (by omega) (by omega)) (by rw [nI_clamp (by omega)]) dX7_valueOf_14 ?_
          refine k_val (y := nI ((E k).1 - 9)) (by rw [(hM.2 k (by omega)).2.1, if_pos h9]) ?_
          refine k_istore_n (lv' := [(3, .int (nI ((E k).1 - 9))), (2, .int (nI k)), (0, .ref m), (1, .int (nI e))]) C dX7_valueOf_15 rfl (by decide) rfl ?_
          refine k_aload_n C dX7_valueOf_16 rfl 2 rfl ?_
          refine k_get (ci := 7) (k := 3) C fl_7_13 ((gv_up_n ne3).trans h_m) rfl dX7_valueOf_17 ?_
          refine k_iconst (v := nI 3) C dX7_valueOf_20 rfl ?_
          refine k_iload_n C dX7_valueOf_21 rfl 1 rfl ?_
          refine k_imul C dX7_valueOf_22 ?_
          refine k_val (y := nI (3 * k)) (pk_mul 3 k) ?_
          refine k_iconst (v := nI 1) C dX7_valueOf_23 rfl ?_
          refine k_iadd C dX7_valueOf_24 ?_
          refine k_val (y := nI ((3 * k) + 1)) (nI_add (3 * k) 1) ?_
          refine k_iald (v := fa ((3 * k) + 1)) C 0 ((gv_up_n ne4).trans h_wa) rfl (vp_in_nI (by omega) (by omega)) (by rw [nI_clamp (by omega)]) dX7_valueOf_25 ?_
          refine k_istore (lv' := [(4, .int (fa ((3 * k) + 1))), (3, .int (nI ((E k).1 - 9))), (2, .int (nI k)), (0, .ref m), (1, .int (nI e))]) C dX7_valueOf_26 (by decide) rfl ?_
          refine k_aload_n C dX7_valueOf_28 rfl 3 rfl ?_
          refine k_get (ci := 7) (k := 3) C fl_7_13 ((gv_up_n ne3).trans h_m) rfl dX7_valueOf_29 ?_
          refine k_iconst (v := nI 3) C dX7_valueOf_32 rfl ?_
          refine k_iload_n C dX7_valueOf_33 rfl 2 rfl ?_
          refine k_imul C dX7_valueOf_34 ?_
          refine k_val (y := nI (3 * k)) (pk_mul 3 k) ?_
          refine k_iconst (v := nI 2) C dX7_valueOf_35 rfl ?_
          refine k_iadd C dX7_valueOf_36 ?_
          refine k_val (y := nI ((3 * k) + 2)) (nI_add (3 * k) 2) ?_
          refine k_iald (v := fa ((3 * k) + 2)) C 0 ((gv_up_n ne4).trans h_wa) rfl (vp_in_nI (by omega) (by omega)) (by rw [nI_clamp (by omega)]) dX7_valueOf_37 ?_
          refine k_istore (lv' := [(5, .int (fa ((3 * k) + 2))), (4, .int (fa ((3 * k) + 1))), (3, .int (nI ((E k).1 - 9))), (2, .int (nI k)), (0, .ref m), (1, .int (nI e))]) C dX7_valueOf_38 (by decide) rfl ?_
          refine k_iload_n C dX7_valueOf_40 rfl 2 rfl ?_
          refine k_bipush (v := nI 10) C dX7_valueOf_41 rfl ?_
          refine k_icmp_ge (tgt := 96) C dX7_valueOf_43 (by decide) (fun c43 => ?_) (fun c43 => ?_)
          · skip
            exact absurd ((nI_leI (by omega) (by omega)).mp c43) (by omega)
          · skip
            have b43 : ¬ 10 ≤ ((E k).1 - 9) := fun z => c43 ((nI_leI (a := 10) (b := (E k).1 - 9) (by omega) (by omega)).mpr z)
            refine k_aload_n C dX7_valueOf_46 rfl 4 rfl ?_
            refine k_get (ci := 7) (k := 4) C fl_7_16 ((gv_up_n ne3).trans h_m) rfl dX7_valueOf_47 ?_
            refine k_iload_n C dX7_valueOf_50 rfl 3 rfl ?_
            refine k_iload_n C dX7_valueOf_51 rfl 2 rfl ?_
            refine k_if_ne (tgt := 60) C dX7_valueOf_52 (by decide) (fun c52 => ?_) (fun c52 => ?_)
            · skip
              have b52 : ¬ ((E k).1 - 9) = 0 := fun z => c52 ((nI_eq (a := (E k).1 - 9) (b := 0) (by omega) (by omega)).mpr z)
              obtain ⟨v, hv, hxv⟩ := hM.va (k := k) (by omega) (by omega)
              refine k_iload_n C dX7_valueOf_60 rfl 2 rfl ?_
              refine k_iconst (v := nI 1) C dX7_valueOf_61 rfl ?_
              refine k_icmp_ne (tgt := 75) C dX7_valueOf_62 (by decide) (fun c62 => ?_) (fun c62 => ?_)
              · skip
                have b62 : ¬ ((E k).1 - 9) = 1 := fun z => c62 ((nI_eq (a := (E k).1 - 9) (b := 1) (by omega) (by omega)).mpr z)
                refine k_aload_n C dX7_valueOf_75 rfl 4 rfl ?_
                refine k_get (ci := 7) (k := 10) C fl_7_29 ((gv_up_n ne3).trans h_m) rfl dX7_valueOf_76 ?_
                refine k_iload C dX7_valueOf_79 1 rfl ?_
                refine k_val (y := nI v) ((hM.2 k (by omega)).2.2.1.trans hxv) ?_
                have ne5 : nq wn wv := gv_ne h_wv h_wn (by simp)
                refine k_iald (v := fw v) C 0 ((gv_up_n ne5).trans h_wn) rfl (vp_in_nI (by omega) (by omega)) (by rw [nI_clamp (by omega)]) dX7_valueOf_81 ?_
                refine k_ldc (v := (-2147483648)) C wd_784 dX7_valueOf_82 ?_
                refine k_icmp_ne (tgt := 91) C dX7_valueOf_84 (by decide) (fun c84 => ?_) (fun c84 => ?_)
                · skip
                  refine k_iconst (v := nI 1) C dX7_valueOf_91 rfl ?_
                  refine k_iast (f' := upd fv1 k (nI 1)) C 0 gv_up_s rfl (vp_in_nI (by omega) (by omega)) (by rw [nI_clamp (by omega)]) dX7_valueOf_92 ?_
                  refine k_view (V1 := gv_up V wv (.inl (cI, 30, .inl (upd fv1 k (nI 1))))) gv_uu ?_
                  refine k_goto (tgt := 133) C dX7_valueOf_93 (by decide) ?_
                  refine k_iinc (v := nI (k + 1)) (lv' := [(2, .int (nI (k + 1))), (5, .int (fa ((3 * k) + 2))), (4, .int (fa ((3 * k) + 1))), (3, .int (nI ((E k).1 - 9))), (0, .ref m), (1, .int (nI e))]) C dX7_valueOf_133 (k := 3) rfl (nI_add k 1) (by decide) rfl ?_
                  refine k_goto (tgt := 2) C dX7_valueOf_136 (by decide) ?_
                  refine k_sub [0, 4, 5] (lv' := [(2, .int (nI (k + 1))), (0, .ref m), (1, .int (nI e))]) rfl ?_
                  exact ih2 (k + 1) (upd fv1 k (nI 1)) (by omega)  (by omega) (upd_nx hvl (by rw [ev_mb (by omega) hv hxv]; first | exact (if_pos c84).symm | exact (if_neg c84).symm))
                · skip
                  refine k_iconst (v := nI 0) C dX7_valueOf_87 rfl ?_
                  refine k_goto (tgt := 92) C dX7_valueOf_88 (by decide) ?_
                  refine k_iast (f' := upd fv1 k (nI 0)) C 0 gv_up_s rfl (vp_in_nI (by omega) (by omega)) (by rw [nI_clamp (by omega)]) dX7_valueOf_92 ?_
                  refine k_view (V1 := gv_up V wv (.inl (cI, 30, .inl (upd fv1 k (nI 0))))) gv_uu ?_
                  refine k_goto (tgt := 133) C dX7_valueOf_93 (by decide) ?_
                  refine k_iinc (v := nI (k + 1)) (lv' := [(2, .int (nI (k + 1))), (5, .int (fa ((3 * k) + 2))), (4, .int (fa ((3 * k) + 1))), (3, .int (nI ((E k).1 - 9))), (0, .ref m), (1, .int (nI e))]) C dX7_valueOf_133 (k := 3) rfl (nI_add k 1) (by decide) rfl ?_
                  refine k_goto (tgt := 2) C dX7_valueOf_136 (by decide) ?_
                  refine k_sub [0, 4, 5] (lv' := [(2, .int (nI (k + 1))), (0, .ref m), (1, .int (nI e))]) rfl ?_
                  exact ih2 (k + 1) (upd fv1 k (nI 0)) (by omega)  (by omega) (upd_nx hvl (by rw [ev_mb (by omega) hv hxv]; first | exact (if_pos c84).symm | exact (if_neg c84).symm))
              · skip
                have b62 : ((E k).1 - 9) = 1 := (nI_eq (a := (E k).1 - 9) (b := 1) (by omega) (by omega)).mp c62
                refine k_aload_n C dX7_valueOf_65 rfl 4 rfl ?_
                refine k_get (ci := 7) (k := 10) C fl_7_29 ((gv_up_n ne3).trans h_m) rfl dX7_valueOf_66 ?_
                refine k_iload C dX7_valueOf_69 1 rfl ?_
                refine k_val (y := nI v) ((hM.2 k (by omega)).2.2.1.trans hxv) ?_
                have ne6 : nq wn wv := gv_ne h_wv h_wn (by simp)
                refine k_iald (v := fw v) C 0 ((gv_up_n ne6).trans h_wn) rfl (vp_in_nI (by omega) (by omega)) (by rw [nI_clamp (by omega)]) dX7_valueOf_71 ?_
                refine k_goto (tgt := 92) C dX7_valueOf_72 (by decide) ?_
                refine k_iast (f' := upd fv1 k (fw v)) C 0 gv_up_s rfl (vp_in_nI (by omega) (by omega)) (by rw [nI_clamp (by omega)]) dX7_valueOf_92 ?_
                refine k_view (V1 := gv_up V wv (.inl (cI, 30, .inl (upd fv1 k (fw v))))) gv_uu ?_
                refine k_goto (tgt := 133) C dX7_valueOf_93 (by decide) ?_
                refine k_iinc (v := nI (k + 1)) (lv' := [(2, .int (nI (k + 1))), (5, .int (fa ((3 * k) + 2))), (4, .int (fa ((3 * k) + 1))), (3, .int (nI ((E k).1 - 9))), (0, .ref m), (1, .int (nI e))]) C dX7_valueOf_133 (k := 3) rfl (nI_add k 1) (by decide) rfl ?_
                refine k_goto (tgt := 2) C dX7_valueOf_136 (by decide) ?_
                refine k_sub [0, 4, 5] (lv' := [(2, .int (nI (k + 1))), (0, .ref m), (1, .int (nI e))]) rfl ?_
                exact ih2 (k + 1) (upd fv1 k (fw v)) (by omega)  (by omega) (upd_nx hvl (by rw [ev_mv (by omega) hv hxv]))
            · skip
              have b52 : ((E k).1 - 9) = 0 := (nI_eq (a := (E k).1 - 9) (b := 0) (by omega) (by omega)).mp c52
              refine k_iload C dX7_valueOf_55 1 rfl ?_
              refine k_goto (tgt := 92) C dX7_valueOf_57 (by decide) ?_
              refine k_iast (f' := upd fv1 k (fa ((3 * k) + 1))) C 0 gv_up_s rfl (vp_in_nI (by omega) (by omega)) (by rw [nI_clamp (by omega)]) dX7_valueOf_92 ?_
              refine k_view (V1 := gv_up V wv (.inl (cI, 30, .inl (upd fv1 k (fa ((3 * k) + 1)))))) gv_uu ?_
              refine k_goto (tgt := 133) C dX7_valueOf_93 (by decide) ?_
              refine k_iinc (v := nI (k + 1)) (lv' := [(2, .int (nI (k + 1))), (5, .int (fa ((3 * k) + 2))), (4, .int (fa ((3 * k) + 1))), (3, .int (nI ((E k).1 - 9))), (0, .ref m), (1, .int (nI e))]) C dX7_valueOf_133 (k := 3) rfl (nI_add k 1) (by decide) rfl ?_
              refine k_goto (tgt := 2) C dX7_valueOf_136 (by decide) ?_
              refine k_sub [0, 4, 5] (lv' := [(2, .int (nI (k + 1))), (0, .ref m), (1, .int (nI e))]) rfl ?_
              exact ih2 (k + 1) (upd fv1 k (fa ((3 * k) + 1))) (by omega)  (by omega) (upd_nx hvl (by rw [ev_m9 (by omega)]; exact (hM.2 k (by omega)).2.2.1))
        · skip
          refine k_aload_n C dX7_valueOf_7 rfl 1 rfl ?_
          have ne7 : nq m wv := gv_ne h_wv h_m (by simp)
          refine k_get (ci := 7) (k := 3) C fl_7_13 ((gv_up_n ne7).trans h_m) rfl dX7_valueOf_8 ?_
          refine k_iconst (v := nI 3) C dX7_valueOf_11 rfl ?_
          refine k_iload_n C dX7_valueOf_12 rfl 0 rfl ?_
          refine k_imul C dX7_valueOf_13 ?_
          refine k_val (y := nI (3 * k)) (pk_mul 3 k) ?_
          have ne8 : nq wa wv := gv_ne h_wv h_wa (by simp)
          refine k_iald (v := fa (3 * k)) C 0 ((gv_up_n ne8).trans h_wa) rfl (vp_in_nI (by omega) (by omega)) (by rw [nI_clamp (by omega)]) dX7_valueOf_14 ?_
          refine k_val (y := nI (10 + (E k).1)) (by rw [(hM.2 k (by omega)).2.1, if_neg h9]) ?_
          refine k_istore_n (lv' := [(3, .int (nI (10 + (E k).1))), (2, .int (nI k)), (0, .ref m), (1, .int (nI e))]) C dX7_valueOf_15 rfl (by decide) rfl ?_
          refine k_aload_n C dX7_valueOf_16 rfl 2 rfl ?_
          refine k_get (ci := 7) (k := 3) C fl_7_13 ((gv_up_n ne7).trans h_m) rfl dX7_valueOf_17 ?_
          refine k_iconst (v := nI 3) C dX7_valueOf_20 rfl ?_
          refine k_iload_n C dX7_valueOf_21 rfl 1 rfl ?_
          refine k_imul C dX7_valueOf_22 ?_
          refine k_val (y := nI (3 * k)) (pk_mul 3 k) ?_
          refine k_iconst (v := nI 1) C dX7_valueOf_23 rfl ?_
          refine k_iadd C dX7_valueOf_24 ?_
          refine k_val (y := nI ((3 * k) + 1)) (nI_add (3 * k) 1) ?_
          refine k_iald (v := fa ((3 * k) + 1)) C 0 ((gv_up_n ne8).trans h_wa) rfl (vp_in_nI (by omega) (by omega)) (by rw [nI_clamp (by omega)]) dX7_valueOf_25 ?_
          refine k_istore (lv' := [(4, .int (fa ((3 * k) + 1))), (3, .int (nI (10 + (E k).1))), (2, .int (nI k)), (0, .ref m), (1, .int (nI e))]) C dX7_valueOf_26 (by decide) rfl ?_
          refine k_aload_n C dX7_valueOf_28 rfl 3 rfl ?_
          refine k_get (ci := 7) (k := 3) C fl_7_13 ((gv_up_n ne7).trans h_m) rfl dX7_valueOf_29 ?_
          refine k_iconst (v := nI 3) C dX7_valueOf_32 rfl ?_
          refine k_iload_n C dX7_valueOf_33 rfl 2 rfl ?_
          refine k_imul C dX7_valueOf_34 ?_
          refine k_val (y := nI (3 * k)) (pk_mul 3 k) ?_
          refine k_iconst (v := nI 2) C dX7_valueOf_35 rfl ?_
          refine k_iadd C dX7_valueOf_36 ?_
          refine k_val (y := nI ((3 * k) + 2)) (nI_add (3 * k) 2) ?_
          refine k_iald (v := fa ((3 * k) + 2)) C 0 ((gv_up_n ne8).trans h_wa) rfl (vp_in_nI (by omega) (by omega)) (by rw [nI_clamp (by omega)]) dX7_valueOf_37 ?_
          refine k_istore (lv' := [(5, .int (fa ((3 * k) + 2))), (4, .int (fa ((3 * k) + 1))), (3, .int (nI (10 + (E k).1))), (2, .int (nI k)), (0, .ref m), (1, .int (nI e))]) C dX7_valueOf_38 (by decide) rfl ?_
          refine k_iload_n C dX7_valueOf_40 rfl 2 rfl ?_
          refine k_bipush (v := nI 10) C dX7_valueOf_41 rfl ?_
          refine k_icmp_ge (tgt := 96) C dX7_valueOf_43 (by decide) (fun c43 => ?_) (fun c43 => ?_)
          · skip
            have b43 : 10 ≤ (10 + (E k).1) := (nI_leI (a := 10) (b := 10 + (E k).1) (by omega) (by omega)).mp c43
            obtain ⟨i1, hi1, hx1⟩ := hM.op1 (k := k) (by omega) (by omega)
            refine k_aload_n C dX7_valueOf_96 rfl 4 rfl ?_
            refine k_get (ci := 7) (k := 4) C fl_7_16 ((gv_up_n ne7).trans h_m) rfl dX7_valueOf_97 ?_
            refine k_iload_n C dX7_valueOf_100 rfl 3 rfl ?_
            refine k_iload_n C dX7_valueOf_101 rfl 2 rfl ?_
            refine k_bipush (v := nI 10) C dX7_valueOf_102 rfl ?_
            refine k_isub C dX7_valueOf_104 ?_
            refine k_val (y := nI ((E k).1)) (by rw [pk_sub (by omega), Nat.add_sub_cancel_left]) ?_
            refine k_aload_n C dX7_valueOf_105 rfl 4 rfl ?_
            refine k_get (ci := 7) (k := 4) C fl_7_16 ((gv_up_n ne7).trans h_m) rfl dX7_valueOf_106 ?_
            refine k_iload C dX7_valueOf_109 1 rfl ?_
            refine k_val (y := nI i1) ((hM.2 k (by omega)).2.2.1.trans hx1) ?_
            refine k_iald (v := fv1 i1) C 0 gv_up_s rfl (vp_in_nI (by omega) (by omega)) (by rw [nI_clamp (by omega)]) dX7_valueOf_111 ?_
            refine k_iload_n C dX7_valueOf_112 rfl 2 rfl ?_
            refine k_bipush (v := nI 18) C dX7_valueOf_113 rfl ?_
            refine k_icmp_ne (tgt := 122) C dX7_valueOf_115 (by decide) (fun c115 => ?_) (fun c115 => ?_)
            · skip
              have b115 : ¬ (10 + (E k).1) = 18 := fun z => c115 ((nI_eq (a := 10 + (E k).1) (b := 18) (by omega) (by omega)).mpr z)
              obtain ⟨i2, hi2, hx2⟩ := hM.op2 (k := k) (by omega) (by omega) (by omega)
              refine k_aload_n C dX7_valueOf_122 rfl 4 rfl ?_
              refine k_get (ci := 7) (k := 4) C fl_7_16 ((gv_up_n ne7).trans h_m) rfl dX7_valueOf_123 ?_
              refine k_iload C dX7_valueOf_126 0 rfl ?_
              refine k_val (y := nI i2) ((hM.2 k (by omega)).2.2.2.1.trans hx2) ?_
              refine k_iald (v := fv1 i2) C 0 gv_up_s rfl (vp_in_nI (by omega) (by omega)) (by rw [nI_clamp (by omega)]) dX7_valueOf_128 ?_
              refine k_callS_pi C ms_7_78 (c_X7_ofTwo   (by omega)) rfl rfl (by simp [Value.category]) ⟨Nat.le_of_ble_eq_true rfl, Nat.le_of_ble_eq_true rfl⟩ ⟨(by decide), (by decide)⟩ dX7_valueOf_129 ?_
              refine k_iast (f' := upd fv1 k (opv ((E k).1) (fv1 i1) (fv1 i2))) C 0 gv_up_s rfl (vp_in_nI (by omega) (by omega)) (by rw [nI_clamp (by omega)]) dX7_valueOf_132 ?_
              refine k_view (V1 := gv_up V wv (.inl (cI, 30, .inl (upd fv1 k (opv ((E k).1) (fv1 i1) (fv1 i2)))))) gv_uu ?_
              refine k_iinc (v := nI (k + 1)) (lv' := [(2, .int (nI (k + 1))), (5, .int (fa ((3 * k) + 2))), (4, .int (fa ((3 * k) + 1))), (3, .int (nI (10 + (E k).1))), (0, .ref m), (1, .int (nI e))]) C dX7_valueOf_133 (k := 3) rfl (nI_add k 1) (by decide) rfl ?_
              refine k_goto (tgt := 2) C dX7_valueOf_136 (by decide) ?_
              refine k_sub [0, 4, 5] (lv' := [(2, .int (nI (k + 1))), (0, .ref m), (1, .int (nI e))]) rfl ?_
              exact ih2 (k + 1) (upd fv1 k (opv ((E k).1) (fv1 i1) (fv1 i2))) (by omega)  (by omega) (upd_nx hvl (by rw [ev_m2 (by omega) (by omega) hi1 hi2 hx1 hx2, hvl i1 hi1, hvl i2 hi2]))
            · skip
              have b115 : (10 + (E k).1) = 18 := (nI_eq (a := 10 + (E k).1) (b := 18) (by omega) (by omega)).mp c115
              refine k_iconst (v := nI 0) C dX7_valueOf_118 rfl ?_
              refine k_goto (tgt := 129) C dX7_valueOf_119 (by decide) ?_
              refine k_pc (pc' := 129) (st' := [.int (nI 0), .int (fv1 i1), .int (nI 8), .int (nI k), .ref wv]) rfl (by rw [show (E k).1 = 8 by omega]) ?_
              refine k_callS_pi C ms_7_78 (c_of8   ) rfl rfl (by simp [Value.category]) ⟨Nat.le_of_ble_eq_true rfl, Nat.le_of_ble_eq_true rfl⟩ ⟨(by decide), (by decide)⟩ dX7_valueOf_129 ?_
              refine k_iast (f' := upd fv1 k (opv 8 (fv1 i1) (fv1 i1))) C 0 gv_up_s rfl (vp_in_nI (by omega) (by omega)) (by rw [nI_clamp (by omega)]) dX7_valueOf_132 ?_
              refine k_view (V1 := gv_up V wv (.inl (cI, 30, .inl (upd fv1 k (opv 8 (fv1 i1) (fv1 i1)))))) gv_uu ?_
              refine k_iinc (v := nI (k + 1)) (lv' := [(2, .int (nI (k + 1))), (5, .int (fa ((3 * k) + 2))), (4, .int (fa ((3 * k) + 1))), (3, .int (nI (10 + (E k).1))), (0, .ref m), (1, .int (nI e))]) C dX7_valueOf_133 (k := 3) rfl (nI_add k 1) (by decide) rfl ?_
              refine k_goto (tgt := 2) C dX7_valueOf_136 (by decide) ?_
              refine k_sub [0, 4, 5] (lv' := [(2, .int (nI (k + 1))), (0, .ref m), (1, .int (nI e))]) rfl ?_
              exact ih2 (k + 1) (upd fv1 k (opv 8 (fv1 i1) (fv1 i1))) (by omega)  (by omega) (upd_nx hvl (by rw [ev_m8 (by omega) (by omega) hi1 hx1, hvl i1 hi1]))
          · skip
            exact absurd ((nI_leI (by omega) (by omega)).mpr (by omega)) c43
  refine k_view (V1 := gv_up V wv (.inl (cI, 30, .inl fv))) (gv_id h_wv).symm ?_
  exact L2 _ 0 fv (Nat.lt_succ_self _)  (by omega) (fun _ h => absurd h (Nat.not_lt_zero _))
set_option maxHeartbeats 4000000 in
set_option maxRecDepth 100000 in
theorem c_X7_isTrue {zl : Launch} {D : va_G} {cI cN cR : ClassId} {base : Nat} {V : gv_V} {m wt wa wv wm wr wc wn ws wk wp nt ne nn sh : Nat} {kn : Int32} {fa fv fw : Nat → Int32} {E : Nat → Ex} {e : Nat}  (h_m : V m = some (.inr (7, [.int (nI nt), .ref wt, .int (nI ne), .ref wa, .ref wv, .int (nI nn), .ref wm, .int kn, .ref wr, .ref wc, .ref wn, .int (nI sh), .ref ws, .ref wk, .ref wp]))) (h_wa : V wa = some (.inl (cI, 90, .inl fa))) (h_wv : V wv = some (.inl (cI, 30, .inl fv))) (h_wn : V wn = some (.inl (cI, 6, .inl fw))) (hM : MA E ne fa) (he : e < ne) : ct zl D [(cI, .int), (cN, .object "AlgebraTree$Node"), (cR, .object "AlgebraTree$Rows")] base yX7_isTrue cX7_isTrue 3 (some .boolean) 3 0 0 [.ref m, .int (nI e)] V (fun zv zV => ∃ fv1 : Nat → Int32, zv = some (.int (bI (isT (ev E fw e)))) ∧ zV = gv_up V wv (.inl (cI, 30, .inl fv1))) := by
  refine ct_of "AlgebraTreeModel" rfl (by decide) (Nat.le_of_ble_eq_true rfl) ?_
  intro zp ze zs zm zargs zbelow zmeth zc C zr zlk znm
  refine k_pc (pc' := 0) (st' := []) rfl rfl ?_
  show K zp zl ze (gv_rm 3 0 0) zs zm zargs zbelow zmeth zc D base 3 (gv_E D [(cI, .int), (cN, .object "AlgebraTree$Node"), (cR, .object "AlgebraTree$Rows")] base zbelow zargs zs 0 0 (fun zv zV => ∃ fv1 : Nat → Int32, zv = some (.int (bI (isT (ev E fw e)))) ∧ zV = gv_up V wv (.inl (cI, 30, .inl fv1)))) V 0 0 [(0, .ref m), (1, .int (nI e))] 0 []
  refine k_aload_n C dX7_isTrue_0 rfl 0 rfl ?_
  refine k_iload_n C dX7_isTrue_1 rfl 1 rfl ?_
  refine k_callV C mv_7_81 (c_X7_valueOf  h_m h_wa h_wv h_wn (by first | assumption | omega) (by first | assumption | omega)) h_m rfl rfl (by simp [Value.category]) ⟨Nat.le_of_ble_eq_true rfl, Nat.le_of_ble_eq_true rfl⟩ ⟨(by decide), (by decide)⟩ dX7_isTrue_2 (fun zv zV zh => ?_)
  obtain ⟨fv1_w1, rfl, rfl⟩ := zh
  refine k_pc (pc' := 5) (st' := .int (ev E fw e) :: []) rfl rfl ?_
  refine k_istore_n (lv' := [(2, .int (ev E fw e)), (0, .ref m), (1, .int (nI e))]) C dX7_isTrue_5 rfl (by decide) rfl ?_
  refine k_iload_n C dX7_isTrue_6 rfl 0 rfl ?_
  refine k_ldc (v := (-2147483648)) C wd_784 dX7_isTrue_7 ?_
  refine k_icmp_eq (tgt := 20) C dX7_isTrue_9 (by decide) (fun c9 => ?_) (fun c9 => ?_)
  · skip
    refine k_iconst (v := nI 0) C dX7_isTrue_20 rfl ?_
    exact k_zret C zr zlk rfl ⟨fv1_w1, (by first | (congr 2; exact bI_t (by simp_all [isT])) | (congr 2; exact bI_f (by simp_all [isT]))), rfl⟩ (Nat.le_refl _) (Nat.le_refl _) dX7_isTrue_21
  · skip
    refine k_iload_n C dX7_isTrue_12 rfl 0 rfl ?_
    refine k_if_eq (tgt := 20) C dX7_isTrue_13 (by decide) (fun c13 => ?_) (fun c13 => ?_)
    · skip
      refine k_iconst (v := nI 0) C dX7_isTrue_20 rfl ?_
      exact k_zret C zr zlk rfl ⟨fv1_w1, (by first | (congr 2; exact bI_t (by simp_all [isT])) | (congr 2; exact bI_f (by simp_all [isT]))), rfl⟩ (Nat.le_refl _) (Nat.le_refl _) dX7_isTrue_21
    · skip
      refine k_iconst (v := nI 1) C dX7_isTrue_16 rfl ?_
      refine k_goto (tgt := 21) C dX7_isTrue_17 (by decide) ?_
      exact k_zret C zr zlk rfl ⟨fv1_w1, (by first | (congr 2; exact bI_t (by simp_all [isT])) | (congr 2; exact bI_f (by simp_all [isT]))), rfl⟩ (Nat.le_refl _) (Nat.le_refl _) dX7_isTrue_21
set_option maxHeartbeats 4000000 in
set_option maxRecDepth 100000 in
theorem c_X7_express {zl : Launch} {D : va_G} {cI cN cR : ClassId} {base : Nat} {V : gv_V} {m wt wa wv wm wr wc wn ws wk wp nt ne nn sh : Nat} {kn : Int32} {fa : Nat → Int32} {x y z : Int32}  (h_m : V m = some (.inr (7, [.int (nI nt), .ref wt, .int (nI ne), .ref wa, .ref wv, .int (nI nn), .ref wm, .int kn, .ref wr, .ref wc, .ref wn, .int (nI sh), .ref ws, .ref wk, .ref wp]))) (h_wa : V wa = some (.inl (cI, 90, .inl fa))) (hne : ne < 30) : ct zl D [(cI, .int), (cN, .object "AlgebraTree$Node"), (cR, .object "AlgebraTree$Rows")] base yX7_express cX7_express 4 (some .int) 0 0 0 [.ref m, .int x, .int y, .int z] V (pi (nI ne) (gv_up (gv_up V wa (.inl (cI, 90, .inl (upd (upd (upd fa (3 * ne) x) (3 * ne + 1) y) (3 * ne + 2) z)))) m (.inr (7, [.int (nI nt), .ref wt, .int (nI (ne + 1)), .ref wa, .ref wv, .int (nI nn), .ref wm, .int kn, .ref wr, .ref wc, .ref wn, .int (nI sh), .ref ws, .ref wk, .ref wp])))) := by
  refine ct_of "AlgebraTreeModel" rfl (by decide) (Nat.le_of_ble_eq_true rfl) ?_
  intro zp ze zs zm zargs zbelow zmeth zc C zr zlk znm
  refine k_pc (pc' := 0) (st' := []) rfl rfl ?_
  show K zp zl ze (gv_rm 0 0 0) zs zm zargs zbelow zmeth zc D base 4 (gv_E D [(cI, .int), (cN, .object "AlgebraTree$Node"), (cR, .object "AlgebraTree$Rows")] base zbelow zargs zs 0 0 (pi (nI ne) (gv_up (gv_up V wa (.inl (cI, 90, .inl (upd (upd (upd fa (3 * ne) x) (3 * ne + 1) y) (3 * ne + 2) z)))) m (.inr (7, [.int (nI nt), .ref wt, .int (nI (ne + 1)), .ref wa, .ref wv, .int (nI nn), .ref wm, .int kn, .ref wr, .ref wc, .ref wn, .int (nI sh), .ref ws, .ref wk, .ref wp]))))) V 0 0 [(0, .ref m), (1, .int x), (2, .int y), (3, .int z)] 0 []
  refine k_aload_n C dX7_express_0 rfl 0 rfl ?_
  refine k_get (ci := 7) (k := 3) C fl_7_13 h_m rfl dX7_express_1 ?_
  refine k_iconst (v := nI 3) C dX7_express_4 rfl ?_
  refine k_aload_n C dX7_express_5 rfl 0 rfl ?_
  refine k_get (ci := 7) (k := 2) C fl_7_53 h_m rfl dX7_express_6 ?_
  refine k_imul C dX7_express_9 ?_
  refine k_val (y := nI (3 * ne)) (pk_mul 3 ne) ?_
  refine k_iload_n C dX7_express_10 rfl 1 rfl ?_
  refine k_iast (f' := upd fa (3 * ne) x) C 0 h_wa rfl (vp_in_nI (by omega) (by omega)) (by rw [nI_clamp (by omega)]) dX7_express_11 ?_
  refine k_aload_n C dX7_express_12 rfl 0 rfl ?_
  have ne1 : nq m wa := gv_ne h_wa h_m (by simp)
  refine k_get (ci := 7) (k := 3) C fl_7_13 ((gv_up_n ne1).trans h_m) rfl dX7_express_13 ?_
  refine k_iconst (v := nI 3) C dX7_express_16 rfl ?_
  refine k_aload_n C dX7_express_17 rfl 0 rfl ?_
  refine k_get (ci := 7) (k := 2) C fl_7_53 ((gv_up_n ne1).trans h_m) rfl dX7_express_18 ?_
  refine k_imul C dX7_express_21 ?_
  refine k_val (y := nI (3 * ne)) (pk_mul 3 ne) ?_
  refine k_iconst (v := nI 1) C dX7_express_22 rfl ?_
  refine k_iadd C dX7_express_23 ?_
  refine k_val (y := nI ((3 * ne) + 1)) (nI_add (3 * ne) 1) ?_
  refine k_iload_n C dX7_express_24 rfl 2 rfl ?_
  refine k_iast (f' := upd (upd fa (3 * ne) x) ((3 * ne) + 1) y) C 0 gv_up_s rfl (vp_in_nI (by omega) (by omega)) (by rw [nI_clamp (by omega)]) dX7_express_25 ?_
  refine k_view (V1 := gv_up V wa (.inl (cI, 90, .inl (upd (upd fa (3 * ne) x) ((3 * ne) + 1) y)))) gv_uu ?_
  refine k_aload_n C dX7_express_26 rfl 0 rfl ?_
  refine k_get (ci := 7) (k := 3) C fl_7_13 ((gv_up_n ne1).trans h_m) rfl dX7_express_27 ?_
  refine k_iconst (v := nI 3) C dX7_express_30 rfl ?_
  refine k_aload_n C dX7_express_31 rfl 0 rfl ?_
  refine k_get (ci := 7) (k := 2) C fl_7_53 ((gv_up_n ne1).trans h_m) rfl dX7_express_32 ?_
  refine k_imul C dX7_express_35 ?_
  refine k_val (y := nI (3 * ne)) (pk_mul 3 ne) ?_
  refine k_iconst (v := nI 2) C dX7_express_36 rfl ?_
  refine k_iadd C dX7_express_37 ?_
  refine k_val (y := nI ((3 * ne) + 2)) (nI_add (3 * ne) 2) ?_
  refine k_iload_n C dX7_express_38 rfl 3 rfl ?_
  refine k_iast (f' := upd (upd (upd fa (3 * ne) x) ((3 * ne) + 1) y) ((3 * ne) + 2) z) C 0 gv_up_s rfl (vp_in_nI (by omega) (by omega)) (by rw [nI_clamp (by omega)]) dX7_express_39 ?_
  refine k_view (V1 := gv_up V wa (.inl (cI, 90, .inl (upd (upd (upd fa (3 * ne) x) ((3 * ne) + 1) y) ((3 * ne) + 2) z)))) gv_uu ?_
  refine k_aload_n C dX7_express_40 rfl 0 rfl ?_
  refine k_dup C dX7_express_41 rfl ?_
  refine k_get (ci := 7) (k := 2) C fl_7_53 ((gv_up_n ne1).trans h_m) rfl dX7_express_42 ?_
  refine k_iconst (v := nI 1) C dX7_express_45 rfl ?_
  refine k_iadd C dX7_express_46 ?_
  refine k_val (y := nI (ne + 1)) (nI_add ne 1) ?_
  refine k_put (ci := 7) (k := 2) (fs' := [.int (nI nt), .ref wt, .int (nI (ne + 1)), .ref wa, .ref wv, .int (nI nn), .ref wm, .int kn, .ref wr, .ref wc, .ref wn, .int (nI sh), .ref ws, .ref wk, .ref wp]) C fl_7_53 pf_7_2 ((gv_up_n ne1).trans h_m) rfl rfl (Nat.le_of_ble_eq_true rfl) rfl dX7_express_47 ?_
  refine k_aload_n C dX7_express_50 rfl 0 rfl ?_
  refine k_get (ci := 7) (k := 2) C fl_7_53 gv_up_s rfl dX7_express_51 ?_
  refine k_iconst (v := nI 1) C dX7_express_54 rfl ?_
  refine k_isub C dX7_express_55 ?_
  refine k_val (y := nI ne) (by rw [pk_sub (by omega), Nat.add_sub_cancel]) ?_
  refine k_view (V1 := gv_up (gv_up V wa (.inl (cI, 90, .inl (upd (upd (upd fa (3 * ne) x) (3 * ne + 1) y) (3 * ne + 2) z)))) m (.inr (7, [.int (nI nt), .ref wt, .int (nI (ne + 1)), .ref wa, .ref wv, .int (nI nn), .ref wm, .int kn, .ref wr, .ref wc, .ref wn, .int (nI sh), .ref ws, .ref wk, .ref wp]))) rfl ?_
  exact k_iret C zr zlk (pi_of rfl rfl) (Nat.le_refl _) (Nat.le_refl _) dX7_express_56
set_option maxHeartbeats 4000000 in
set_option maxRecDepth 100000 in
theorem c_X7_leaf {zl : Launch} {D : va_G} {cI cN cR : ClassId} {base : Nat} {V : gv_V} {m wt wa wv wm wr wc wn ws wk wp nt ne nn sh : Nat} {kn : Int32} {fa : Nat → Int32} {x y : Int32}  (h_m : V m = some (.inr (7, [.int (nI nt), .ref wt, .int (nI ne), .ref wa, .ref wv, .int (nI nn), .ref wm, .int kn, .ref wr, .ref wc, .ref wn, .int (nI sh), .ref ws, .ref wk, .ref wp]))) (h_wa : V wa = some (.inl (cI, 90, .inl fa))) (hne : ne ≤ 30) : ct zl D [(cI, .int), (cN, .object "AlgebraTree$Node"), (cR, .object "AlgebraTree$Rows")] base yX7_leaf cX7_leaf 4 (some .int) 1 0 0 [.ref m, .int x, .int y] V (fun zv zV => ((blw x (nI 3) && (if x = 0 then wtn y.toInt64 (1000000 : Int32) else blw y (nI 6)) && !decide (ne = 30)) = true ∧ zv = some (.int (nI ne)) ∧ zV = gv_up (gv_up V wa (.inl (cI, 90, .inl (upd (upd (upd fa (3 * ne) x) (3 * ne + 1) y) (3 * ne + 2) (nI 0))))) m (.inr (7, [.int (nI nt), .ref wt, .int (nI (ne + 1)), .ref wa, .ref wv, .int (nI nn), .ref wm, .int kn, .ref wr, .ref wc, .ref wn, .int (nI sh), .ref ws, .ref wk, .ref wp]))) ∨ ((blw x (nI 3) && (if x = 0 then wtn y.toInt64 (1000000 : Int32) else blw y (nI 6)) && !decide (ne = 30)) = false ∧ zv = some (.int (-1 : Int32)) ∧ zV = V)) := by
  refine ct_of "AlgebraTreeModel" rfl (by decide) (Nat.le_of_ble_eq_true rfl) ?_
  intro zp ze zs zm zargs zbelow zmeth zc C zr zlk znm
  refine k_pc (pc' := 0) (st' := []) rfl rfl ?_
  show K zp zl ze (gv_rm 1 0 0) zs zm zargs zbelow zmeth zc D base 4 (gv_E D [(cI, .int), (cN, .object "AlgebraTree$Node"), (cR, .object "AlgebraTree$Rows")] base zbelow zargs zs 0 0 (fun zv zV => ((blw x (nI 3) && (if x = 0 then wtn y.toInt64 (1000000 : Int32) else blw y (nI 6)) && !decide (ne = 30)) = true ∧ zv = some (.int (nI ne)) ∧ zV = gv_up (gv_up V wa (.inl (cI, 90, .inl (upd (upd (upd fa (3 * ne) x) (3 * ne + 1) y) (3 * ne + 2) (nI 0))))) m (.inr (7, [.int (nI nt), .ref wt, .int (nI (ne + 1)), .ref wa, .ref wv, .int (nI nn), .ref wm, .int kn, .ref wr, .ref wc, .ref wn, .int (nI sh), .ref ws, .ref wk, .ref wp]))) ∨ ((blw x (nI 3) && (if x = 0 then wtn y.toInt64 (1000000 : Int32) else blw y (nI 6)) && !decide (ne = 30)) = false ∧ zv = some (.int (-1 : Int32)) ∧ zV = V))) V 0 0 [(0, .ref m), (1, .int x), (2, .int y)] 0 []
  refine k_iload_n C dX7_leaf_0 rfl 1 rfl ?_
  refine k_if_ne (tgt := 15) C dX7_leaf_1 (by decide) (fun c1 => ?_) (fun c1 => ?_)
  · skip
    refine k_iload_n C dX7_leaf_15 rfl 1 rfl ?_
    refine k_iconst (v := nI 1) C dX7_leaf_16 rfl ?_
    refine k_icmp_eq (tgt := 25) C dX7_leaf_17 (by decide) (fun c17 => ?_) (fun c17 => ?_)
    · skip
      refine k_iload_n C dX7_leaf_25 rfl 2 rfl ?_
      refine k_callS_pi C ms_7_58 (c_X7_isVariable   ) rfl rfl (by simp [Value.category]) ⟨Nat.le_of_ble_eq_true rfl, Nat.le_of_ble_eq_true rfl⟩ ⟨(by decide), (by decide)⟩ dX7_leaf_26 ?_
      refine k_if_eq (tgt := 36) C dX7_leaf_29 (by decide) (fun c29 => ?_) (fun c29 => ?_)
      · skip
        have b29 : (blw y (nI 6)) = false := bI_0.mp c29
        refine k_iconst (v := nI 0) C dX7_leaf_36 rfl ?_
        refine k_istore_n (lv' := [(3, .int (nI 0)), (0, .ref m), (1, .int x), (2, .int y)]) C dX7_leaf_37 rfl (by decide) rfl ?_
        refine k_iload_n C dX7_leaf_38 rfl 0 rfl ?_
        refine k_if_eq (tgt := 61) C dX7_leaf_39 (by decide) (fun c39 => ?_) (fun c39 => ?_)
        · skip
          have b39 : 0 = 0 := (nI_eq (a := 0) (b := 0) (by omega) (by omega)).mp c39
          refine k_iconst (v := (-1 : Int32)) C dX7_leaf_61 (by decide) ?_
          exact k_iret C zr zlk (Or.inr ⟨by simp only [← wi_w, lf_c]; simp_all, rfl, rfl⟩) (Nat.le_refl _) (Nat.le_refl _) dX7_leaf_62
        · exact absurd c39 (by decide)
      · skip
        have b29 : (blw y (nI 6)) = true := bI_n.mp c29
        refine k_iconst (v := nI 1) C dX7_leaf_32 rfl ?_
        refine k_goto (tgt := 37) C dX7_leaf_33 (by decide) ?_
        refine k_istore_n (lv' := [(3, .int (nI 1)), (0, .ref m), (1, .int x), (2, .int y)]) C dX7_leaf_37 rfl (by decide) rfl ?_
        refine k_iload_n C dX7_leaf_38 rfl 0 rfl ?_
        refine k_if_eq (tgt := 61) C dX7_leaf_39 (by decide) (fun c39 => ?_) (fun c39 => ?_)
        · exact absurd c39 (by decide)
        · skip
          have b39 : ¬ 1 = 0 := fun z => c39 ((nI_eq (a := 1) (b := 0) (by omega) (by omega)).mpr z)
          refine k_aload_n C dX7_leaf_42 rfl 1 rfl ?_
          refine k_get (ci := 7) (k := 2) C fl_7_53 h_m rfl dX7_leaf_43 ?_
          refine k_bipush (v := nI 30) C dX7_leaf_46 rfl ?_
          refine k_icmp_ge (tgt := 61) C dX7_leaf_48 (by decide) (fun c48 => ?_) (fun c48 => ?_)
          · skip
            have b48 : 30 ≤ ne := (nI_leI (a := 30) (b := ne) (by omega) (by omega)).mp c48
            have h30 : ne = 30 := by omega
            refine k_iconst (v := (-1 : Int32)) C dX7_leaf_61 (by decide) ?_
            exact k_iret C zr zlk (Or.inr ⟨by simp only [← wi_w, lf_c]; simp_all, rfl, rfl⟩) (Nat.le_refl _) (Nat.le_refl _) dX7_leaf_62
          · skip
            have b48 : ¬ 30 ≤ ne := fun z => c48 ((nI_leI (a := 30) (b := ne) (by omega) (by omega)).mpr z)
            have h30 : ¬ ne = 30 := by omega
            refine k_aload_n C dX7_leaf_51 rfl 1 rfl ?_
            refine k_iload_n C dX7_leaf_52 rfl 2 rfl ?_
            refine k_iload_n C dX7_leaf_53 rfl 3 rfl ?_
            refine k_iconst (v := nI 0) C dX7_leaf_54 rfl ?_
            refine k_callV_pi C mv_7_62 (c_X7_express  h_m h_wa (by first | assumption | omega)) h_m rfl rfl (by simp [Value.category]) ⟨Nat.le_of_ble_eq_true rfl, Nat.le_of_ble_eq_true rfl⟩ ⟨(by decide), (by decide)⟩ dX7_leaf_55 ?_
            refine k_goto (tgt := 62) C dX7_leaf_58 (by decide) ?_
            exact k_iret C zr zlk (Or.inl ⟨by simp only [← wi_w, lf_c]; simp_all, rfl, rfl⟩) (Nat.le_refl _) (Nat.le_refl _) dX7_leaf_62
    · skip
      refine k_iload_n C dX7_leaf_20 rfl 1 rfl ?_
      refine k_iconst (v := nI 2) C dX7_leaf_21 rfl ?_
      refine k_icmp_ne (tgt := 36) C dX7_leaf_22 (by decide) (fun c22 => ?_) (fun c22 => ?_)
      · skip
        refine k_iconst (v := nI 0) C dX7_leaf_36 rfl ?_
        refine k_istore_n (lv' := [(3, .int (nI 0)), (0, .ref m), (1, .int x), (2, .int y)]) C dX7_leaf_37 rfl (by decide) rfl ?_
        refine k_iload_n C dX7_leaf_38 rfl 0 rfl ?_
        refine k_if_eq (tgt := 61) C dX7_leaf_39 (by decide) (fun c39 => ?_) (fun c39 => ?_)
        · skip
          have b39 : 0 = 0 := (nI_eq (a := 0) (b := 0) (by omega) (by omega)).mp c39
          refine k_iconst (v := (-1 : Int32)) C dX7_leaf_61 (by decide) ?_
          exact k_iret C zr zlk (Or.inr ⟨by simp only [← wi_w, lf_c]; simp_all, rfl, rfl⟩) (Nat.le_refl _) (Nat.le_refl _) dX7_leaf_62
        · exact absurd c39 (by decide)
      · skip
        refine k_iload_n C dX7_leaf_25 rfl 2 rfl ?_
        refine k_callS_pi C ms_7_58 (c_X7_isVariable   ) rfl rfl (by simp [Value.category]) ⟨Nat.le_of_ble_eq_true rfl, Nat.le_of_ble_eq_true rfl⟩ ⟨(by decide), (by decide)⟩ dX7_leaf_26 ?_
        refine k_if_eq (tgt := 36) C dX7_leaf_29 (by decide) (fun c29 => ?_) (fun c29 => ?_)
        · skip
          have b29 : (blw y (nI 6)) = false := bI_0.mp c29
          refine k_iconst (v := nI 0) C dX7_leaf_36 rfl ?_
          refine k_istore_n (lv' := [(3, .int (nI 0)), (0, .ref m), (1, .int x), (2, .int y)]) C dX7_leaf_37 rfl (by decide) rfl ?_
          refine k_iload_n C dX7_leaf_38 rfl 0 rfl ?_
          refine k_if_eq (tgt := 61) C dX7_leaf_39 (by decide) (fun c39 => ?_) (fun c39 => ?_)
          · skip
            have b39 : 0 = 0 := (nI_eq (a := 0) (b := 0) (by omega) (by omega)).mp c39
            refine k_iconst (v := (-1 : Int32)) C dX7_leaf_61 (by decide) ?_
            exact k_iret C zr zlk (Or.inr ⟨by simp only [← wi_w, lf_c]; simp_all, rfl, rfl⟩) (Nat.le_refl _) (Nat.le_refl _) dX7_leaf_62
          · exact absurd c39 (by decide)
        · skip
          have b29 : (blw y (nI 6)) = true := bI_n.mp c29
          refine k_iconst (v := nI 1) C dX7_leaf_32 rfl ?_
          refine k_goto (tgt := 37) C dX7_leaf_33 (by decide) ?_
          refine k_istore_n (lv' := [(3, .int (nI 1)), (0, .ref m), (1, .int x), (2, .int y)]) C dX7_leaf_37 rfl (by decide) rfl ?_
          refine k_iload_n C dX7_leaf_38 rfl 0 rfl ?_
          refine k_if_eq (tgt := 61) C dX7_leaf_39 (by decide) (fun c39 => ?_) (fun c39 => ?_)
          · exact absurd c39 (by decide)
          · skip
            have b39 : ¬ 1 = 0 := fun z => c39 ((nI_eq (a := 1) (b := 0) (by omega) (by omega)).mpr z)
            refine k_aload_n C dX7_leaf_42 rfl 1 rfl ?_
            refine k_get (ci := 7) (k := 2) C fl_7_53 h_m rfl dX7_leaf_43 ?_
            refine k_bipush (v := nI 30) C dX7_leaf_46 rfl ?_
            refine k_icmp_ge (tgt := 61) C dX7_leaf_48 (by decide) (fun c48 => ?_) (fun c48 => ?_)
            · skip
              have b48 : 30 ≤ ne := (nI_leI (a := 30) (b := ne) (by omega) (by omega)).mp c48
              have h30 : ne = 30 := by omega
              refine k_iconst (v := (-1 : Int32)) C dX7_leaf_61 (by decide) ?_
              exact k_iret C zr zlk (Or.inr ⟨by simp only [← wi_w, lf_c]; simp_all, rfl, rfl⟩) (Nat.le_refl _) (Nat.le_refl _) dX7_leaf_62
            · skip
              have b48 : ¬ 30 ≤ ne := fun z => c48 ((nI_leI (a := 30) (b := ne) (by omega) (by omega)).mpr z)
              have h30 : ¬ ne = 30 := by omega
              refine k_aload_n C dX7_leaf_51 rfl 1 rfl ?_
              refine k_iload_n C dX7_leaf_52 rfl 2 rfl ?_
              refine k_iload_n C dX7_leaf_53 rfl 3 rfl ?_
              refine k_iconst (v := nI 0) C dX7_leaf_54 rfl ?_
              refine k_callV_pi C mv_7_62 (c_X7_express  h_m h_wa (by first | assumption | omega)) h_m rfl rfl (by simp [Value.category]) ⟨Nat.le_of_ble_eq_true rfl, Nat.le_of_ble_eq_true rfl⟩ ⟨(by decide), (by decide)⟩ dX7_leaf_55 ?_
              refine k_goto (tgt := 62) C dX7_leaf_58 (by decide) ?_
              exact k_iret C zr zlk (Or.inl ⟨by simp only [← wi_w, lf_c]; simp_all, rfl, rfl⟩) (Nat.le_refl _) (Nat.le_refl _) dX7_leaf_62
  · skip
    refine k_iload_n C dX7_leaf_4 rfl 2 rfl ?_
    refine k_ldc (v := (-1000000)) C wd_685 dX7_leaf_5 ?_
    refine k_ldc (v := (1000000)) C wd_686 dX7_leaf_7 ?_
    refine k_callS_pi C ms_7_45 (c_X7_within   ) rfl rfl (by simp [Value.category]) ⟨Nat.le_of_ble_eq_true rfl, Nat.le_of_ble_eq_true rfl⟩ ⟨(by decide), (by decide)⟩ dX7_leaf_9 ?_
    refine k_goto (tgt := 37) C dX7_leaf_12 (by decide) ?_
    refine k_istore_n (lv' := [(3, .int (bI (wi y (-1000000 : Int32) (1000000 : Int32)))), (0, .ref m), (1, .int x), (2, .int y)]) C dX7_leaf_37 rfl (by decide) rfl ?_
    refine k_iload_n C dX7_leaf_38 rfl 0 rfl ?_
    refine k_if_eq (tgt := 61) C dX7_leaf_39 (by decide) (fun c39 => ?_) (fun c39 => ?_)
    · skip
      have b39 : (wi y (-1000000 : Int32) (1000000 : Int32)) = false := bI_0.mp c39
      refine k_iconst (v := (-1 : Int32)) C dX7_leaf_61 (by decide) ?_
      exact k_iret C zr zlk (Or.inr ⟨by simp only [← wi_w, lf_c]; simp_all, rfl, rfl⟩) (Nat.le_refl _) (Nat.le_refl _) dX7_leaf_62
    · skip
      have b39 : (wi y (-1000000 : Int32) (1000000 : Int32)) = true := bI_n.mp c39
      refine k_aload_n C dX7_leaf_42 rfl 1 rfl ?_
      refine k_get (ci := 7) (k := 2) C fl_7_53 h_m rfl dX7_leaf_43 ?_
      refine k_bipush (v := nI 30) C dX7_leaf_46 rfl ?_
      refine k_icmp_ge (tgt := 61) C dX7_leaf_48 (by decide) (fun c48 => ?_) (fun c48 => ?_)
      · skip
        have b48 : 30 ≤ ne := (nI_leI (a := 30) (b := ne) (by omega) (by omega)).mp c48
        have h30 : ne = 30 := by omega
        refine k_iconst (v := (-1 : Int32)) C dX7_leaf_61 (by decide) ?_
        exact k_iret C zr zlk (Or.inr ⟨by simp only [← wi_w, lf_c]; simp_all, rfl, rfl⟩) (Nat.le_refl _) (Nat.le_refl _) dX7_leaf_62
      · skip
        have b48 : ¬ 30 ≤ ne := fun z => c48 ((nI_leI (a := 30) (b := ne) (by omega) (by omega)).mpr z)
        have h30 : ¬ ne = 30 := by omega
        refine k_aload_n C dX7_leaf_51 rfl 1 rfl ?_
        refine k_iload_n C dX7_leaf_52 rfl 2 rfl ?_
        refine k_iload_n C dX7_leaf_53 rfl 3 rfl ?_
        refine k_iconst (v := nI 0) C dX7_leaf_54 rfl ?_
        refine k_callV_pi C mv_7_62 (c_X7_express  h_m h_wa (by first | assumption | omega)) h_m rfl rfl (by simp [Value.category]) ⟨Nat.le_of_ble_eq_true rfl, Nat.le_of_ble_eq_true rfl⟩ ⟨(by decide), (by decide)⟩ dX7_leaf_55 ?_
        refine k_goto (tgt := 62) C dX7_leaf_58 (by decide) ?_
        exact k_iret C zr zlk (Or.inl ⟨by simp only [← wi_w, lf_c]; simp_all, rfl, rfl⟩) (Nat.le_refl _) (Nat.le_refl _) dX7_leaf_62
set_option maxHeartbeats 4000000 in
set_option maxRecDepth 100000 in
theorem c_X7_apply {zl : Launch} {D : va_G} {cI cN cR : ClassId} {base : Nat} {V : gv_V} {m wt wa wv wm wr wc wn ws wk wp nt ne nn sh : Nat} {kn : Int32} {fa : Nat → Int32} {x y z : Int32}  (h_m : V m = some (.inr (7, [.int (nI nt), .ref wt, .int (nI ne), .ref wa, .ref wv, .int (nI nn), .ref wm, .int kn, .ref wr, .ref wc, .ref wn, .int (nI sh), .ref ws, .ref wk, .ref wp]))) (h_wa : V wa = some (.inl (cI, 90, .inl fa))) (hne : ne ≤ 30) : ct zl D [(cI, .int), (cN, .object "AlgebraTree$Node"), (cR, .object "AlgebraTree$Rows")] base yX7_apply cX7_apply 5 (some .int) 1 0 0 [.ref m, .int x, .int y, .int z] V (fun zv zV => ((blw x (nI 9) && blw y (nI ne) && (x == 8 || blw z (nI ne)) && !decide (ne = 30)) = true ∧ zv = some (.int (nI ne)) ∧ zV = gv_up (gv_up V wa (.inl (cI, 90, .inl (upd (upd (upd fa (3 * ne) (nI 10 + x)) (3 * ne + 1) y) (3 * ne + 2) z)))) m (.inr (7, [.int (nI nt), .ref wt, .int (nI (ne + 1)), .ref wa, .ref wv, .int (nI nn), .ref wm, .int kn, .ref wr, .ref wc, .ref wn, .int (nI sh), .ref ws, .ref wk, .ref wp]))) ∨ ((blw x (nI 9) && blw y (nI ne) && (x == 8 || blw z (nI ne)) && !decide (ne = 30)) = false ∧ zv = some (.int (-1 : Int32)) ∧ zV = V)) := by
  refine ct_of "AlgebraTreeModel" rfl (by decide) (Nat.le_of_ble_eq_true rfl) ?_
  intro zp ze zs zm zargs zbelow zmeth zc C zr zlk znm
  refine k_pc (pc' := 0) (st' := []) rfl rfl ?_
  show K zp zl ze (gv_rm 1 0 0) zs zm zargs zbelow zmeth zc D base 5 (gv_E D [(cI, .int), (cN, .object "AlgebraTree$Node"), (cR, .object "AlgebraTree$Rows")] base zbelow zargs zs 0 0 (fun zv zV => ((blw x (nI 9) && blw y (nI ne) && (x == 8 || blw z (nI ne)) && !decide (ne = 30)) = true ∧ zv = some (.int (nI ne)) ∧ zV = gv_up (gv_up V wa (.inl (cI, 90, .inl (upd (upd (upd fa (3 * ne) (nI 10 + x)) (3 * ne + 1) y) (3 * ne + 2) z)))) m (.inr (7, [.int (nI nt), .ref wt, .int (nI (ne + 1)), .ref wa, .ref wv, .int (nI nn), .ref wm, .int kn, .ref wr, .ref wc, .ref wn, .int (nI sh), .ref ws, .ref wk, .ref wp]))) ∨ ((blw x (nI 9) && blw y (nI ne) && (x == 8 || blw z (nI ne)) && !decide (ne = 30)) = false ∧ zv = some (.int (-1 : Int32)) ∧ zV = V))) V 0 0 [(0, .ref m), (1, .int x), (2, .int y), (3, .int z)] 0 []
  have e8 : nI 8 = 8 := rfl
  refine k_iload_n C dX7_apply_0 rfl 1 rfl ?_
  refine k_iconst (v := nI 0) C dX7_apply_1 rfl ?_
  refine k_bipush (v := nI 8) C dX7_apply_2 rfl ?_
  refine k_callS_pi C ms_7_45 (c_X7_within   ) rfl rfl (by simp [Value.category]) ⟨Nat.le_of_ble_eq_true rfl, Nat.le_of_ble_eq_true rfl⟩ ⟨(by decide), (by decide)⟩ dX7_apply_4 ?_
  refine k_if_eq (tgt := 36) C dX7_apply_7 (by decide) (fun c7 => ?_) (fun c7 => ?_)
  · skip
    have b7 : (wi x (nI 0) (nI 8)) = false := bI_0.mp c7
    refine k_iconst (v := nI 0) C dX7_apply_36 rfl ?_
    refine k_istore (lv' := [(4, .int (nI 0)), (0, .ref m), (1, .int x), (2, .int y), (3, .int z)]) C dX7_apply_37 (by decide) rfl ?_
    refine k_iload C dX7_apply_39 0 rfl ?_
    refine k_if_eq (tgt := 66) C dX7_apply_41 (by decide) (fun c41 => ?_) (fun c41 => ?_)
    · skip
      have b41 : 0 = 0 := (nI_eq (a := 0) (b := 0) (by omega) (by omega)).mp c41
      refine k_iconst (v := (-1 : Int32)) C dX7_apply_66 (by decide) ?_
      exact k_iret C zr zlk (Or.inr ⟨by simp only [wi_b (n := 8) (by omega)] at b7; simp_all, rfl, rfl⟩) (Nat.le_refl _) (Nat.le_refl _) dX7_apply_67
    · exact absurd c41 (by decide)
  · skip
    have b7 : (wi x (nI 0) (nI 8)) = true := bI_n.mp c7
    refine k_aload_n C dX7_apply_10 rfl 0 rfl ?_
    refine k_iload_n C dX7_apply_11 rfl 2 rfl ?_
    refine k_callV_pi C mv_7_66 (c_X7_isExpression  h_m ) h_m rfl rfl (by simp [Value.category]) ⟨Nat.le_of_ble_eq_true rfl, Nat.le_of_ble_eq_true rfl⟩ ⟨(by decide), (by decide)⟩ dX7_apply_12 ?_
    refine k_if_eq (tgt := 36) C dX7_apply_15 (by decide) (fun c15 => ?_) (fun c15 => ?_)
    · skip
      have b15 : (blw y (nI ne)) = false := bI_0.mp c15
      refine k_iconst (v := nI 0) C dX7_apply_36 rfl ?_
      refine k_istore (lv' := [(4, .int (nI 0)), (0, .ref m), (1, .int x), (2, .int y), (3, .int z)]) C dX7_apply_37 (by decide) rfl ?_
      refine k_iload C dX7_apply_39 0 rfl ?_
      refine k_if_eq (tgt := 66) C dX7_apply_41 (by decide) (fun c41 => ?_) (fun c41 => ?_)
      · skip
        have b41 : 0 = 0 := (nI_eq (a := 0) (b := 0) (by omega) (by omega)).mp c41
        refine k_iconst (v := (-1 : Int32)) C dX7_apply_66 (by decide) ?_
        exact k_iret C zr zlk (Or.inr ⟨by simp only [wi_b (n := 8) (by omega)] at b7; simp_all, rfl, rfl⟩) (Nat.le_refl _) (Nat.le_refl _) dX7_apply_67
      · exact absurd c41 (by decide)
    · skip
      have b15 : (blw y (nI ne)) = true := bI_n.mp c15
      refine k_iload_n C dX7_apply_18 rfl 1 rfl ?_
      refine k_bipush (v := nI 8) C dX7_apply_19 rfl ?_
      refine k_icmp_eq (tgt := 32) C dX7_apply_21 (by decide) (fun c21 => ?_) (fun c21 => ?_)
      · skip
        refine k_iconst (v := nI 1) C dX7_apply_32 rfl ?_
        refine k_goto (tgt := 37) C dX7_apply_33 (by decide) ?_
        refine k_istore (lv' := [(4, .int (nI 1)), (0, .ref m), (1, .int x), (2, .int y), (3, .int z)]) C dX7_apply_37 (by decide) rfl ?_
        refine k_iload C dX7_apply_39 0 rfl ?_
        refine k_if_eq (tgt := 66) C dX7_apply_41 (by decide) (fun c41 => ?_) (fun c41 => ?_)
        · exact absurd c41 (by decide)
        · skip
          have b41 : ¬ 1 = 0 := fun z => c41 ((nI_eq (a := 1) (b := 0) (by omega) (by omega)).mpr z)
          refine k_aload_n C dX7_apply_44 rfl 1 rfl ?_
          refine k_get (ci := 7) (k := 2) C fl_7_53 h_m rfl dX7_apply_45 ?_
          refine k_bipush (v := nI 30) C dX7_apply_48 rfl ?_
          refine k_icmp_ge (tgt := 66) C dX7_apply_50 (by decide) (fun c50 => ?_) (fun c50 => ?_)
          · skip
            have b50 : 30 ≤ ne := (nI_leI (a := 30) (b := ne) (by omega) (by omega)).mp c50
            have h30 : ne = 30 := by omega
            refine k_iconst (v := (-1 : Int32)) C dX7_apply_66 (by decide) ?_
            exact k_iret C zr zlk (Or.inr ⟨by simp only [wi_b (n := 8) (by omega)] at b7; simp_all, rfl, rfl⟩) (Nat.le_refl _) (Nat.le_refl _) dX7_apply_67
          · skip
            have b50 : ¬ 30 ≤ ne := fun z => c50 ((nI_leI (a := 30) (b := ne) (by omega) (by omega)).mpr z)
            have h30 : ¬ ne = 30 := by omega
            refine k_aload_n C dX7_apply_53 rfl 1 rfl ?_
            refine k_bipush (v := nI 10) C dX7_apply_54 rfl ?_
            refine k_iload_n C dX7_apply_56 rfl 2 rfl ?_
            refine k_iadd C dX7_apply_57 ?_
            refine k_iload_n C dX7_apply_58 rfl 3 rfl ?_
            refine k_iload_n C dX7_apply_59 rfl 4 rfl ?_
            refine k_callV_pi C mv_7_62 (c_X7_express  h_m h_wa (by first | assumption | omega)) h_m rfl rfl (by simp [Value.category]) ⟨Nat.le_of_ble_eq_true rfl, Nat.le_of_ble_eq_true rfl⟩ ⟨(by decide), (by decide)⟩ dX7_apply_60 ?_
            refine k_goto (tgt := 67) C dX7_apply_63 (by decide) ?_
            refine k_view (V1 := gv_up (gv_up V wa (.inl (cI, 90, .inl (upd (upd (upd fa (3 * ne) (nI 10 + x)) (3 * ne + 1) y) (3 * ne + 2) z)))) m (.inr (7, [.int (nI nt), .ref wt, .int (nI (ne + 1)), .ref wa, .ref wv, .int (nI nn), .ref wm, .int kn, .ref wr, .ref wc, .ref wn, .int (nI sh), .ref ws, .ref wk, .ref wp]))) rfl ?_
            exact k_iret C zr zlk (Or.inl ⟨by simp only [wi_b (n := 8) (by omega)] at b7; simp_all, rfl, rfl⟩) (Nat.le_refl _) (Nat.le_refl _) dX7_apply_67
      · skip
        refine k_aload_n C dX7_apply_24 rfl 0 rfl ?_
        refine k_iload_n C dX7_apply_25 rfl 3 rfl ?_
        refine k_callV_pi C mv_7_66 (c_X7_isExpression  h_m ) h_m rfl rfl (by simp [Value.category]) ⟨Nat.le_of_ble_eq_true rfl, Nat.le_of_ble_eq_true rfl⟩ ⟨(by decide), (by decide)⟩ dX7_apply_26 ?_
        refine k_if_eq (tgt := 36) C dX7_apply_29 (by decide) (fun c29 => ?_) (fun c29 => ?_)
        · skip
          have b29 : (blw z (nI ne)) = false := bI_0.mp c29
          refine k_iconst (v := nI 0) C dX7_apply_36 rfl ?_
          refine k_istore (lv' := [(4, .int (nI 0)), (0, .ref m), (1, .int x), (2, .int y), (3, .int z)]) C dX7_apply_37 (by decide) rfl ?_
          refine k_iload C dX7_apply_39 0 rfl ?_
          refine k_if_eq (tgt := 66) C dX7_apply_41 (by decide) (fun c41 => ?_) (fun c41 => ?_)
          · skip
            have b41 : 0 = 0 := (nI_eq (a := 0) (b := 0) (by omega) (by omega)).mp c41
            refine k_iconst (v := (-1 : Int32)) C dX7_apply_66 (by decide) ?_
            exact k_iret C zr zlk (Or.inr ⟨by simp only [wi_b (n := 8) (by omega)] at b7; simp_all, rfl, rfl⟩) (Nat.le_refl _) (Nat.le_refl _) dX7_apply_67
          · exact absurd c41 (by decide)
        · skip
          have b29 : (blw z (nI ne)) = true := bI_n.mp c29
          refine k_iconst (v := nI 1) C dX7_apply_32 rfl ?_
          refine k_goto (tgt := 37) C dX7_apply_33 (by decide) ?_
          refine k_istore (lv' := [(4, .int (nI 1)), (0, .ref m), (1, .int x), (2, .int y), (3, .int z)]) C dX7_apply_37 (by decide) rfl ?_
          refine k_iload C dX7_apply_39 0 rfl ?_
          refine k_if_eq (tgt := 66) C dX7_apply_41 (by decide) (fun c41 => ?_) (fun c41 => ?_)
          · exact absurd c41 (by decide)
          · skip
            have b41 : ¬ 1 = 0 := fun z => c41 ((nI_eq (a := 1) (b := 0) (by omega) (by omega)).mpr z)
            refine k_aload_n C dX7_apply_44 rfl 1 rfl ?_
            refine k_get (ci := 7) (k := 2) C fl_7_53 h_m rfl dX7_apply_45 ?_
            refine k_bipush (v := nI 30) C dX7_apply_48 rfl ?_
            refine k_icmp_ge (tgt := 66) C dX7_apply_50 (by decide) (fun c50 => ?_) (fun c50 => ?_)
            · skip
              have b50 : 30 ≤ ne := (nI_leI (a := 30) (b := ne) (by omega) (by omega)).mp c50
              have h30 : ne = 30 := by omega
              refine k_iconst (v := (-1 : Int32)) C dX7_apply_66 (by decide) ?_
              exact k_iret C zr zlk (Or.inr ⟨by simp only [wi_b (n := 8) (by omega)] at b7; simp_all, rfl, rfl⟩) (Nat.le_refl _) (Nat.le_refl _) dX7_apply_67
            · skip
              have b50 : ¬ 30 ≤ ne := fun z => c50 ((nI_leI (a := 30) (b := ne) (by omega) (by omega)).mpr z)
              have h30 : ¬ ne = 30 := by omega
              refine k_aload_n C dX7_apply_53 rfl 1 rfl ?_
              refine k_bipush (v := nI 10) C dX7_apply_54 rfl ?_
              refine k_iload_n C dX7_apply_56 rfl 2 rfl ?_
              refine k_iadd C dX7_apply_57 ?_
              refine k_iload_n C dX7_apply_58 rfl 3 rfl ?_
              refine k_iload_n C dX7_apply_59 rfl 4 rfl ?_
              refine k_callV_pi C mv_7_62 (c_X7_express  h_m h_wa (by first | assumption | omega)) h_m rfl rfl (by simp [Value.category]) ⟨Nat.le_of_ble_eq_true rfl, Nat.le_of_ble_eq_true rfl⟩ ⟨(by decide), (by decide)⟩ dX7_apply_60 ?_
              refine k_goto (tgt := 67) C dX7_apply_63 (by decide) ?_
              refine k_view (V1 := gv_up (gv_up V wa (.inl (cI, 90, .inl (upd (upd (upd fa (3 * ne) (nI 10 + x)) (3 * ne + 1) y) (3 * ne + 2) z)))) m (.inr (7, [.int (nI nt), .ref wt, .int (nI (ne + 1)), .ref wa, .ref wv, .int (nI nn), .ref wm, .int kn, .ref wr, .ref wc, .ref wn, .int (nI sh), .ref ws, .ref wk, .ref wp]))) rfl ?_
              exact k_iret C zr zlk (Or.inl ⟨by simp only [wi_b (n := 8) (by omega)] at b7; simp_all, rfl, rfl⟩) (Nat.le_refl _) (Nat.le_refl _) dX7_apply_67
set_option maxHeartbeats 4000000 in
set_option maxRecDepth 100000 in
theorem c_X7_triple {zl : Launch} {D : va_G} {cI cN cR : ClassId} {base : Nat} {V : gv_V} {m wt wa wv wm wr wc wn ws wk wp nt ne nn sh : Nat} {kn : Int32} {ft : Nat → Int32} {x y z w : Int32} {T : List Tr}  (h_m : V m = some (.inr (7, [.int (nI nt), .ref wt, .int (nI ne), .ref wa, .ref wv, .int (nI nn), .ref wm, .int kn, .ref wr, .ref wc, .ref wn, .int (nI sh), .ref ws, .ref wk, .ref wp]))) (h_wt : V wt = some (.inl (cI, 240, .inl ft))) (hT : MT T nt ft) : ct zl D [(cI, .int), (cN, .object "AlgebraTree$Node"), (cR, .object "AlgebraTree$Rows")] base yX7_triple cX7_triple 6 (some .int) 1 0 0 [.ref m, .int x, .int y, .int z, .int w] V (fun zv zV => ((blw x (nI 4) && blw y (nI 1000) && blw z (nI 1000) && blw w (nI 1000) && !decide (nt = 60) && !trIn T (x, y, z, w)) = true ∧ zv = some (.int (nI nt)) ∧ zV = gv_up (gv_up V wt (.inl (cI, 240, .inl (upd (upd (upd (upd ft (4 * nt) x) (4 * nt + 1) y) (4 * nt + 2) z) (4 * nt + 3) w)))) m (.inr (7, [.int (nI (nt + 1)), .ref wt, .int (nI ne), .ref wa, .ref wv, .int (nI nn), .ref wm, .int (nI 0), .ref wr, .ref wc, .ref wn, .int (nI sh), .ref ws, .ref wk, .ref wp]))) ∨ ((blw x (nI 4) && blw y (nI 1000) && blw z (nI 1000) && blw w (nI 1000) && !decide (nt = 60) && !trIn T (x, y, z, w)) = false ∧ zv = some (.int (-1 : Int32)) ∧ zV = V)) := by
  refine ct_of "AlgebraTreeModel" rfl (by decide) (Nat.le_of_ble_eq_true rfl) ?_
  intro zp ze zs zm zargs zbelow zmeth zc C zr zlk znm
  refine k_pc (pc' := 0) (st' := []) rfl rfl ?_
  show K zp zl ze (gv_rm 1 0 0) zs zm zargs zbelow zmeth zc D base 6 (gv_E D [(cI, .int), (cN, .object "AlgebraTree$Node"), (cR, .object "AlgebraTree$Rows")] base zbelow zargs zs 0 0 (fun zv zV => ((blw x (nI 4) && blw y (nI 1000) && blw z (nI 1000) && blw w (nI 1000) && !decide (nt = 60) && !trIn T (x, y, z, w)) = true ∧ zv = some (.int (nI nt)) ∧ zV = gv_up (gv_up V wt (.inl (cI, 240, .inl (upd (upd (upd (upd ft (4 * nt) x) (4 * nt + 1) y) (4 * nt + 2) z) (4 * nt + 3) w)))) m (.inr (7, [.int (nI (nt + 1)), .ref wt, .int (nI ne), .ref wa, .ref wv, .int (nI nn), .ref wm, .int (nI 0), .ref wr, .ref wc, .ref wn, .int (nI sh), .ref ws, .ref wk, .ref wp]))) ∨ ((blw x (nI 4) && blw y (nI 1000) && blw z (nI 1000) && blw w (nI 1000) && !decide (nt = 60) && !trIn T (x, y, z, w)) = false ∧ zv = some (.int (-1 : Int32)) ∧ zV = V))) V 0 0 [(0, .ref m), (1, .int x), (2, .int y), (3, .int z), (4, .int w)] 0 []
  have hT2 := hT.2.1
  refine k_iload_n C dX7_triple_0 rfl 1 rfl ?_
  refine k_iconst (v := nI 0) C dX7_triple_1 rfl ?_
  refine k_iconst (v := nI 3) C dX7_triple_2 rfl ?_
  refine k_callS_pi C ms_7_45 (c_X7_within   ) rfl rfl (by simp [Value.category]) ⟨Nat.le_of_ble_eq_true rfl, Nat.le_of_ble_eq_true rfl⟩ ⟨(by decide), (by decide)⟩ dX7_triple_3 ?_
  refine k_if_eq (tgt := 52) C dX7_triple_6 (by decide) (fun c6 => ?_) (fun c6 => ?_)
  · skip
    have b6 : (wi x (nI 0) (nI 3)) = false := bI_0.mp c6
    rw [wi_b (by omega)] at b6
    refine k_iconst (v := (-1 : Int32)) C dX7_triple_52 (by decide) ?_
    exact k_iret C zr zlk (Or.inr ⟨by simp_all, rfl, rfl⟩) (Nat.le_refl _) (Nat.le_refl _) dX7_triple_53
  · skip
    have b6 : (wi x (nI 0) (nI 3)) = true := bI_n.mp c6
    rw [wi_b (by omega)] at b6
    refine k_iload_n C dX7_triple_9 rfl 2 rfl ?_
    refine k_iconst (v := nI 0) C dX7_triple_10 rfl ?_
    refine k_sipush (v := nI 999) C dX7_triple_11 rfl ?_
    refine k_callS_pi C ms_7_45 (c_X7_within   ) rfl rfl (by simp [Value.category]) ⟨Nat.le_of_ble_eq_true rfl, Nat.le_of_ble_eq_true rfl⟩ ⟨(by decide), (by decide)⟩ dX7_triple_14 ?_
    refine k_if_eq (tgt := 52) C dX7_triple_17 (by decide) (fun c17 => ?_) (fun c17 => ?_)
    · skip
      have b17 : (wi y (nI 0) (nI 999)) = false := bI_0.mp c17
      rw [wi_b (by omega)] at b17
      refine k_iconst (v := (-1 : Int32)) C dX7_triple_52 (by decide) ?_
      exact k_iret C zr zlk (Or.inr ⟨by simp_all, rfl, rfl⟩) (Nat.le_refl _) (Nat.le_refl _) dX7_triple_53
    · skip
      have b17 : (wi y (nI 0) (nI 999)) = true := bI_n.mp c17
      rw [wi_b (by omega)] at b17
      refine k_iload_n C dX7_triple_20 rfl 3 rfl ?_
      refine k_iconst (v := nI 0) C dX7_triple_21 rfl ?_
      refine k_sipush (v := nI 999) C dX7_triple_22 rfl ?_
      refine k_callS_pi C ms_7_45 (c_X7_within   ) rfl rfl (by simp [Value.category]) ⟨Nat.le_of_ble_eq_true rfl, Nat.le_of_ble_eq_true rfl⟩ ⟨(by decide), (by decide)⟩ dX7_triple_25 ?_
      refine k_if_eq (tgt := 52) C dX7_triple_28 (by decide) (fun c28 => ?_) (fun c28 => ?_)
      · skip
        have b28 : (wi z (nI 0) (nI 999)) = false := bI_0.mp c28
        rw [wi_b (by omega)] at b28
        refine k_iconst (v := (-1 : Int32)) C dX7_triple_52 (by decide) ?_
        exact k_iret C zr zlk (Or.inr ⟨by simp_all, rfl, rfl⟩) (Nat.le_refl _) (Nat.le_refl _) dX7_triple_53
      · skip
        have b28 : (wi z (nI 0) (nI 999)) = true := bI_n.mp c28
        rw [wi_b (by omega)] at b28
        refine k_iload C dX7_triple_31 4 rfl ?_
        refine k_iconst (v := nI 0) C dX7_triple_33 rfl ?_
        refine k_sipush (v := nI 999) C dX7_triple_34 rfl ?_
        refine k_callS_pi C ms_7_45 (c_X7_within   ) rfl rfl (by simp [Value.category]) ⟨Nat.le_of_ble_eq_true rfl, Nat.le_of_ble_eq_true rfl⟩ ⟨(by decide), (by decide)⟩ dX7_triple_37 ?_
        refine k_if_eq (tgt := 52) C dX7_triple_40 (by decide) (fun c40 => ?_) (fun c40 => ?_)
        · skip
          have b40 : (wi w (nI 0) (nI 999)) = false := bI_0.mp c40
          rw [wi_b (by omega)] at b40
          refine k_iconst (v := (-1 : Int32)) C dX7_triple_52 (by decide) ?_
          exact k_iret C zr zlk (Or.inr ⟨by simp_all, rfl, rfl⟩) (Nat.le_refl _) (Nat.le_refl _) dX7_triple_53
        · skip
          have b40 : (wi w (nI 0) (nI 999)) = true := bI_n.mp c40
          rw [wi_b (by omega)] at b40
          refine k_aload_n C dX7_triple_43 rfl 0 rfl ?_
          refine k_get (ci := 7) (k := 0) C fl_7_49 h_m rfl dX7_triple_44 ?_
          refine k_bipush (v := nI 60) C dX7_triple_47 rfl ?_
          refine k_icmp_ne (tgt := 54) C dX7_triple_49 (by decide) (fun c49 => ?_) (fun c49 => ?_)
          · skip
            have b49 : ¬ nt = 60 := fun z => c49 ((nI_eq (a := nt) (b := 60) (by omega) (by omega)).mpr z)
            refine k_iconst (v := nI 0) C dX7_triple_54 rfl ?_
            refine k_istore (lv' := [(5, .int (nI 0)), (0, .ref m), (1, .int x), (2, .int y), (3, .int z), (4, .int w)]) C dX7_triple_55 (by decide) rfl ?_
            have L57 : ∀ (zn1 : Nat) (k : Nat), nt - k < zn1 → (k ≤ nt) → (∀ z0, z0 < k → ¬ trAt T z0 = (x, y, z, w)) → K zp zl ze (gv_rm 1 0 0) zs zm zargs zbelow zmeth zc D base 6 (gv_E D [(cI, .int), (cN, .object "AlgebraTree$Node"), (cR, .object "AlgebraTree$Rows")] base zbelow zargs zs 0 0 (fun zv zV => ((blw x (nI 4) && blw y (nI 1000) && blw z (nI 1000) && blw w (nI 1000) && !decide (nt = 60) && !trIn T (x, y, z, w)) = true ∧ zv = some (.int (nI nt)) ∧ zV = gv_up (gv_up V wt (.inl (cI, 240, .inl (upd (upd (upd (upd ft (4 * nt) x) (4 * nt + 1) y) (4 * nt + 2) z) (4 * nt + 3) w)))) m (.inr (7, [.int (nI (nt + 1)), .ref wt, .int (nI ne), .ref wa, .ref wv, .int (nI nn), .ref wm, .int (nI 0), .ref wr, .ref wc, .ref wn, .int (nI sh), .ref ws, .ref wk, .ref wp]))) ∨ ((blw x (nI 4) && blw y (nI 1000) && blw z (nI 1000) && blw w (nI 1000) && !decide (nt = 60) && !trIn T (x, y, z, w)) = false ∧ zv = some (.int (-1 : Int32)) ∧ zV = V))) V 0 0 [(5, .int (nI (4 * k))), (0, .ref m), (1, .int x), (2, .int y), (3, .int z), (4, .int w)] 57 [] := by
              intro zn1
              induction zn1 with
              | zero => intro k hlt; exact absurd hlt (Nat.not_lt_zero _)
              | succ zn1 ih57 =>
                intro k hlt57  hk hal
                refine k_iload C dX7_triple_57 0 rfl ?_
                refine k_iconst (v := nI 4) C dX7_triple_59 rfl ?_
                refine k_aload_n C dX7_triple_60 rfl 1 rfl ?_
                refine k_get (ci := 7) (k := 0) C fl_7_49 h_m rfl dX7_triple_61 ?_
                refine k_imul C dX7_triple_64 ?_
                refine k_val (y := nI (4 * nt)) (pk_mul 4 nt) ?_
                refine k_icmp_ge (tgt := 127) C dX7_triple_65 (by decide) (fun c65 => ?_) (fun c65 => ?_)
                · skip
                  have b65 : (4 * nt) ≤ (4 * k) := (nI_leI (a := 4 * nt) (b := 4 * k) (by omega) (by omega)).mp c65
                  refine k_iconst (v := nI 4) C dX7_triple_127 rfl ?_
                  refine k_aload_n C dX7_triple_128 rfl 1 rfl ?_
                  refine k_get (ci := 7) (k := 0) C fl_7_49 h_m rfl dX7_triple_129 ?_
                  refine k_imul C dX7_triple_132 ?_
                  refine k_val (y := nI (4 * nt)) (pk_mul 4 nt) ?_
                  refine k_istore (lv' := [(5, .int (nI (4 * nt))), (0, .ref m), (1, .int x), (2, .int y), (3, .int z), (4, .int w)]) C dX7_triple_133 (by decide) rfl ?_
                  refine k_aload_n C dX7_triple_135 rfl 1 rfl ?_
                  refine k_get (ci := 7) (k := 1) C fl_7_7 h_m rfl dX7_triple_136 ?_
                  refine k_iload C dX7_triple_139 0 rfl ?_
                  refine k_iload_n C dX7_triple_141 rfl 2 rfl ?_
                  refine k_iast (f' := upd ft (4 * nt) x) C 0 h_wt rfl (vp_in_nI (by omega) (by omega)) (by rw [nI_clamp (by omega)]) dX7_triple_142 ?_
                  refine k_aload_n C dX7_triple_143 rfl 1 rfl ?_
                  have ne2 : nq m wt := gv_ne h_wt h_m (by simp)
                  refine k_get (ci := 7) (k := 1) C fl_7_7 ((gv_up_n ne2).trans h_m) rfl dX7_triple_144 ?_
                  refine k_iload C dX7_triple_147 0 rfl ?_
                  refine k_iconst (v := nI 1) C dX7_triple_149 rfl ?_
                  refine k_iadd C dX7_triple_150 ?_
                  refine k_val (y := nI ((4 * nt) + 1)) (nI_add (4 * nt) 1) ?_
                  refine k_iload_n C dX7_triple_151 rfl 3 rfl ?_
                  refine k_iast (f' := upd (upd ft (4 * nt) x) ((4 * nt) + 1) y) C 0 gv_up_s rfl (vp_in_nI (by omega) (by omega)) (by rw [nI_clamp (by omega)]) dX7_triple_152 ?_
                  refine k_view (V1 := gv_up V wt (.inl (cI, 240, .inl (upd (upd ft (4 * nt) x) ((4 * nt) + 1) y)))) gv_uu ?_
                  refine k_aload_n C dX7_triple_153 rfl 1 rfl ?_
                  refine k_get (ci := 7) (k := 1) C fl_7_7 ((gv_up_n ne2).trans h_m) rfl dX7_triple_154 ?_
                  refine k_iload C dX7_triple_157 0 rfl ?_
                  refine k_iconst (v := nI 2) C dX7_triple_159 rfl ?_
                  refine k_iadd C dX7_triple_160 ?_
                  refine k_val (y := nI ((4 * nt) + 2)) (nI_add (4 * nt) 2) ?_
                  refine k_iload_n C dX7_triple_161 rfl 4 rfl ?_
                  refine k_iast (f' := upd (upd (upd ft (4 * nt) x) ((4 * nt) + 1) y) ((4 * nt) + 2) z) C 0 gv_up_s rfl (vp_in_nI (by omega) (by omega)) (by rw [nI_clamp (by omega)]) dX7_triple_162 ?_
                  refine k_view (V1 := gv_up V wt (.inl (cI, 240, .inl (upd (upd (upd ft (4 * nt) x) ((4 * nt) + 1) y) ((4 * nt) + 2) z)))) gv_uu ?_
                  refine k_aload_n C dX7_triple_163 rfl 1 rfl ?_
                  refine k_get (ci := 7) (k := 1) C fl_7_7 ((gv_up_n ne2).trans h_m) rfl dX7_triple_164 ?_
                  refine k_iload C dX7_triple_167 0 rfl ?_
                  refine k_iconst (v := nI 3) C dX7_triple_169 rfl ?_
                  refine k_iadd C dX7_triple_170 ?_
                  refine k_val (y := nI ((4 * nt) + 3)) (nI_add (4 * nt) 3) ?_
                  refine k_iload C dX7_triple_171 5 rfl ?_
                  refine k_iast (f' := upd (upd (upd (upd ft (4 * nt) x) ((4 * nt) + 1) y) ((4 * nt) + 2) z) ((4 * nt) + 3) w) C 0 gv_up_s rfl (vp_in_nI (by omega) (by omega)) (by rw [nI_clamp (by omega)]) dX7_triple_173 ?_
                  refine k_view (V1 := gv_up V wt (.inl (cI, 240, .inl (upd (upd (upd (upd ft (4 * nt) x) ((4 * nt) + 1) y) ((4 * nt) + 2) z) ((4 * nt) + 3) w)))) gv_uu ?_
                  refine k_aload_n C dX7_triple_174 rfl 1 rfl ?_
                  refine k_dup C dX7_triple_175 rfl ?_
                  refine k_get (ci := 7) (k := 0) C fl_7_49 ((gv_up_n ne2).trans h_m) rfl dX7_triple_176 ?_
                  refine k_iconst (v := nI 1) C dX7_triple_179 rfl ?_
                  refine k_iadd C dX7_triple_180 ?_
                  refine k_val (y := nI (nt + 1)) (nI_add nt 1) ?_
                  refine k_put (ci := 7) (k := 0) (fs' := [.int (nI (nt + 1)), .ref wt, .int (nI ne), .ref wa, .ref wv, .int (nI nn), .ref wm, .int kn, .ref wr, .ref wc, .ref wn, .int (nI sh), .ref ws, .ref wk, .ref wp]) C fl_7_49 pf_7_0 ((gv_up_n ne2).trans h_m) rfl rfl (Nat.le_of_ble_eq_true rfl) rfl dX7_triple_181 ?_
                  refine k_aload_n C dX7_triple_184 rfl 1 rfl ?_
                  refine k_iconst (v := nI 0) C dX7_triple_185 rfl ?_
                  refine k_put (ci := 7) (k := 7) (fs' := [.int (nI (nt + 1)), .ref wt, .int (nI ne), .ref wa, .ref wv, .int (nI nn), .ref wm, .int (nI 0), .ref wr, .ref wc, .ref wn, .int (nI sh), .ref ws, .ref wk, .ref wp]) C fl_7_41 pf_7_7 gv_up_s rfl rfl (Nat.le_of_ble_eq_true rfl) rfl dX7_triple_186 ?_
                  refine k_view (V1 := gv_up (gv_up V wt (.inl (cI, 240, .inl (upd (upd (upd (upd ft (4 * nt) x) ((4 * nt) + 1) y) ((4 * nt) + 2) z) ((4 * nt) + 3) w)))) m (.inr (7, [.int (nI (nt + 1)), .ref wt, .int (nI ne), .ref wa, .ref wv, .int (nI nn), .ref wm, .int (nI 0), .ref wr, .ref wc, .ref wn, .int (nI sh), .ref ws, .ref wk, .ref wp]))) gv_uu ?_
                  refine k_aload_n C dX7_triple_189 rfl 1 rfl ?_
                  refine k_get (ci := 7) (k := 0) C fl_7_49 gv_up_s rfl dX7_triple_190 ?_
                  refine k_iconst (v := nI 1) C dX7_triple_193 rfl ?_
                  refine k_isub C dX7_triple_194 ?_
                  refine k_val (y := nI nt) (by rw [pk_sub (by omega), Nat.add_sub_cancel]) ?_
                  refine k_view (V1 := gv_up (gv_up V wt (.inl (cI, 240, .inl (upd (upd (upd (upd ft (4 * nt) x) (4 * nt + 1) y) (4 * nt + 2) z) (4 * nt + 3) w)))) m (.inr (7, [.int (nI (nt + 1)), .ref wt, .int (nI ne), .ref wa, .ref wv, .int (nI nn), .ref wm, .int (nI 0), .ref wr, .ref wc, .ref wn, .int (nI sh), .ref ws, .ref wk, .ref wp]))) rfl ?_
                  exact k_iret C zr zlk (Or.inl ⟨by rw [trIn_n (fun z hz => hal z (by have := hT.1; omega))]; simp_all, rfl, rfl⟩) (Nat.le_refl _) (Nat.le_refl _) dX7_triple_195
                · skip
                  have b65 : ¬ (4 * nt) ≤ (4 * k) := fun z => c65 ((nI_leI (a := 4 * nt) (b := 4 * k) (by omega) (by omega)).mpr z)
                  refine k_aload_n C dX7_triple_68 rfl 1 rfl ?_
                  refine k_get (ci := 7) (k := 1) C fl_7_7 h_m rfl dX7_triple_69 ?_
                  refine k_iload C dX7_triple_72 0 rfl ?_
                  refine k_iald (v := ft (4 * k)) C 0 h_wt rfl (vp_in_nI (by omega) (by omega)) (by rw [nI_clamp (by omega)]) dX7_triple_74 ?_
                  refine k_iload_n C dX7_triple_75 rfl 2 rfl ?_
                  refine k_icmp_ne (tgt := 121) C dX7_triple_76 (by decide) (fun c76 => ?_) (fun c76 => ?_)
                  · skip
                    refine k_iinc (v := nI ((4 * k) + 4)) (lv' := [(5, .int (nI ((4 * k) + 4))), (0, .ref m), (1, .int x), (2, .int y), (3, .int z), (4, .int w)]) C dX7_triple_121 (k := 0) rfl (nI_add (4 * k) 4) (by decide) rfl ?_
                    refine k_goto (tgt := 57) C dX7_triple_124 (by decide) ?_
                    refine k_lve (lv' := [(5, .int (nI (4 * (k + 1)))), (0, .ref m), (1, .int x), (2, .int y), (3, .int z), (4, .int w)]) (by rw [show (4 * k) + 4 = 4 * (k + 1) by omega]) ?_
                    exact ih57 (k + 1) (by omega)  (by omega) (fun z0 hz => by rcases Nat.lt_or_ge z0 k with h | h; (exact hal z0 h); (rw [show z0 = k by omega]; intro he; have h4 := hT.2.2 k (by omega); rw [he] at h4; simp_all))
                  · skip
                    refine k_aload_n C dX7_triple_79 rfl 1 rfl ?_
                    refine k_get (ci := 7) (k := 1) C fl_7_7 h_m rfl dX7_triple_80 ?_
                    refine k_iload C dX7_triple_83 0 rfl ?_
                    refine k_iconst (v := nI 1) C dX7_triple_85 rfl ?_
                    refine k_iadd C dX7_triple_86 ?_
                    refine k_val (y := nI ((4 * k) + 1)) (nI_add (4 * k) 1) ?_
                    refine k_iald (v := ft ((4 * k) + 1)) C 0 h_wt rfl (vp_in_nI (by omega) (by omega)) (by rw [nI_clamp (by omega)]) dX7_triple_87 ?_
                    refine k_iload_n C dX7_triple_88 rfl 3 rfl ?_
                    refine k_icmp_ne (tgt := 121) C dX7_triple_89 (by decide) (fun c89 => ?_) (fun c89 => ?_)
                    · skip
                      refine k_iinc (v := nI ((4 * k) + 4)) (lv' := [(5, .int (nI ((4 * k) + 4))), (0, .ref m), (1, .int x), (2, .int y), (3, .int z), (4, .int w)]) C dX7_triple_121 (k := 0) rfl (nI_add (4 * k) 4) (by decide) rfl ?_
                      refine k_goto (tgt := 57) C dX7_triple_124 (by decide) ?_
                      refine k_lve (lv' := [(5, .int (nI (4 * (k + 1)))), (0, .ref m), (1, .int x), (2, .int y), (3, .int z), (4, .int w)]) (by rw [show (4 * k) + 4 = 4 * (k + 1) by omega]) ?_
                      exact ih57 (k + 1) (by omega)  (by omega) (fun z0 hz => by rcases Nat.lt_or_ge z0 k with h | h; (exact hal z0 h); (rw [show z0 = k by omega]; intro he; have h4 := hT.2.2 k (by omega); rw [he] at h4; simp_all))
                    · skip
                      refine k_aload_n C dX7_triple_92 rfl 1 rfl ?_
                      refine k_get (ci := 7) (k := 1) C fl_7_7 h_m rfl dX7_triple_93 ?_
                      refine k_iload C dX7_triple_96 0 rfl ?_
                      refine k_iconst (v := nI 2) C dX7_triple_98 rfl ?_
                      refine k_iadd C dX7_triple_99 ?_
                      refine k_val (y := nI ((4 * k) + 2)) (nI_add (4 * k) 2) ?_
                      refine k_iald (v := ft ((4 * k) + 2)) C 0 h_wt rfl (vp_in_nI (by omega) (by omega)) (by rw [nI_clamp (by omega)]) dX7_triple_100 ?_
                      refine k_iload_n C dX7_triple_101 rfl 4 rfl ?_
                      refine k_icmp_ne (tgt := 121) C dX7_triple_102 (by decide) (fun c102 => ?_) (fun c102 => ?_)
                      · skip
                        refine k_iinc (v := nI ((4 * k) + 4)) (lv' := [(5, .int (nI ((4 * k) + 4))), (0, .ref m), (1, .int x), (2, .int y), (3, .int z), (4, .int w)]) C dX7_triple_121 (k := 0) rfl (nI_add (4 * k) 4) (by decide) rfl ?_
                        refine k_goto (tgt := 57) C dX7_triple_124 (by decide) ?_
                        refine k_lve (lv' := [(5, .int (nI (4 * (k + 1)))), (0, .ref m), (1, .int x), (2, .int y), (3, .int z), (4, .int w)]) (by rw [show (4 * k) + 4 = 4 * (k + 1) by omega]) ?_
                        exact ih57 (k + 1) (by omega)  (by omega) (fun z0 hz => by rcases Nat.lt_or_ge z0 k with h | h; (exact hal z0 h); (rw [show z0 = k by omega]; intro he; have h4 := hT.2.2 k (by omega); rw [he] at h4; simp_all))
                      · skip
                        refine k_aload_n C dX7_triple_105 rfl 1 rfl ?_
                        refine k_get (ci := 7) (k := 1) C fl_7_7 h_m rfl dX7_triple_106 ?_
                        refine k_iload C dX7_triple_109 0 rfl ?_
                        refine k_iconst (v := nI 3) C dX7_triple_111 rfl ?_
                        refine k_iadd C dX7_triple_112 ?_
                        refine k_val (y := nI ((4 * k) + 3)) (nI_add (4 * k) 3) ?_
                        refine k_iald (v := ft ((4 * k) + 3)) C 0 h_wt rfl (vp_in_nI (by omega) (by omega)) (by rw [nI_clamp (by omega)]) dX7_triple_113 ?_
                        refine k_iload C dX7_triple_114 5 rfl ?_
                        refine k_icmp_ne (tgt := 121) C dX7_triple_116 (by decide) (fun c116 => ?_) (fun c116 => ?_)
                        · skip
                          refine k_iinc (v := nI ((4 * k) + 4)) (lv' := [(5, .int (nI ((4 * k) + 4))), (0, .ref m), (1, .int x), (2, .int y), (3, .int z), (4, .int w)]) C dX7_triple_121 (k := 0) rfl (nI_add (4 * k) 4) (by decide) rfl ?_
                          refine k_goto (tgt := 57) C dX7_triple_124 (by decide) ?_
                          refine k_lve (lv' := [(5, .int (nI (4 * (k + 1)))), (0, .ref m), (1, .int x), (2, .int y), (3, .int z), (4, .int w)]) (by rw [show (4 * k) + 4 = 4 * (k + 1) by omega]) ?_
                          exact ih57 (k + 1) (by omega)  (by omega) (fun z0 hz => by rcases Nat.lt_or_ge z0 k with h | h; (exact hal z0 h); (rw [show z0 = k by omega]; intro he; have h4 := hT.2.2 k (by omega); rw [he] at h4; simp_all))
                        · skip
                          refine k_iconst (v := (-1 : Int32)) C dX7_triple_119 (by decide) ?_
                          exact k_iret C zr zlk (Or.inr ⟨by rw [trIn_y (i := k) (by have := hT.1; omega) (by have h4 := hT.2.2 k (by omega); rw [c76, c89, c102, c116] at h4; exact Prod.ext h4.1.symm (Prod.ext h4.2.1.symm (Prod.ext h4.2.2.1.symm h4.2.2.2.symm)))]; simp, rfl, rfl⟩) (Nat.le_refl _) (Nat.le_refl _) dX7_triple_120
            refine k_lve (lv' := [(5, .int (nI (4 * 0))), (0, .ref m), (1, .int x), (2, .int y), (3, .int z), (4, .int w)]) (by rw [show 0 = 4 * 0 by omega]) ?_
            exact L57 _ 0 (Nat.lt_succ_self _)  (by omega) (fun _ h => absurd h (Nat.not_lt_zero _))
          · skip
            have b49 : nt = 60 := (nI_eq (a := nt) (b := 60) (by omega) (by omega)).mp c49
            refine k_iconst (v := (-1 : Int32)) C dX7_triple_52 (by decide) ?_
            exact k_iret C zr zlk (Or.inr ⟨by simp_all, rfl, rfl⟩) (Nat.le_refl _) (Nat.le_refl _) dX7_triple_53
set_option maxHeartbeats 4000000 in
set_option maxRecDepth 100000 in
theorem c_make1 {zl : Launch} {D : va_G} {cI cN cR : ClassId} {base : Nat} {V : gv_V} {m wt wa wv wm wr wc wn ws wk wp nt ne nn sh : Nat} {kn : Int32} {fm : Nat → Int32} {x1 x2 x3 x4 x5 : Int32} {q : Nat}  (h_m : V m = some (.inr (7, [.int (nI nt), .ref wt, .int (nI ne), .ref wa, .ref wv, .int (nI nn), .ref wm, .int kn, .ref wr, .ref wc, .ref wn, .int (nI sh), .ref ws, .ref wk, .ref wp]))) (h_wm : V wm = some (.inl (cI, 180, .inl fm))) (hn : nn < 30) : ct zl D [(cI, .int), (cN, .object "AlgebraTree$Node"), (cR, .object "AlgebraTree$Rows")] base yX7_make cX7_make 9 (some .int) 0 0 0 [.ref m, .int (nI 1), .int (nI q), .int x1, .int x2, .int x3, .int x4, .int x5] V (pi (nI nn) (gv_up (gv_up V wm (.inl (cI, 180, .inl (upd (upd (upd (upd (upd (upd fm (6 * nn) (nI q)) (6 * nn + 1) x1) (6 * nn + 2) x2) (6 * nn + 3) x3) (6 * nn + 4) x4) (6 * nn + 5) x5)))) m (.inr (7, [.int (nI nt), .ref wt, .int (nI ne), .ref wa, .ref wv, .int (nI (nn + 1)), .ref wm, .int (nI 0), .ref wr, .ref wc, .ref wn, .int (nI sh), .ref ws, .ref wk, .ref wp])))) := by
  refine ct_of "AlgebraTreeModel" rfl (by decide) (Nat.le_of_ble_eq_true rfl) ?_
  intro zp ze zs zm zargs zbelow zmeth zc C zr zlk znm
  refine k_pc (pc' := 0) (st' := []) rfl rfl ?_
  show K zp zl ze (gv_rm 0 0 0) zs zm zargs zbelow zmeth zc D base 9 (gv_E D [(cI, .int), (cN, .object "AlgebraTree$Node"), (cR, .object "AlgebraTree$Rows")] base zbelow zargs zs 0 0 (pi (nI nn) (gv_up (gv_up V wm (.inl (cI, 180, .inl (upd (upd (upd (upd (upd (upd fm (6 * nn) (nI q)) (6 * nn + 1) x1) (6 * nn + 2) x2) (6 * nn + 3) x3) (6 * nn + 4) x4) (6 * nn + 5) x5)))) m (.inr (7, [.int (nI nt), .ref wt, .int (nI ne), .ref wa, .ref wv, .int (nI (nn + 1)), .ref wm, .int (nI 0), .ref wr, .ref wc, .ref wn, .int (nI sh), .ref ws, .ref wk, .ref wp]))))) V 0 0 [(0, .ref m), (1, .int (nI 1)), (2, .int (nI q)), (3, .int x1), (4, .int x2), (5, .int x3), (6, .int x4), (7, .int x5)] 0 []
  refine k_iload_n C dX7_make_0 rfl 1 rfl ?_
  refine k_if_eq (tgt := 13) C dX7_make_1 (by decide) (fun c1 => ?_) (fun c1 => ?_)
  · exact absurd c1 (by decide)
  · skip
    have b1 : ¬ 1 = 0 := fun z => c1 ((nI_eq (a := 1) (b := 0) (by omega) (by omega)).mpr z)
    refine k_aload_n C dX7_make_4 rfl 0 rfl ?_
    refine k_get (ci := 7) (k := 5) C fl_7_85 h_m rfl dX7_make_5 ?_
    refine k_bipush (v := nI 30) C dX7_make_8 rfl ?_
    refine k_icmp_ne (tgt := 15) C dX7_make_10 (by decide) (fun c10 => ?_) (fun c10 => ?_)
    · skip
      have b10 : ¬ nn = 30 := fun z => c10 ((nI_eq (a := nn) (b := 30) (by omega) (by omega)).mpr z)
      refine k_bipush (v := nI 6) C dX7_make_15 rfl ?_
      refine k_aload_n C dX7_make_17 rfl 0 rfl ?_
      refine k_get (ci := 7) (k := 5) C fl_7_85 h_m rfl dX7_make_18 ?_
      refine k_imul C dX7_make_21 ?_
      refine k_val (y := nI (6 * nn)) (pk_mul 6 nn) ?_
      refine k_istore (lv' := [(8, .int (nI (6 * nn))), (0, .ref m), (1, .int (nI 1)), (2, .int (nI q)), (3, .int x1), (4, .int x2), (5, .int x3), (6, .int x4), (7, .int x5)]) C dX7_make_22 (by decide) rfl ?_
      refine k_aload_n C dX7_make_24 rfl 1 rfl ?_
      refine k_get (ci := 7) (k := 6) C fl_7_19 h_m rfl dX7_make_25 ?_
      refine k_iload C dX7_make_28 0 rfl ?_
      refine k_iload_n C dX7_make_30 rfl 3 rfl ?_
      refine k_iast (f' := upd fm (6 * nn) (nI q)) C 0 h_wm rfl (vp_in_nI (by omega) (by omega)) (by rw [nI_clamp (by omega)]) dX7_make_31 ?_
      refine k_aload_n C dX7_make_32 rfl 1 rfl ?_
      have ne1 : nq m wm := gv_ne h_wm h_m (by simp)
      refine k_get (ci := 7) (k := 6) C fl_7_19 ((gv_up_n ne1).trans h_m) rfl dX7_make_33 ?_
      refine k_iload C dX7_make_36 0 rfl ?_
      refine k_iconst (v := nI 1) C dX7_make_38 rfl ?_
      refine k_iadd C dX7_make_39 ?_
      refine k_val (y := nI ((6 * nn) + 1)) (nI_add (6 * nn) 1) ?_
      refine k_iload_n C dX7_make_40 rfl 4 rfl ?_
      refine k_iast (f' := upd (upd fm (6 * nn) (nI q)) ((6 * nn) + 1) x1) C 0 gv_up_s rfl (vp_in_nI (by omega) (by omega)) (by rw [nI_clamp (by omega)]) dX7_make_41 ?_
      refine k_view (V1 := gv_up V wm (.inl (cI, 180, .inl (upd (upd fm (6 * nn) (nI q)) ((6 * nn) + 1) x1)))) gv_uu ?_
      refine k_aload_n C dX7_make_42 rfl 1 rfl ?_
      refine k_get (ci := 7) (k := 6) C fl_7_19 ((gv_up_n ne1).trans h_m) rfl dX7_make_43 ?_
      refine k_iload C dX7_make_46 0 rfl ?_
      refine k_iconst (v := nI 2) C dX7_make_48 rfl ?_
      refine k_iadd C dX7_make_49 ?_
      refine k_val (y := nI ((6 * nn) + 2)) (nI_add (6 * nn) 2) ?_
      refine k_iload C dX7_make_50 5 rfl ?_
      refine k_iast (f' := upd (upd (upd fm (6 * nn) (nI q)) ((6 * nn) + 1) x1) ((6 * nn) + 2) x2) C 0 gv_up_s rfl (vp_in_nI (by omega) (by omega)) (by rw [nI_clamp (by omega)]) dX7_make_52 ?_
      refine k_view (V1 := gv_up V wm (.inl (cI, 180, .inl (upd (upd (upd fm (6 * nn) (nI q)) ((6 * nn) + 1) x1) ((6 * nn) + 2) x2)))) gv_uu ?_
      refine k_aload_n C dX7_make_53 rfl 1 rfl ?_
      refine k_get (ci := 7) (k := 6) C fl_7_19 ((gv_up_n ne1).trans h_m) rfl dX7_make_54 ?_
      refine k_iload C dX7_make_57 0 rfl ?_
      refine k_iconst (v := nI 3) C dX7_make_59 rfl ?_
      refine k_iadd C dX7_make_60 ?_
      refine k_val (y := nI ((6 * nn) + 3)) (nI_add (6 * nn) 3) ?_
      refine k_iload C dX7_make_61 6 rfl ?_
      refine k_iast (f' := upd (upd (upd (upd fm (6 * nn) (nI q)) ((6 * nn) + 1) x1) ((6 * nn) + 2) x2) ((6 * nn) + 3) x3) C 0 gv_up_s rfl (vp_in_nI (by omega) (by omega)) (by rw [nI_clamp (by omega)]) dX7_make_63 ?_
      refine k_view (V1 := gv_up V wm (.inl (cI, 180, .inl (upd (upd (upd (upd fm (6 * nn) (nI q)) ((6 * nn) + 1) x1) ((6 * nn) + 2) x2) ((6 * nn) + 3) x3)))) gv_uu ?_
      refine k_aload_n C dX7_make_64 rfl 1 rfl ?_
      refine k_get (ci := 7) (k := 6) C fl_7_19 ((gv_up_n ne1).trans h_m) rfl dX7_make_65 ?_
      refine k_iload C dX7_make_68 0 rfl ?_
      refine k_iconst (v := nI 4) C dX7_make_70 rfl ?_
      refine k_iadd C dX7_make_71 ?_
      refine k_val (y := nI ((6 * nn) + 4)) (nI_add (6 * nn) 4) ?_
      refine k_iload C dX7_make_72 7 rfl ?_
      refine k_iast (f' := upd (upd (upd (upd (upd fm (6 * nn) (nI q)) ((6 * nn) + 1) x1) ((6 * nn) + 2) x2) ((6 * nn) + 3) x3) ((6 * nn) + 4) x4) C 0 gv_up_s rfl (vp_in_nI (by omega) (by omega)) (by rw [nI_clamp (by omega)]) dX7_make_74 ?_
      refine k_view (V1 := gv_up V wm (.inl (cI, 180, .inl (upd (upd (upd (upd (upd fm (6 * nn) (nI q)) ((6 * nn) + 1) x1) ((6 * nn) + 2) x2) ((6 * nn) + 3) x3) ((6 * nn) + 4) x4)))) gv_uu ?_
      refine k_aload_n C dX7_make_75 rfl 1 rfl ?_
      refine k_get (ci := 7) (k := 6) C fl_7_19 ((gv_up_n ne1).trans h_m) rfl dX7_make_76 ?_
      refine k_iload C dX7_make_79 0 rfl ?_
      refine k_iconst (v := nI 5) C dX7_make_81 rfl ?_
      refine k_iadd C dX7_make_82 ?_
      refine k_val (y := nI ((6 * nn) + 5)) (nI_add (6 * nn) 5) ?_
      refine k_iload C dX7_make_83 8 rfl ?_
      refine k_iast (f' := upd (upd (upd (upd (upd (upd fm (6 * nn) (nI q)) ((6 * nn) + 1) x1) ((6 * nn) + 2) x2) ((6 * nn) + 3) x3) ((6 * nn) + 4) x4) ((6 * nn) + 5) x5) C 0 gv_up_s rfl (vp_in_nI (by omega) (by omega)) (by rw [nI_clamp (by omega)]) dX7_make_85 ?_
      refine k_view (V1 := gv_up V wm (.inl (cI, 180, .inl (upd (upd (upd (upd (upd (upd fm (6 * nn) (nI q)) ((6 * nn) + 1) x1) ((6 * nn) + 2) x2) ((6 * nn) + 3) x3) ((6 * nn) + 4) x4) ((6 * nn) + 5) x5)))) gv_uu ?_
      refine k_aload_n C dX7_make_86 rfl 1 rfl ?_
      refine k_dup C dX7_make_87 rfl ?_
      refine k_get (ci := 7) (k := 5) C fl_7_85 ((gv_up_n ne1).trans h_m) rfl dX7_make_88 ?_
      refine k_iconst (v := nI 1) C dX7_make_91 rfl ?_
      refine k_iadd C dX7_make_92 ?_
      refine k_val (y := nI (nn + 1)) (nI_add nn 1) ?_
      refine k_put (ci := 7) (k := 5) (fs' := [.int (nI nt), .ref wt, .int (nI ne), .ref wa, .ref wv, .int (nI (nn + 1)), .ref wm, .int kn, .ref wr, .ref wc, .ref wn, .int (nI sh), .ref ws, .ref wk, .ref wp]) C fl_7_85 pf_7_5 ((gv_up_n ne1).trans h_m) rfl rfl (Nat.le_of_ble_eq_true rfl) rfl dX7_make_93 ?_
      refine k_aload_n C dX7_make_96 rfl 1 rfl ?_
      refine k_iconst (v := nI 0) C dX7_make_97 rfl ?_
      refine k_put (ci := 7) (k := 7) (fs' := [.int (nI nt), .ref wt, .int (nI ne), .ref wa, .ref wv, .int (nI (nn + 1)), .ref wm, .int (nI 0), .ref wr, .ref wc, .ref wn, .int (nI sh), .ref ws, .ref wk, .ref wp]) C fl_7_41 pf_7_7 gv_up_s rfl rfl (Nat.le_of_ble_eq_true rfl) rfl dX7_make_98 ?_
      refine k_view (V1 := gv_up (gv_up V wm (.inl (cI, 180, .inl (upd (upd (upd (upd (upd (upd fm (6 * nn) (nI q)) ((6 * nn) + 1) x1) ((6 * nn) + 2) x2) ((6 * nn) + 3) x3) ((6 * nn) + 4) x4) ((6 * nn) + 5) x5)))) m (.inr (7, [.int (nI nt), .ref wt, .int (nI ne), .ref wa, .ref wv, .int (nI (nn + 1)), .ref wm, .int (nI 0), .ref wr, .ref wc, .ref wn, .int (nI sh), .ref ws, .ref wk, .ref wp]))) gv_uu ?_
      refine k_aload_n C dX7_make_101 rfl 1 rfl ?_
      refine k_get (ci := 7) (k := 5) C fl_7_85 gv_up_s rfl dX7_make_102 ?_
      refine k_iconst (v := nI 1) C dX7_make_105 rfl ?_
      refine k_isub C dX7_make_106 ?_
      refine k_val (y := nI nn) (by rw [pk_sub (by omega), Nat.add_sub_cancel]) ?_
      refine k_view (V1 := gv_up (gv_up V wm (.inl (cI, 180, .inl (upd (upd (upd (upd (upd (upd fm (6 * nn) (nI q)) (6 * nn + 1) x1) (6 * nn + 2) x2) (6 * nn + 3) x3) (6 * nn + 4) x4) (6 * nn + 5) x5)))) m (.inr (7, [.int (nI nt), .ref wt, .int (nI ne), .ref wa, .ref wv, .int (nI (nn + 1)), .ref wm, .int (nI 0), .ref wr, .ref wc, .ref wn, .int (nI sh), .ref ws, .ref wk, .ref wp]))) rfl ?_
      exact k_iret C zr zlk (pi_of rfl rfl) (Nat.le_refl _) (Nat.le_refl _) dX7_make_107
    · skip
      exact absurd ((nI_eq (by omega) (by omega)).mp c10) (by omega)
set_option maxHeartbeats 4000000 in
set_option maxRecDepth 100000 in
theorem c_makeF {zl : Launch} {D : va_G} {cI cN cR : ClassId} {base : Nat} {V : gv_V} {m wt wa wv wm wr wc wn ws wk wp nt ne nn sh : Nat} {kn : Int32} {fm : Nat → Int32} {x1 x2 x3 x4 x5 : Int32} {x0 : Int32}  (h_m : V m = some (.inr (7, [.int (nI nt), .ref wt, .int (nI ne), .ref wa, .ref wv, .int (nI nn), .ref wm, .int kn, .ref wr, .ref wc, .ref wn, .int (nI sh), .ref ws, .ref wk, .ref wp]))) (h_wm : V wm = some (.inl (cI, 180, .inl fm))) (hn : nn = 30) : ct zl D [(cI, .int), (cN, .object "AlgebraTree$Node"), (cR, .object "AlgebraTree$Rows")] base yX7_make cX7_make 9 (some .int) 0 0 0 [.ref m, .int (nI 1), .int x0, .int x1, .int x2, .int x3, .int x4, .int x5] V (pi (-1 : Int32) V) := by
  refine ct_of "AlgebraTreeModel" rfl (by decide) (Nat.le_of_ble_eq_true rfl) ?_
  intro zp ze zs zm zargs zbelow zmeth zc C zr zlk znm
  refine k_pc (pc' := 0) (st' := []) rfl rfl ?_
  show K zp zl ze (gv_rm 0 0 0) zs zm zargs zbelow zmeth zc D base 9 (gv_E D [(cI, .int), (cN, .object "AlgebraTree$Node"), (cR, .object "AlgebraTree$Rows")] base zbelow zargs zs 0 0 (pi (-1 : Int32) V)) V 0 0 [(0, .ref m), (1, .int (nI 1)), (2, .int x0), (3, .int x1), (4, .int x2), (5, .int x3), (6, .int x4), (7, .int x5)] 0 []
  refine k_iload_n C dX7_make_0 rfl 1 rfl ?_
  refine k_if_eq (tgt := 13) C dX7_make_1 (by decide) (fun c1 => ?_) (fun c1 => ?_)
  · exact absurd c1 (by decide)
  · skip
    have b1 : ¬ 1 = 0 := fun z => c1 ((nI_eq (a := 1) (b := 0) (by omega) (by omega)).mpr z)
    refine k_aload_n C dX7_make_4 rfl 0 rfl ?_
    refine k_get (ci := 7) (k := 5) C fl_7_85 h_m rfl dX7_make_5 ?_
    refine k_bipush (v := nI 30) C dX7_make_8 rfl ?_
    refine k_icmp_ne (tgt := 15) C dX7_make_10 (by decide) (fun c10 => ?_) (fun c10 => ?_)
    · skip
      exact absurd (by rw [hn]) c10
    · skip
      have b10 : nn = 30 := (nI_eq (a := nn) (b := 30) (by omega) (by omega)).mp c10
      refine k_iconst (v := (-1 : Int32)) C dX7_make_13 (by decide) ?_
      exact k_iret C zr zlk (pi_of rfl rfl) (Nat.le_refl _) (Nat.le_refl _) dX7_make_14
set_option maxHeartbeats 4000000 in
set_option maxRecDepth 100000 in
theorem c_make0 {zl : Launch} {D : va_G} {cI cN cR : ClassId} {base : Nat} {V : gv_V} {m wt wa wv wm wr wc wn ws wk wp nt ne nn sh : Nat} {kn : Int32} {fm : Nat → Int32} {x1 x2 x3 x4 x5 : Int32} {x0 : Int32}  (h_m : V m = some (.inr (7, [.int (nI nt), .ref wt, .int (nI ne), .ref wa, .ref wv, .int (nI nn), .ref wm, .int kn, .ref wr, .ref wc, .ref wn, .int (nI sh), .ref ws, .ref wk, .ref wp]))) (h_wm : V wm = some (.inl (cI, 180, .inl fm)))  : ct zl D [(cI, .int), (cN, .object "AlgebraTree$Node"), (cR, .object "AlgebraTree$Rows")] base yX7_make cX7_make 9 (some .int) 0 0 0 [.ref m, .int (nI 0), .int x0, .int x1, .int x2, .int x3, .int x4, .int x5] V (pi (-1 : Int32) V) := by
  refine ct_of "AlgebraTreeModel" rfl (by decide) (Nat.le_of_ble_eq_true rfl) ?_
  intro zp ze zs zm zargs zbelow zmeth zc C zr zlk znm
  refine k_pc (pc' := 0) (st' := []) rfl rfl ?_
  show K zp zl ze (gv_rm 0 0 0) zs zm zargs zbelow zmeth zc D base 9 (gv_E D [(cI, .int), (cN, .object "AlgebraTree$Node"), (cR, .object "AlgebraTree$Rows")] base zbelow zargs zs 0 0 (pi (-1 : Int32) V)) V 0 0 [(0, .ref m), (1, .int (nI 0)), (2, .int x0), (3, .int x1), (4, .int x2), (5, .int x3), (6, .int x4), (7, .int x5)] 0 []
  refine k_iload_n C dX7_make_0 rfl 1 rfl ?_
  refine k_if_eq (tgt := 13) C dX7_make_1 (by decide) (fun c1 => ?_) (fun c1 => ?_)
  · skip
    have b1 : 0 = 0 := (nI_eq (a := 0) (b := 0) (by omega) (by omega)).mp c1
    refine k_iconst (v := (-1 : Int32)) C dX7_make_13 (by decide) ?_
    exact k_iret C zr zlk (pi_of rfl rfl) (Nat.le_refl _) (Nat.le_refl _) dX7_make_14
  · exact absurd c1 (by decide)
set_option maxHeartbeats 4000000 in
set_option maxRecDepth 100000 in
theorem c_X7_pattern {zl : Launch} {D : va_G} {cI cN cR : ClassId} {base : Nat} {V : gv_V} {m wt wa wv wm wr wc wn ws wk wp nt ne nn sh : Nat} {kn : Int32} {fm : Nat → Int32} {x y z : Int32}  (h_m : V m = some (.inr (7, [.int (nI nt), .ref wt, .int (nI ne), .ref wa, .ref wv, .int (nI nn), .ref wm, .int kn, .ref wr, .ref wc, .ref wn, .int (nI sh), .ref ws, .ref wk, .ref wp]))) (h_wm : V wm = some (.inl (cI, 180, .inl fm))) (hnn : nn ≤ 30) : ct zl D [(cI, .int), (cN, .object "AlgebraTree$Node"), (cR, .object "AlgebraTree$Rows")] base yX7_pattern cX7_pattern 4 (some .int) 2 0 0 [.ref m, .int x, .int y, .int z] V (fun zv zV => ((!decide (nn = 30) && plc x && plc y && plc z) = true ∧ zv = some (.int (nI nn)) ∧ zV = gv_up (gv_up V wm (.inl (cI, 180, .inl (upd (upd (upd (upd (upd (upd fm (6 * nn) (nI 0)) (6 * nn + 1) x) (6 * nn + 2) y) (6 * nn + 3) z) (6 * nn + 4) (nI 0)) (6 * nn + 5) (nI 0))))) m (.inr (7, [.int (nI nt), .ref wt, .int (nI ne), .ref wa, .ref wv, .int (nI (nn + 1)), .ref wm, .int (nI 0), .ref wr, .ref wc, .ref wn, .int (nI sh), .ref ws, .ref wk, .ref wp]))) ∨ ((!decide (nn = 30) && plc x && plc y && plc z) = false ∧ zv = some (.int (-1 : Int32)) ∧ zV = V)) := by
  refine ct_of "AlgebraTreeModel" rfl (by decide) (Nat.le_of_ble_eq_true rfl) ?_
  intro zp ze zs zm zargs zbelow zmeth zc C zr zlk znm
  refine k_pc (pc' := 0) (st' := []) rfl rfl ?_
  show K zp zl ze (gv_rm 2 0 0) zs zm zargs zbelow zmeth zc D base 4 (gv_E D [(cI, .int), (cN, .object "AlgebraTree$Node"), (cR, .object "AlgebraTree$Rows")] base zbelow zargs zs 0 0 (fun zv zV => ((!decide (nn = 30) && plc x && plc y && plc z) = true ∧ zv = some (.int (nI nn)) ∧ zV = gv_up (gv_up V wm (.inl (cI, 180, .inl (upd (upd (upd (upd (upd (upd fm (6 * nn) (nI 0)) (6 * nn + 1) x) (6 * nn + 2) y) (6 * nn + 3) z) (6 * nn + 4) (nI 0)) (6 * nn + 5) (nI 0))))) m (.inr (7, [.int (nI nt), .ref wt, .int (nI ne), .ref wa, .ref wv, .int (nI (nn + 1)), .ref wm, .int (nI 0), .ref wr, .ref wc, .ref wn, .int (nI sh), .ref ws, .ref wk, .ref wp]))) ∨ ((!decide (nn = 30) && plc x && plc y && plc z) = false ∧ zv = some (.int (-1 : Int32)) ∧ zV = V))) V 0 0 [(0, .ref m), (1, .int x), (2, .int y), (3, .int z)] 0 []
  refine k_aload_n C dX7_pattern_0 rfl 0 rfl ?_
  refine k_iload_n C dX7_pattern_1 rfl 1 rfl ?_
  refine k_callS_pi C ms_7_88 (c_X7_isPart   ) rfl rfl (by simp [Value.category]) ⟨Nat.le_of_ble_eq_true rfl, Nat.le_of_ble_eq_true rfl⟩ ⟨(by decide), (by decide)⟩ dX7_pattern_2 ?_
  refine k_if_eq (tgt := 26) C dX7_pattern_5 (by decide) (fun c5 => ?_) (fun c5 => ?_)
  · skip
    have b5 : (plc x) = false := bI_0.mp c5
    refine k_iconst (v := nI 0) C dX7_pattern_26 rfl ?_
    refine k_iconst (v := nI 0) C dX7_pattern_27 rfl ?_
    refine k_iload_n C dX7_pattern_28 rfl 1 rfl ?_
    refine k_iload_n C dX7_pattern_29 rfl 2 rfl ?_
    refine k_iload_n C dX7_pattern_30 rfl 3 rfl ?_
    refine k_iconst (v := nI 0) C dX7_pattern_31 rfl ?_
    refine k_iconst (v := nI 0) C dX7_pattern_32 rfl ?_
    by_cases hn30 : nn = 30
    · skip
      refine k_callV_pi C mv_7_91 (c_make0  h_m h_wm ) h_m rfl rfl (by simp [Value.category]) ⟨Nat.le_of_ble_eq_true rfl, Nat.le_of_ble_eq_true rfl⟩ ⟨(by decide), (by decide)⟩ dX7_pattern_33 ?_
      exact k_iret C zr zlk (Or.inr ⟨by simp_all, rfl, rfl⟩) (Nat.le_refl _) (Nat.le_refl _) dX7_pattern_36
    · skip
      refine k_callV_pi C mv_7_91 (c_make0  h_m h_wm ) h_m rfl rfl (by simp [Value.category]) ⟨Nat.le_of_ble_eq_true rfl, Nat.le_of_ble_eq_true rfl⟩ ⟨(by decide), (by decide)⟩ dX7_pattern_33 ?_
      exact k_iret C zr zlk (Or.inr ⟨by simp_all, rfl, rfl⟩) (Nat.le_refl _) (Nat.le_refl _) dX7_pattern_36
  · skip
    have b5 : (plc x) = true := bI_n.mp c5
    refine k_iload_n C dX7_pattern_8 rfl 2 rfl ?_
    refine k_callS_pi C ms_7_88 (c_X7_isPart   ) rfl rfl (by simp [Value.category]) ⟨Nat.le_of_ble_eq_true rfl, Nat.le_of_ble_eq_true rfl⟩ ⟨(by decide), (by decide)⟩ dX7_pattern_9 ?_
    refine k_if_eq (tgt := 26) C dX7_pattern_12 (by decide) (fun c12 => ?_) (fun c12 => ?_)
    · skip
      have b12 : (plc y) = false := bI_0.mp c12
      refine k_iconst (v := nI 0) C dX7_pattern_26 rfl ?_
      refine k_iconst (v := nI 0) C dX7_pattern_27 rfl ?_
      refine k_iload_n C dX7_pattern_28 rfl 1 rfl ?_
      refine k_iload_n C dX7_pattern_29 rfl 2 rfl ?_
      refine k_iload_n C dX7_pattern_30 rfl 3 rfl ?_
      refine k_iconst (v := nI 0) C dX7_pattern_31 rfl ?_
      refine k_iconst (v := nI 0) C dX7_pattern_32 rfl ?_
      by_cases hn30 : nn = 30
      · skip
        refine k_callV_pi C mv_7_91 (c_make0  h_m h_wm ) h_m rfl rfl (by simp [Value.category]) ⟨Nat.le_of_ble_eq_true rfl, Nat.le_of_ble_eq_true rfl⟩ ⟨(by decide), (by decide)⟩ dX7_pattern_33 ?_
        exact k_iret C zr zlk (Or.inr ⟨by simp_all, rfl, rfl⟩) (Nat.le_refl _) (Nat.le_refl _) dX7_pattern_36
      · skip
        refine k_callV_pi C mv_7_91 (c_make0  h_m h_wm ) h_m rfl rfl (by simp [Value.category]) ⟨Nat.le_of_ble_eq_true rfl, Nat.le_of_ble_eq_true rfl⟩ ⟨(by decide), (by decide)⟩ dX7_pattern_33 ?_
        exact k_iret C zr zlk (Or.inr ⟨by simp_all, rfl, rfl⟩) (Nat.le_refl _) (Nat.le_refl _) dX7_pattern_36
    · skip
      have b12 : (plc y) = true := bI_n.mp c12
      refine k_iload_n C dX7_pattern_15 rfl 3 rfl ?_
      refine k_callS_pi C ms_7_88 (c_X7_isPart   ) rfl rfl (by simp [Value.category]) ⟨Nat.le_of_ble_eq_true rfl, Nat.le_of_ble_eq_true rfl⟩ ⟨(by decide), (by decide)⟩ dX7_pattern_16 ?_
      refine k_if_eq (tgt := 26) C dX7_pattern_19 (by decide) (fun c19 => ?_) (fun c19 => ?_)
      · skip
        have b19 : (plc z) = false := bI_0.mp c19
        refine k_iconst (v := nI 0) C dX7_pattern_26 rfl ?_
        refine k_iconst (v := nI 0) C dX7_pattern_27 rfl ?_
        refine k_iload_n C dX7_pattern_28 rfl 1 rfl ?_
        refine k_iload_n C dX7_pattern_29 rfl 2 rfl ?_
        refine k_iload_n C dX7_pattern_30 rfl 3 rfl ?_
        refine k_iconst (v := nI 0) C dX7_pattern_31 rfl ?_
        refine k_iconst (v := nI 0) C dX7_pattern_32 rfl ?_
        by_cases hn30 : nn = 30
        · skip
          refine k_callV_pi C mv_7_91 (c_make0  h_m h_wm ) h_m rfl rfl (by simp [Value.category]) ⟨Nat.le_of_ble_eq_true rfl, Nat.le_of_ble_eq_true rfl⟩ ⟨(by decide), (by decide)⟩ dX7_pattern_33 ?_
          exact k_iret C zr zlk (Or.inr ⟨by simp_all, rfl, rfl⟩) (Nat.le_refl _) (Nat.le_refl _) dX7_pattern_36
        · skip
          refine k_callV_pi C mv_7_91 (c_make0  h_m h_wm ) h_m rfl rfl (by simp [Value.category]) ⟨Nat.le_of_ble_eq_true rfl, Nat.le_of_ble_eq_true rfl⟩ ⟨(by decide), (by decide)⟩ dX7_pattern_33 ?_
          exact k_iret C zr zlk (Or.inr ⟨by simp_all, rfl, rfl⟩) (Nat.le_refl _) (Nat.le_refl _) dX7_pattern_36
      · skip
        have b19 : (plc z) = true := bI_n.mp c19
        refine k_iconst (v := nI 1) C dX7_pattern_22 rfl ?_
        refine k_goto (tgt := 27) C dX7_pattern_23 (by decide) ?_
        refine k_iconst (v := nI 0) C dX7_pattern_27 rfl ?_
        refine k_iload_n C dX7_pattern_28 rfl 1 rfl ?_
        refine k_iload_n C dX7_pattern_29 rfl 2 rfl ?_
        refine k_iload_n C dX7_pattern_30 rfl 3 rfl ?_
        refine k_iconst (v := nI 0) C dX7_pattern_31 rfl ?_
        refine k_iconst (v := nI 0) C dX7_pattern_32 rfl ?_
        by_cases hn30 : nn = 30
        · skip
          refine k_callV_pi C mv_7_91 (c_makeF  h_m h_wm hn30) h_m rfl rfl (by simp [Value.category]) ⟨Nat.le_of_ble_eq_true rfl, Nat.le_of_ble_eq_true rfl⟩ ⟨(by decide), (by decide)⟩ dX7_pattern_33 ?_
          exact k_iret C zr zlk (Or.inr ⟨by simp_all, rfl, rfl⟩) (Nat.le_refl _) (Nat.le_refl _) dX7_pattern_36
        · skip
          refine k_callV_pi C mv_7_91 (c_make1  h_m h_wm (by omega)) h_m rfl rfl (by simp [Value.category]) ⟨Nat.le_of_ble_eq_true rfl, Nat.le_of_ble_eq_true rfl⟩ ⟨(by decide), (by decide)⟩ dX7_pattern_33 ?_
          exact k_iret C zr zlk (Or.inl ⟨by simp_all, rfl, rfl⟩) (Nat.le_refl _) (Nat.le_refl _) dX7_pattern_36
set_option maxHeartbeats 4000000 in
set_option maxRecDepth 100000 in
theorem c_X7_both {zl : Launch} {D : va_G} {cI cN cR : ClassId} {base : Nat} {V : gv_V} {m wt wa wv wm wr wc wn ws wk wp nt ne nn sh : Nat} {kn : Int32} {fm : Nat → Int32} {x y z : Int32}  (h_m : V m = some (.inr (7, [.int (nI nt), .ref wt, .int (nI ne), .ref wa, .ref wv, .int (nI nn), .ref wm, .int kn, .ref wr, .ref wc, .ref wn, .int (nI sh), .ref ws, .ref wk, .ref wp]))) (h_wm : V wm = some (.inl (cI, 180, .inl fm))) (hnn : nn ≤ 30) : ct zl D [(cI, .int), (cN, .object "AlgebraTree$Node"), (cR, .object "AlgebraTree$Rows")] base yX7_both cX7_both 4 (some .int) 2 0 0 [.ref m, .int x, .int y, .int z] V (fun zv zV => ((blw x (nI 3) && (!decide (nn = 30) && blw y (nI nn)) && blw z (nI nn)) = true ∧ zv = some (.int (nI nn)) ∧ zV = gv_up (gv_up V wm (.inl (cI, 180, .inl (upd (upd (upd (upd (upd (upd fm (6 * nn) (nI (1 + tn x))) (6 * nn + 1) y) (6 * nn + 2) z) (6 * nn + 3) (nI 0)) (6 * nn + 4) (nI 0)) (6 * nn + 5) (nI 0))))) m (.inr (7, [.int (nI nt), .ref wt, .int (nI ne), .ref wa, .ref wv, .int (nI (nn + 1)), .ref wm, .int (nI 0), .ref wr, .ref wc, .ref wn, .int (nI sh), .ref ws, .ref wk, .ref wp]))) ∨ ((blw x (nI 3) && (!decide (nn = 30) && blw y (nI nn)) && blw z (nI nn)) = false ∧ zv = some (.int (-1 : Int32)) ∧ zV = V)) := by
  refine ct_of "AlgebraTreeModel" rfl (by decide) (Nat.le_of_ble_eq_true rfl) ?_
  intro zp ze zs zm zargs zbelow zmeth zc C zr zlk znm
  refine k_pc (pc' := 0) (st' := []) rfl rfl ?_
  show K zp zl ze (gv_rm 2 0 0) zs zm zargs zbelow zmeth zc D base 4 (gv_E D [(cI, .int), (cN, .object "AlgebraTree$Node"), (cR, .object "AlgebraTree$Rows")] base zbelow zargs zs 0 0 (fun zv zV => ((blw x (nI 3) && (!decide (nn = 30) && blw y (nI nn)) && blw z (nI nn)) = true ∧ zv = some (.int (nI nn)) ∧ zV = gv_up (gv_up V wm (.inl (cI, 180, .inl (upd (upd (upd (upd (upd (upd fm (6 * nn) (nI (1 + tn x))) (6 * nn + 1) y) (6 * nn + 2) z) (6 * nn + 3) (nI 0)) (6 * nn + 4) (nI 0)) (6 * nn + 5) (nI 0))))) m (.inr (7, [.int (nI nt), .ref wt, .int (nI ne), .ref wa, .ref wv, .int (nI (nn + 1)), .ref wm, .int (nI 0), .ref wr, .ref wc, .ref wn, .int (nI sh), .ref ws, .ref wk, .ref wp]))) ∨ ((blw x (nI 3) && (!decide (nn = 30) && blw y (nI nn)) && blw z (nI nn)) = false ∧ zv = some (.int (-1 : Int32)) ∧ zV = V))) V 0 0 [(0, .ref m), (1, .int x), (2, .int y), (3, .int z)] 0 []
  refine k_aload_n C dX7_both_0 rfl 0 rfl ?_
  refine k_iload_n C dX7_both_1 rfl 1 rfl ?_
  refine k_iconst (v := nI 0) C dX7_both_2 rfl ?_
  refine k_iconst (v := nI 2) C dX7_both_3 rfl ?_
  refine k_callS_pi C ms_7_45 (c_X7_within   ) rfl rfl (by simp [Value.category]) ⟨Nat.le_of_ble_eq_true rfl, Nat.le_of_ble_eq_true rfl⟩ ⟨(by decide), (by decide)⟩ dX7_both_4 ?_
  refine k_if_eq (tgt := 30) C dX7_both_7 (by decide) (fun c7 => ?_) (fun c7 => ?_)
  · skip
    have b7 : (wi x (nI 0) (nI 2)) = false := bI_0.mp c7
    first | rw [wi_b (by omega)] at b7 | rw [wi_s] at b7
    refine k_iconst (v := nI 0) C dX7_both_30 rfl ?_
    refine k_iconst (v := nI 1) C dX7_both_31 rfl ?_
    refine k_iload_n C dX7_both_32 rfl 1 rfl ?_
    refine k_iadd C dX7_both_33 ?_
    refine k_iload_n C dX7_both_34 rfl 2 rfl ?_
    refine k_iload_n C dX7_both_35 rfl 3 rfl ?_
    refine k_iconst (v := nI 0) C dX7_both_36 rfl ?_
    refine k_iconst (v := nI 0) C dX7_both_37 rfl ?_
    refine k_iconst (v := nI 0) C dX7_both_38 rfl ?_
    by_cases hn30 : nn = 30
    · skip
      refine k_callV_pi C mv_7_91 (c_make0  h_m h_wm ) h_m rfl rfl (by simp [Value.category]) ⟨Nat.le_of_ble_eq_true rfl, Nat.le_of_ble_eq_true rfl⟩ ⟨(by decide), (by decide)⟩ dX7_both_39 ?_
      exact k_iret C zr zlk (Or.inr ⟨by simp_all, rfl, rfl⟩) (Nat.le_refl _) (Nat.le_refl _) dX7_both_42
    · skip
      refine k_callV_pi C mv_7_91 (c_make0  h_m h_wm ) h_m rfl rfl (by simp [Value.category]) ⟨Nat.le_of_ble_eq_true rfl, Nat.le_of_ble_eq_true rfl⟩ ⟨(by decide), (by decide)⟩ dX7_both_39 ?_
      exact k_iret C zr zlk (Or.inr ⟨by simp_all, rfl, rfl⟩) (Nat.le_refl _) (Nat.le_refl _) dX7_both_42
  · skip
    have b7 : (wi x (nI 0) (nI 2)) = true := bI_n.mp c7
    first | rw [wi_b (by omega)] at b7 | rw [wi_s] at b7
    refine k_aload_n C dX7_both_10 rfl 0 rfl ?_
    refine k_iload_n C dX7_both_11 rfl 2 rfl ?_
    refine k_callV_pi C mv_7_95 (c_X7_isNode  h_m ) h_m rfl rfl (by simp [Value.category]) ⟨Nat.le_of_ble_eq_true rfl, Nat.le_of_ble_eq_true rfl⟩ ⟨(by decide), (by decide)⟩ dX7_both_12 ?_
    refine k_if_eq (tgt := 30) C dX7_both_15 (by decide) (fun c15 => ?_) (fun c15 => ?_)
    · skip
      have b15 : (blw y (nI nn)) = false := bI_0.mp c15
      refine k_iconst (v := nI 0) C dX7_both_30 rfl ?_
      refine k_iconst (v := nI 1) C dX7_both_31 rfl ?_
      refine k_iload_n C dX7_both_32 rfl 1 rfl ?_
      refine k_iadd C dX7_both_33 ?_
      refine k_iload_n C dX7_both_34 rfl 2 rfl ?_
      refine k_iload_n C dX7_both_35 rfl 3 rfl ?_
      refine k_iconst (v := nI 0) C dX7_both_36 rfl ?_
      refine k_iconst (v := nI 0) C dX7_both_37 rfl ?_
      refine k_iconst (v := nI 0) C dX7_both_38 rfl ?_
      by_cases hn30 : nn = 30
      · skip
        refine k_callV_pi C mv_7_91 (c_make0  h_m h_wm ) h_m rfl rfl (by simp [Value.category]) ⟨Nat.le_of_ble_eq_true rfl, Nat.le_of_ble_eq_true rfl⟩ ⟨(by decide), (by decide)⟩ dX7_both_39 ?_
        exact k_iret C zr zlk (Or.inr ⟨by simp_all, rfl, rfl⟩) (Nat.le_refl _) (Nat.le_refl _) dX7_both_42
      · skip
        refine k_callV_pi C mv_7_91 (c_make0  h_m h_wm ) h_m rfl rfl (by simp [Value.category]) ⟨Nat.le_of_ble_eq_true rfl, Nat.le_of_ble_eq_true rfl⟩ ⟨(by decide), (by decide)⟩ dX7_both_39 ?_
        exact k_iret C zr zlk (Or.inr ⟨by simp_all, rfl, rfl⟩) (Nat.le_refl _) (Nat.le_refl _) dX7_both_42
    · skip
      have b15 : (blw y (nI nn)) = true := bI_n.mp c15
      refine k_aload_n C dX7_both_18 rfl 0 rfl ?_
      refine k_iload_n C dX7_both_19 rfl 3 rfl ?_
      refine k_callV_pi C mv_7_95 (c_X7_isNode  h_m ) h_m rfl rfl (by simp [Value.category]) ⟨Nat.le_of_ble_eq_true rfl, Nat.le_of_ble_eq_true rfl⟩ ⟨(by decide), (by decide)⟩ dX7_both_20 ?_
      refine k_if_eq (tgt := 30) C dX7_both_23 (by decide) (fun c23 => ?_) (fun c23 => ?_)
      · skip
        have b23 : (blw z (nI nn)) = false := bI_0.mp c23
        refine k_iconst (v := nI 0) C dX7_both_30 rfl ?_
        refine k_iconst (v := nI 1) C dX7_both_31 rfl ?_
        refine k_iload_n C dX7_both_32 rfl 1 rfl ?_
        refine k_iadd C dX7_both_33 ?_
        refine k_iload_n C dX7_both_34 rfl 2 rfl ?_
        refine k_iload_n C dX7_both_35 rfl 3 rfl ?_
        refine k_iconst (v := nI 0) C dX7_both_36 rfl ?_
        refine k_iconst (v := nI 0) C dX7_both_37 rfl ?_
        refine k_iconst (v := nI 0) C dX7_both_38 rfl ?_
        by_cases hn30 : nn = 30
        · skip
          refine k_callV_pi C mv_7_91 (c_make0  h_m h_wm ) h_m rfl rfl (by simp [Value.category]) ⟨Nat.le_of_ble_eq_true rfl, Nat.le_of_ble_eq_true rfl⟩ ⟨(by decide), (by decide)⟩ dX7_both_39 ?_
          exact k_iret C zr zlk (Or.inr ⟨by simp_all, rfl, rfl⟩) (Nat.le_refl _) (Nat.le_refl _) dX7_both_42
        · skip
          refine k_callV_pi C mv_7_91 (c_make0  h_m h_wm ) h_m rfl rfl (by simp [Value.category]) ⟨Nat.le_of_ble_eq_true rfl, Nat.le_of_ble_eq_true rfl⟩ ⟨(by decide), (by decide)⟩ dX7_both_39 ?_
          exact k_iret C zr zlk (Or.inr ⟨by simp_all, rfl, rfl⟩) (Nat.le_refl _) (Nat.le_refl _) dX7_both_42
      · skip
        have b23 : (blw z (nI nn)) = true := bI_n.mp c23
        refine k_iconst (v := nI 1) C dX7_both_26 rfl ?_
        refine k_goto (tgt := 31) C dX7_both_27 (by decide) ?_
        refine k_iconst (v := nI 1) C dX7_both_31 rfl ?_
        refine k_iload_n C dX7_both_32 rfl 1 rfl ?_
        refine k_iadd C dX7_both_33 ?_
        refine k_iload_n C dX7_both_34 rfl 2 rfl ?_
        refine k_iload_n C dX7_both_35 rfl 3 rfl ?_
        refine k_iconst (v := nI 0) C dX7_both_36 rfl ?_
        refine k_iconst (v := nI 0) C dX7_both_37 rfl ?_
        refine k_iconst (v := nI 0) C dX7_both_38 rfl ?_
        refine k_pc (pc' := 39) (st' := [.int (nI 0), .int (nI 0), .int (nI 0), .int z, .int y, .int (nI (1 + tn x)), .int (nI 1), .ref m]) rfl (by rw [← nI_add, blw_tn b7]) ?_
        by_cases hn30 : nn = 30
        · skip
          refine k_callV_pi C mv_7_91 (c_makeF  h_m h_wm hn30) h_m rfl rfl (by simp [Value.category]) ⟨Nat.le_of_ble_eq_true rfl, Nat.le_of_ble_eq_true rfl⟩ ⟨(by decide), (by decide)⟩ dX7_both_39 ?_
          exact k_iret C zr zlk (Or.inr ⟨by simp_all, rfl, rfl⟩) (Nat.le_refl _) (Nat.le_refl _) dX7_both_42
        · skip
          refine k_callV_pi C mv_7_91 (c_make1  h_m h_wm (by omega)) h_m rfl rfl (by simp [Value.category]) ⟨Nat.le_of_ble_eq_true rfl, Nat.le_of_ble_eq_true rfl⟩ ⟨(by decide), (by decide)⟩ dX7_both_39 ?_
          exact k_iret C zr zlk (Or.inl ⟨by simp_all, rfl, rfl⟩) (Nat.le_refl _) (Nat.le_refl _) dX7_both_42
set_option maxHeartbeats 4000000 in
set_option maxRecDepth 100000 in
theorem c_X7_left {zl : Launch} {D : va_G} {cI cN cR : ClassId} {base : Nat} {V : gv_V} {m wt wa wv wm wr wc wn ws wk wp nt ne nn sh : Nat} {kn : Int32} {fm : Nat → Int32} {y z w : Int32}  (h_m : V m = some (.inr (7, [.int (nI nt), .ref wt, .int (nI ne), .ref wa, .ref wv, .int (nI nn), .ref wm, .int kn, .ref wr, .ref wc, .ref wn, .int (nI sh), .ref ws, .ref wk, .ref wp]))) (h_wm : V wm = some (.inl (cI, 180, .inl fm))) (hnn : nn ≤ 30) : ct zl D [(cI, .int), (cN, .object "AlgebraTree$Node"), (cR, .object "AlgebraTree$Rows")] base yX7_left cX7_left 4 (some .int) 2 0 0 [.ref m, .int y, .int z, .int w] V (fun zv zV => (((!decide (nn = 30) && blw y (nI nn)) && blw z (nI nn) && (w == -1 || blw w (nI ne))) = true ∧ zv = some (.int (nI nn)) ∧ zV = gv_up (gv_up V wm (.inl (cI, 180, .inl (upd (upd (upd (upd (upd (upd fm (6 * nn) (nI 4)) (6 * nn + 1) y) (6 * nn + 2) z) (6 * nn + 3) w) (6 * nn + 4) (nI 0)) (6 * nn + 5) (nI 0))))) m (.inr (7, [.int (nI nt), .ref wt, .int (nI ne), .ref wa, .ref wv, .int (nI (nn + 1)), .ref wm, .int (nI 0), .ref wr, .ref wc, .ref wn, .int (nI sh), .ref ws, .ref wk, .ref wp]))) ∨ (((!decide (nn = 30) && blw y (nI nn)) && blw z (nI nn) && (w == -1 || blw w (nI ne))) = false ∧ zv = some (.int (-1 : Int32)) ∧ zV = V)) := by
  refine ct_of "AlgebraTreeModel" rfl (by decide) (Nat.le_of_ble_eq_true rfl) ?_
  intro zp ze zs zm zargs zbelow zmeth zc C zr zlk znm
  refine k_pc (pc' := 0) (st' := []) rfl rfl ?_
  show K zp zl ze (gv_rm 2 0 0) zs zm zargs zbelow zmeth zc D base 4 (gv_E D [(cI, .int), (cN, .object "AlgebraTree$Node"), (cR, .object "AlgebraTree$Rows")] base zbelow zargs zs 0 0 (fun zv zV => (((!decide (nn = 30) && blw y (nI nn)) && blw z (nI nn) && (w == -1 || blw w (nI ne))) = true ∧ zv = some (.int (nI nn)) ∧ zV = gv_up (gv_up V wm (.inl (cI, 180, .inl (upd (upd (upd (upd (upd (upd fm (6 * nn) (nI 4)) (6 * nn + 1) y) (6 * nn + 2) z) (6 * nn + 3) w) (6 * nn + 4) (nI 0)) (6 * nn + 5) (nI 0))))) m (.inr (7, [.int (nI nt), .ref wt, .int (nI ne), .ref wa, .ref wv, .int (nI (nn + 1)), .ref wm, .int (nI 0), .ref wr, .ref wc, .ref wn, .int (nI sh), .ref ws, .ref wk, .ref wp]))) ∨ (((!decide (nn = 30) && blw y (nI nn)) && blw z (nI nn) && (w == -1 || blw w (nI ne))) = false ∧ zv = some (.int (-1 : Int32)) ∧ zV = V))) V 0 0 [(0, .ref m), (1, .int y), (2, .int z), (3, .int w)] 0 []
  refine k_aload_n C dX7_left_0 rfl 0 rfl ?_
  refine k_aload_n C dX7_left_1 rfl 0 rfl ?_
  refine k_iload_n C dX7_left_2 rfl 1 rfl ?_
  refine k_callV_pi C mv_7_95 (c_X7_isNode  h_m ) h_m rfl rfl (by simp [Value.category]) ⟨Nat.le_of_ble_eq_true rfl, Nat.le_of_ble_eq_true rfl⟩ ⟨(by decide), (by decide)⟩ dX7_left_3 ?_
  refine k_if_eq (tgt := 34) C dX7_left_6 (by decide) (fun c6 => ?_) (fun c6 => ?_)
  · skip
    have b6 : (blw y (nI nn)) = false := bI_0.mp c6
    refine k_iconst (v := nI 0) C dX7_left_34 rfl ?_
    refine k_iconst (v := nI 4) C dX7_left_35 rfl ?_
    refine k_iload_n C dX7_left_36 rfl 1 rfl ?_
    refine k_iload_n C dX7_left_37 rfl 2 rfl ?_
    refine k_iload_n C dX7_left_38 rfl 3 rfl ?_
    refine k_iconst (v := nI 0) C dX7_left_39 rfl ?_
    refine k_iconst (v := nI 0) C dX7_left_40 rfl ?_
    by_cases hn30 : nn = 30
    · skip
      refine k_callV_pi C mv_7_91 (c_make0  h_m h_wm ) h_m rfl rfl (by simp [Value.category]) ⟨Nat.le_of_ble_eq_true rfl, Nat.le_of_ble_eq_true rfl⟩ ⟨(by decide), (by decide)⟩ dX7_left_41 ?_
      exact k_iret C zr zlk (Or.inr ⟨by simp_all, rfl, rfl⟩) (Nat.le_refl _) (Nat.le_refl _) dX7_left_44
    · skip
      refine k_callV_pi C mv_7_91 (c_make0  h_m h_wm ) h_m rfl rfl (by simp [Value.category]) ⟨Nat.le_of_ble_eq_true rfl, Nat.le_of_ble_eq_true rfl⟩ ⟨(by decide), (by decide)⟩ dX7_left_41 ?_
      exact k_iret C zr zlk (Or.inr ⟨by simp_all, rfl, rfl⟩) (Nat.le_refl _) (Nat.le_refl _) dX7_left_44
  · skip
    have b6 : (blw y (nI nn)) = true := bI_n.mp c6
    refine k_aload_n C dX7_left_9 rfl 0 rfl ?_
    refine k_iload_n C dX7_left_10 rfl 2 rfl ?_
    refine k_callV_pi C mv_7_95 (c_X7_isNode  h_m ) h_m rfl rfl (by simp [Value.category]) ⟨Nat.le_of_ble_eq_true rfl, Nat.le_of_ble_eq_true rfl⟩ ⟨(by decide), (by decide)⟩ dX7_left_11 ?_
    refine k_if_eq (tgt := 34) C dX7_left_14 (by decide) (fun c14 => ?_) (fun c14 => ?_)
    · skip
      have b14 : (blw z (nI nn)) = false := bI_0.mp c14
      refine k_iconst (v := nI 0) C dX7_left_34 rfl ?_
      refine k_iconst (v := nI 4) C dX7_left_35 rfl ?_
      refine k_iload_n C dX7_left_36 rfl 1 rfl ?_
      refine k_iload_n C dX7_left_37 rfl 2 rfl ?_
      refine k_iload_n C dX7_left_38 rfl 3 rfl ?_
      refine k_iconst (v := nI 0) C dX7_left_39 rfl ?_
      refine k_iconst (v := nI 0) C dX7_left_40 rfl ?_
      by_cases hn30 : nn = 30
      · skip
        refine k_callV_pi C mv_7_91 (c_make0  h_m h_wm ) h_m rfl rfl (by simp [Value.category]) ⟨Nat.le_of_ble_eq_true rfl, Nat.le_of_ble_eq_true rfl⟩ ⟨(by decide), (by decide)⟩ dX7_left_41 ?_
        exact k_iret C zr zlk (Or.inr ⟨by simp_all, rfl, rfl⟩) (Nat.le_refl _) (Nat.le_refl _) dX7_left_44
      · skip
        refine k_callV_pi C mv_7_91 (c_make0  h_m h_wm ) h_m rfl rfl (by simp [Value.category]) ⟨Nat.le_of_ble_eq_true rfl, Nat.le_of_ble_eq_true rfl⟩ ⟨(by decide), (by decide)⟩ dX7_left_41 ?_
        exact k_iret C zr zlk (Or.inr ⟨by simp_all, rfl, rfl⟩) (Nat.le_refl _) (Nat.le_refl _) dX7_left_44
    · skip
      have b14 : (blw z (nI nn)) = true := bI_n.mp c14
      refine k_iload_n C dX7_left_17 rfl 3 rfl ?_
      refine k_iconst (v := (-1 : Int32)) C dX7_left_18 (by decide) ?_
      refine k_icmp_eq (tgt := 30) C dX7_left_19 (by decide) (fun c19 => ?_) (fun c19 => ?_)
      · skip
        refine k_iconst (v := nI 1) C dX7_left_30 rfl ?_
        refine k_goto (tgt := 35) C dX7_left_31 (by decide) ?_
        refine k_iconst (v := nI 4) C dX7_left_35 rfl ?_
        refine k_iload_n C dX7_left_36 rfl 1 rfl ?_
        refine k_iload_n C dX7_left_37 rfl 2 rfl ?_
        refine k_iload_n C dX7_left_38 rfl 3 rfl ?_
        refine k_iconst (v := nI 0) C dX7_left_39 rfl ?_
        refine k_iconst (v := nI 0) C dX7_left_40 rfl ?_
        by_cases hn30 : nn = 30
        · skip
          refine k_callV_pi C mv_7_91 (c_makeF  h_m h_wm hn30) h_m rfl rfl (by simp [Value.category]) ⟨Nat.le_of_ble_eq_true rfl, Nat.le_of_ble_eq_true rfl⟩ ⟨(by decide), (by decide)⟩ dX7_left_41 ?_
          exact k_iret C zr zlk (Or.inr ⟨by simp_all, rfl, rfl⟩) (Nat.le_refl _) (Nat.le_refl _) dX7_left_44
        · skip
          refine k_callV_pi C mv_7_91 (c_make1  h_m h_wm (by omega)) h_m rfl rfl (by simp [Value.category]) ⟨Nat.le_of_ble_eq_true rfl, Nat.le_of_ble_eq_true rfl⟩ ⟨(by decide), (by decide)⟩ dX7_left_41 ?_
          exact k_iret C zr zlk (Or.inl ⟨by simp_all, rfl, rfl⟩) (Nat.le_refl _) (Nat.le_refl _) dX7_left_44
      · skip
        refine k_aload_n C dX7_left_22 rfl 0 rfl ?_
        refine k_iload_n C dX7_left_23 rfl 3 rfl ?_
        refine k_callV_pi C mv_7_66 (c_X7_isExpression  h_m ) h_m rfl rfl (by simp [Value.category]) ⟨Nat.le_of_ble_eq_true rfl, Nat.le_of_ble_eq_true rfl⟩ ⟨(by decide), (by decide)⟩ dX7_left_24 ?_
        refine k_if_eq (tgt := 34) C dX7_left_27 (by decide) (fun c27 => ?_) (fun c27 => ?_)
        · skip
          have b27 : (blw w (nI ne)) = false := bI_0.mp c27
          refine k_iconst (v := nI 0) C dX7_left_34 rfl ?_
          refine k_iconst (v := nI 4) C dX7_left_35 rfl ?_
          refine k_iload_n C dX7_left_36 rfl 1 rfl ?_
          refine k_iload_n C dX7_left_37 rfl 2 rfl ?_
          refine k_iload_n C dX7_left_38 rfl 3 rfl ?_
          refine k_iconst (v := nI 0) C dX7_left_39 rfl ?_
          refine k_iconst (v := nI 0) C dX7_left_40 rfl ?_
          by_cases hn30 : nn = 30
          · skip
            refine k_callV_pi C mv_7_91 (c_make0  h_m h_wm ) h_m rfl rfl (by simp [Value.category]) ⟨Nat.le_of_ble_eq_true rfl, Nat.le_of_ble_eq_true rfl⟩ ⟨(by decide), (by decide)⟩ dX7_left_41 ?_
            exact k_iret C zr zlk (Or.inr ⟨by simp_all, rfl, rfl⟩) (Nat.le_refl _) (Nat.le_refl _) dX7_left_44
          · skip
            refine k_callV_pi C mv_7_91 (c_make0  h_m h_wm ) h_m rfl rfl (by simp [Value.category]) ⟨Nat.le_of_ble_eq_true rfl, Nat.le_of_ble_eq_true rfl⟩ ⟨(by decide), (by decide)⟩ dX7_left_41 ?_
            exact k_iret C zr zlk (Or.inr ⟨by simp_all, rfl, rfl⟩) (Nat.le_refl _) (Nat.le_refl _) dX7_left_44
        · skip
          have b27 : (blw w (nI ne)) = true := bI_n.mp c27
          refine k_iconst (v := nI 1) C dX7_left_30 rfl ?_
          refine k_goto (tgt := 35) C dX7_left_31 (by decide) ?_
          refine k_iconst (v := nI 4) C dX7_left_35 rfl ?_
          refine k_iload_n C dX7_left_36 rfl 1 rfl ?_
          refine k_iload_n C dX7_left_37 rfl 2 rfl ?_
          refine k_iload_n C dX7_left_38 rfl 3 rfl ?_
          refine k_iconst (v := nI 0) C dX7_left_39 rfl ?_
          refine k_iconst (v := nI 0) C dX7_left_40 rfl ?_
          by_cases hn30 : nn = 30
          · skip
            refine k_callV_pi C mv_7_91 (c_makeF  h_m h_wm hn30) h_m rfl rfl (by simp [Value.category]) ⟨Nat.le_of_ble_eq_true rfl, Nat.le_of_ble_eq_true rfl⟩ ⟨(by decide), (by decide)⟩ dX7_left_41 ?_
            exact k_iret C zr zlk (Or.inr ⟨by simp_all, rfl, rfl⟩) (Nat.le_refl _) (Nat.le_refl _) dX7_left_44
          · skip
            refine k_callV_pi C mv_7_91 (c_make1  h_m h_wm (by omega)) h_m rfl rfl (by simp [Value.category]) ⟨Nat.le_of_ble_eq_true rfl, Nat.le_of_ble_eq_true rfl⟩ ⟨(by decide), (by decide)⟩ dX7_left_41 ?_
            exact k_iret C zr zlk (Or.inl ⟨by simp_all, rfl, rfl⟩) (Nat.le_refl _) (Nat.le_refl _) dX7_left_44
set_option maxHeartbeats 4000000 in
set_option maxRecDepth 100000 in
theorem c_X7_filter {zl : Launch} {D : va_G} {cI cN cR : ClassId} {base : Nat} {V : gv_V} {m wt wa wv wm wr wc wn ws wk wp nt ne nn sh : Nat} {kn : Int32} {fm : Nat → Int32} {y w : Int32}  (h_m : V m = some (.inr (7, [.int (nI nt), .ref wt, .int (nI ne), .ref wa, .ref wv, .int (nI nn), .ref wm, .int kn, .ref wr, .ref wc, .ref wn, .int (nI sh), .ref ws, .ref wk, .ref wp]))) (h_wm : V wm = some (.inl (cI, 180, .inl fm))) (hnn : nn ≤ 30) : ct zl D [(cI, .int), (cN, .object "AlgebraTree$Node"), (cR, .object "AlgebraTree$Rows")] base yX7_filter cX7_filter 3 (some .int) 2 0 0 [.ref m, .int y, .int w] V (fun zv zV => (((!decide (nn = 30) && blw y (nI nn)) && blw w (nI ne)) = true ∧ zv = some (.int (nI nn)) ∧ zV = gv_up (gv_up V wm (.inl (cI, 180, .inl (upd (upd (upd (upd (upd (upd fm (6 * nn) (nI 5)) (6 * nn + 1) y) (6 * nn + 2) w) (6 * nn + 3) (nI 0)) (6 * nn + 4) (nI 0)) (6 * nn + 5) (nI 0))))) m (.inr (7, [.int (nI nt), .ref wt, .int (nI ne), .ref wa, .ref wv, .int (nI (nn + 1)), .ref wm, .int (nI 0), .ref wr, .ref wc, .ref wn, .int (nI sh), .ref ws, .ref wk, .ref wp]))) ∨ (((!decide (nn = 30) && blw y (nI nn)) && blw w (nI ne)) = false ∧ zv = some (.int (-1 : Int32)) ∧ zV = V)) := by
  refine ct_of "AlgebraTreeModel" rfl (by decide) (Nat.le_of_ble_eq_true rfl) ?_
  intro zp ze zs zm zargs zbelow zmeth zc C zr zlk znm
  refine k_pc (pc' := 0) (st' := []) rfl rfl ?_
  show K zp zl ze (gv_rm 2 0 0) zs zm zargs zbelow zmeth zc D base 3 (gv_E D [(cI, .int), (cN, .object "AlgebraTree$Node"), (cR, .object "AlgebraTree$Rows")] base zbelow zargs zs 0 0 (fun zv zV => (((!decide (nn = 30) && blw y (nI nn)) && blw w (nI ne)) = true ∧ zv = some (.int (nI nn)) ∧ zV = gv_up (gv_up V wm (.inl (cI, 180, .inl (upd (upd (upd (upd (upd (upd fm (6 * nn) (nI 5)) (6 * nn + 1) y) (6 * nn + 2) w) (6 * nn + 3) (nI 0)) (6 * nn + 4) (nI 0)) (6 * nn + 5) (nI 0))))) m (.inr (7, [.int (nI nt), .ref wt, .int (nI ne), .ref wa, .ref wv, .int (nI (nn + 1)), .ref wm, .int (nI 0), .ref wr, .ref wc, .ref wn, .int (nI sh), .ref ws, .ref wk, .ref wp]))) ∨ (((!decide (nn = 30) && blw y (nI nn)) && blw w (nI ne)) = false ∧ zv = some (.int (-1 : Int32)) ∧ zV = V))) V 0 0 [(0, .ref m), (1, .int y), (2, .int w)] 0 []
  refine k_aload_n C dX7_filter_0 rfl 0 rfl ?_
  refine k_aload_n C dX7_filter_1 rfl 0 rfl ?_
  refine k_iload_n C dX7_filter_2 rfl 1 rfl ?_
  refine k_callV_pi C mv_7_95 (c_X7_isNode  h_m ) h_m rfl rfl (by simp [Value.category]) ⟨Nat.le_of_ble_eq_true rfl, Nat.le_of_ble_eq_true rfl⟩ ⟨(by decide), (by decide)⟩ dX7_filter_3 ?_
  refine k_if_eq (tgt := 21) C dX7_filter_6 (by decide) (fun c6 => ?_) (fun c6 => ?_)
  · skip
    have b6 : (blw y (nI nn)) = false := bI_0.mp c6
    refine k_iconst (v := nI 0) C dX7_filter_21 rfl ?_
    refine k_iconst (v := nI 5) C dX7_filter_22 rfl ?_
    refine k_iload_n C dX7_filter_23 rfl 1 rfl ?_
    refine k_iload_n C dX7_filter_24 rfl 2 rfl ?_
    refine k_iconst (v := nI 0) C dX7_filter_25 rfl ?_
    refine k_iconst (v := nI 0) C dX7_filter_26 rfl ?_
    refine k_iconst (v := nI 0) C dX7_filter_27 rfl ?_
    by_cases hn30 : nn = 30
    · skip
      refine k_callV_pi C mv_7_91 (c_make0  h_m h_wm ) h_m rfl rfl (by simp [Value.category]) ⟨Nat.le_of_ble_eq_true rfl, Nat.le_of_ble_eq_true rfl⟩ ⟨(by decide), (by decide)⟩ dX7_filter_28 ?_
      exact k_iret C zr zlk (Or.inr ⟨by simp_all, rfl, rfl⟩) (Nat.le_refl _) (Nat.le_refl _) dX7_filter_31
    · skip
      refine k_callV_pi C mv_7_91 (c_make0  h_m h_wm ) h_m rfl rfl (by simp [Value.category]) ⟨Nat.le_of_ble_eq_true rfl, Nat.le_of_ble_eq_true rfl⟩ ⟨(by decide), (by decide)⟩ dX7_filter_28 ?_
      exact k_iret C zr zlk (Or.inr ⟨by simp_all, rfl, rfl⟩) (Nat.le_refl _) (Nat.le_refl _) dX7_filter_31
  · skip
    have b6 : (blw y (nI nn)) = true := bI_n.mp c6
    refine k_aload_n C dX7_filter_9 rfl 0 rfl ?_
    refine k_iload_n C dX7_filter_10 rfl 2 rfl ?_
    refine k_callV_pi C mv_7_66 (c_X7_isExpression  h_m ) h_m rfl rfl (by simp [Value.category]) ⟨Nat.le_of_ble_eq_true rfl, Nat.le_of_ble_eq_true rfl⟩ ⟨(by decide), (by decide)⟩ dX7_filter_11 ?_
    refine k_if_eq (tgt := 21) C dX7_filter_14 (by decide) (fun c14 => ?_) (fun c14 => ?_)
    · skip
      have b14 : (blw w (nI ne)) = false := bI_0.mp c14
      refine k_iconst (v := nI 0) C dX7_filter_21 rfl ?_
      refine k_iconst (v := nI 5) C dX7_filter_22 rfl ?_
      refine k_iload_n C dX7_filter_23 rfl 1 rfl ?_
      refine k_iload_n C dX7_filter_24 rfl 2 rfl ?_
      refine k_iconst (v := nI 0) C dX7_filter_25 rfl ?_
      refine k_iconst (v := nI 0) C dX7_filter_26 rfl ?_
      refine k_iconst (v := nI 0) C dX7_filter_27 rfl ?_
      by_cases hn30 : nn = 30
      · skip
        refine k_callV_pi C mv_7_91 (c_make0  h_m h_wm ) h_m rfl rfl (by simp [Value.category]) ⟨Nat.le_of_ble_eq_true rfl, Nat.le_of_ble_eq_true rfl⟩ ⟨(by decide), (by decide)⟩ dX7_filter_28 ?_
        exact k_iret C zr zlk (Or.inr ⟨by simp_all, rfl, rfl⟩) (Nat.le_refl _) (Nat.le_refl _) dX7_filter_31
      · skip
        refine k_callV_pi C mv_7_91 (c_make0  h_m h_wm ) h_m rfl rfl (by simp [Value.category]) ⟨Nat.le_of_ble_eq_true rfl, Nat.le_of_ble_eq_true rfl⟩ ⟨(by decide), (by decide)⟩ dX7_filter_28 ?_
        exact k_iret C zr zlk (Or.inr ⟨by simp_all, rfl, rfl⟩) (Nat.le_refl _) (Nat.le_refl _) dX7_filter_31
    · skip
      have b14 : (blw w (nI ne)) = true := bI_n.mp c14
      refine k_iconst (v := nI 1) C dX7_filter_17 rfl ?_
      refine k_goto (tgt := 22) C dX7_filter_18 (by decide) ?_
      refine k_iconst (v := nI 5) C dX7_filter_22 rfl ?_
      refine k_iload_n C dX7_filter_23 rfl 1 rfl ?_
      refine k_iload_n C dX7_filter_24 rfl 2 rfl ?_
      refine k_iconst (v := nI 0) C dX7_filter_25 rfl ?_
      refine k_iconst (v := nI 0) C dX7_filter_26 rfl ?_
      refine k_iconst (v := nI 0) C dX7_filter_27 rfl ?_
      by_cases hn30 : nn = 30
      · skip
        refine k_callV_pi C mv_7_91 (c_makeF  h_m h_wm hn30) h_m rfl rfl (by simp [Value.category]) ⟨Nat.le_of_ble_eq_true rfl, Nat.le_of_ble_eq_true rfl⟩ ⟨(by decide), (by decide)⟩ dX7_filter_28 ?_
        exact k_iret C zr zlk (Or.inr ⟨by simp_all, rfl, rfl⟩) (Nat.le_refl _) (Nat.le_refl _) dX7_filter_31
      · skip
        refine k_callV_pi C mv_7_91 (c_make1  h_m h_wm (by omega)) h_m rfl rfl (by simp [Value.category]) ⟨Nat.le_of_ble_eq_true rfl, Nat.le_of_ble_eq_true rfl⟩ ⟨(by decide), (by decide)⟩ dX7_filter_28 ?_
        exact k_iret C zr zlk (Or.inl ⟨by simp_all, rfl, rfl⟩) (Nat.le_refl _) (Nat.le_refl _) dX7_filter_31
set_option maxHeartbeats 4000000 in
set_option maxRecDepth 100000 in
theorem c_X7_extend {zl : Launch} {D : va_G} {cI cN cR : ClassId} {base : Nat} {V : gv_V} {m wt wa wv wm wr wc wn ws wk wp nt ne nn sh : Nat} {kn : Int32} {fm : Nat → Int32} {y x w : Int32}  (h_m : V m = some (.inr (7, [.int (nI nt), .ref wt, .int (nI ne), .ref wa, .ref wv, .int (nI nn), .ref wm, .int kn, .ref wr, .ref wc, .ref wn, .int (nI sh), .ref ws, .ref wk, .ref wp]))) (h_wm : V wm = some (.inl (cI, 180, .inl fm))) (hnn : nn ≤ 30) : ct zl D [(cI, .int), (cN, .object "AlgebraTree$Node"), (cR, .object "AlgebraTree$Rows")] base yX7_extend cX7_extend 4 (some .int) 2 0 0 [.ref m, .int y, .int x, .int w] V (fun zv zV => (((!decide (nn = 30) && blw y (nI nn)) && blw x (nI 6) && blw w (nI ne)) = true ∧ zv = some (.int (nI nn)) ∧ zV = gv_up (gv_up V wm (.inl (cI, 180, .inl (upd (upd (upd (upd (upd (upd fm (6 * nn) (nI 6)) (6 * nn + 1) y) (6 * nn + 2) x) (6 * nn + 3) w) (6 * nn + 4) (nI 0)) (6 * nn + 5) (nI 0))))) m (.inr (7, [.int (nI nt), .ref wt, .int (nI ne), .ref wa, .ref wv, .int (nI (nn + 1)), .ref wm, .int (nI 0), .ref wr, .ref wc, .ref wn, .int (nI sh), .ref ws, .ref wk, .ref wp]))) ∨ (((!decide (nn = 30) && blw y (nI nn)) && blw x (nI 6) && blw w (nI ne)) = false ∧ zv = some (.int (-1 : Int32)) ∧ zV = V)) := by
  refine ct_of "AlgebraTreeModel" rfl (by decide) (Nat.le_of_ble_eq_true rfl) ?_
  intro zp ze zs zm zargs zbelow zmeth zc C zr zlk znm
  refine k_pc (pc' := 0) (st' := []) rfl rfl ?_
  show K zp zl ze (gv_rm 2 0 0) zs zm zargs zbelow zmeth zc D base 4 (gv_E D [(cI, .int), (cN, .object "AlgebraTree$Node"), (cR, .object "AlgebraTree$Rows")] base zbelow zargs zs 0 0 (fun zv zV => (((!decide (nn = 30) && blw y (nI nn)) && blw x (nI 6) && blw w (nI ne)) = true ∧ zv = some (.int (nI nn)) ∧ zV = gv_up (gv_up V wm (.inl (cI, 180, .inl (upd (upd (upd (upd (upd (upd fm (6 * nn) (nI 6)) (6 * nn + 1) y) (6 * nn + 2) x) (6 * nn + 3) w) (6 * nn + 4) (nI 0)) (6 * nn + 5) (nI 0))))) m (.inr (7, [.int (nI nt), .ref wt, .int (nI ne), .ref wa, .ref wv, .int (nI (nn + 1)), .ref wm, .int (nI 0), .ref wr, .ref wc, .ref wn, .int (nI sh), .ref ws, .ref wk, .ref wp]))) ∨ (((!decide (nn = 30) && blw y (nI nn)) && blw x (nI 6) && blw w (nI ne)) = false ∧ zv = some (.int (-1 : Int32)) ∧ zV = V))) V 0 0 [(0, .ref m), (1, .int y), (2, .int x), (3, .int w)] 0 []
  refine k_aload_n C dX7_extend_0 rfl 0 rfl ?_
  refine k_aload_n C dX7_extend_1 rfl 0 rfl ?_
  refine k_iload_n C dX7_extend_2 rfl 1 rfl ?_
  refine k_callV_pi C mv_7_95 (c_X7_isNode  h_m ) h_m rfl rfl (by simp [Value.category]) ⟨Nat.le_of_ble_eq_true rfl, Nat.le_of_ble_eq_true rfl⟩ ⟨(by decide), (by decide)⟩ dX7_extend_3 ?_
  refine k_if_eq (tgt := 28) C dX7_extend_6 (by decide) (fun c6 => ?_) (fun c6 => ?_)
  · skip
    have b6 : (blw y (nI nn)) = false := bI_0.mp c6
    refine k_iconst (v := nI 0) C dX7_extend_28 rfl ?_
    refine k_bipush (v := nI 6) C dX7_extend_29 rfl ?_
    refine k_iload_n C dX7_extend_31 rfl 1 rfl ?_
    refine k_iload_n C dX7_extend_32 rfl 2 rfl ?_
    refine k_iload_n C dX7_extend_33 rfl 3 rfl ?_
    refine k_iconst (v := nI 0) C dX7_extend_34 rfl ?_
    refine k_iconst (v := nI 0) C dX7_extend_35 rfl ?_
    by_cases hn30 : nn = 30
    · skip
      refine k_callV_pi C mv_7_91 (c_make0  h_m h_wm ) h_m rfl rfl (by simp [Value.category]) ⟨Nat.le_of_ble_eq_true rfl, Nat.le_of_ble_eq_true rfl⟩ ⟨(by decide), (by decide)⟩ dX7_extend_36 ?_
      exact k_iret C zr zlk (Or.inr ⟨by simp_all, rfl, rfl⟩) (Nat.le_refl _) (Nat.le_refl _) dX7_extend_39
    · skip
      refine k_callV_pi C mv_7_91 (c_make0  h_m h_wm ) h_m rfl rfl (by simp [Value.category]) ⟨Nat.le_of_ble_eq_true rfl, Nat.le_of_ble_eq_true rfl⟩ ⟨(by decide), (by decide)⟩ dX7_extend_36 ?_
      exact k_iret C zr zlk (Or.inr ⟨by simp_all, rfl, rfl⟩) (Nat.le_refl _) (Nat.le_refl _) dX7_extend_39
  · skip
    have b6 : (blw y (nI nn)) = true := bI_n.mp c6
    refine k_iload_n C dX7_extend_9 rfl 2 rfl ?_
    refine k_callS_pi C ms_7_58 (c_X7_isVariable   ) rfl rfl (by simp [Value.category]) ⟨Nat.le_of_ble_eq_true rfl, Nat.le_of_ble_eq_true rfl⟩ ⟨(by decide), (by decide)⟩ dX7_extend_10 ?_
    refine k_if_eq (tgt := 28) C dX7_extend_13 (by decide) (fun c13 => ?_) (fun c13 => ?_)
    · skip
      have b13 : (blw x (nI 6)) = false := bI_0.mp c13
      refine k_iconst (v := nI 0) C dX7_extend_28 rfl ?_
      refine k_bipush (v := nI 6) C dX7_extend_29 rfl ?_
      refine k_iload_n C dX7_extend_31 rfl 1 rfl ?_
      refine k_iload_n C dX7_extend_32 rfl 2 rfl ?_
      refine k_iload_n C dX7_extend_33 rfl 3 rfl ?_
      refine k_iconst (v := nI 0) C dX7_extend_34 rfl ?_
      refine k_iconst (v := nI 0) C dX7_extend_35 rfl ?_
      by_cases hn30 : nn = 30
      · skip
        refine k_callV_pi C mv_7_91 (c_make0  h_m h_wm ) h_m rfl rfl (by simp [Value.category]) ⟨Nat.le_of_ble_eq_true rfl, Nat.le_of_ble_eq_true rfl⟩ ⟨(by decide), (by decide)⟩ dX7_extend_36 ?_
        exact k_iret C zr zlk (Or.inr ⟨by simp_all, rfl, rfl⟩) (Nat.le_refl _) (Nat.le_refl _) dX7_extend_39
      · skip
        refine k_callV_pi C mv_7_91 (c_make0  h_m h_wm ) h_m rfl rfl (by simp [Value.category]) ⟨Nat.le_of_ble_eq_true rfl, Nat.le_of_ble_eq_true rfl⟩ ⟨(by decide), (by decide)⟩ dX7_extend_36 ?_
        exact k_iret C zr zlk (Or.inr ⟨by simp_all, rfl, rfl⟩) (Nat.le_refl _) (Nat.le_refl _) dX7_extend_39
    · skip
      have b13 : (blw x (nI 6)) = true := bI_n.mp c13
      refine k_aload_n C dX7_extend_16 rfl 0 rfl ?_
      refine k_iload_n C dX7_extend_17 rfl 3 rfl ?_
      refine k_callV_pi C mv_7_66 (c_X7_isExpression  h_m ) h_m rfl rfl (by simp [Value.category]) ⟨Nat.le_of_ble_eq_true rfl, Nat.le_of_ble_eq_true rfl⟩ ⟨(by decide), (by decide)⟩ dX7_extend_18 ?_
      refine k_if_eq (tgt := 28) C dX7_extend_21 (by decide) (fun c21 => ?_) (fun c21 => ?_)
      · skip
        have b21 : (blw w (nI ne)) = false := bI_0.mp c21
        refine k_iconst (v := nI 0) C dX7_extend_28 rfl ?_
        refine k_bipush (v := nI 6) C dX7_extend_29 rfl ?_
        refine k_iload_n C dX7_extend_31 rfl 1 rfl ?_
        refine k_iload_n C dX7_extend_32 rfl 2 rfl ?_
        refine k_iload_n C dX7_extend_33 rfl 3 rfl ?_
        refine k_iconst (v := nI 0) C dX7_extend_34 rfl ?_
        refine k_iconst (v := nI 0) C dX7_extend_35 rfl ?_
        by_cases hn30 : nn = 30
        · skip
          refine k_callV_pi C mv_7_91 (c_make0  h_m h_wm ) h_m rfl rfl (by simp [Value.category]) ⟨Nat.le_of_ble_eq_true rfl, Nat.le_of_ble_eq_true rfl⟩ ⟨(by decide), (by decide)⟩ dX7_extend_36 ?_
          exact k_iret C zr zlk (Or.inr ⟨by simp_all, rfl, rfl⟩) (Nat.le_refl _) (Nat.le_refl _) dX7_extend_39
        · skip
          refine k_callV_pi C mv_7_91 (c_make0  h_m h_wm ) h_m rfl rfl (by simp [Value.category]) ⟨Nat.le_of_ble_eq_true rfl, Nat.le_of_ble_eq_true rfl⟩ ⟨(by decide), (by decide)⟩ dX7_extend_36 ?_
          exact k_iret C zr zlk (Or.inr ⟨by simp_all, rfl, rfl⟩) (Nat.le_refl _) (Nat.le_refl _) dX7_extend_39
      · skip
        have b21 : (blw w (nI ne)) = true := bI_n.mp c21
        refine k_iconst (v := nI 1) C dX7_extend_24 rfl ?_
        refine k_goto (tgt := 29) C dX7_extend_25 (by decide) ?_
        refine k_bipush (v := nI 6) C dX7_extend_29 rfl ?_
        refine k_iload_n C dX7_extend_31 rfl 1 rfl ?_
        refine k_iload_n C dX7_extend_32 rfl 2 rfl ?_
        refine k_iload_n C dX7_extend_33 rfl 3 rfl ?_
        refine k_iconst (v := nI 0) C dX7_extend_34 rfl ?_
        refine k_iconst (v := nI 0) C dX7_extend_35 rfl ?_
        by_cases hn30 : nn = 30
        · skip
          refine k_callV_pi C mv_7_91 (c_makeF  h_m h_wm hn30) h_m rfl rfl (by simp [Value.category]) ⟨Nat.le_of_ble_eq_true rfl, Nat.le_of_ble_eq_true rfl⟩ ⟨(by decide), (by decide)⟩ dX7_extend_36 ?_
          exact k_iret C zr zlk (Or.inr ⟨by simp_all, rfl, rfl⟩) (Nat.le_refl _) (Nat.le_refl _) dX7_extend_39
        · skip
          refine k_callV_pi C mv_7_91 (c_make1  h_m h_wm (by omega)) h_m rfl rfl (by simp [Value.category]) ⟨Nat.le_of_ble_eq_true rfl, Nat.le_of_ble_eq_true rfl⟩ ⟨(by decide), (by decide)⟩ dX7_extend_36 ?_
          exact k_iret C zr zlk (Or.inl ⟨by simp_all, rfl, rfl⟩) (Nat.le_refl _) (Nat.le_refl _) dX7_extend_39
set_option maxHeartbeats 4000000 in
set_option maxRecDepth 100000 in
theorem c_X7_project {zl : Launch} {D : va_G} {cI cN cR : ClassId} {base : Nat} {V : gv_V} {m wt wa wv wm wr wc wn ws wk wp nt ne nn sh : Nat} {kn : Int32} {fm : Nat → Int32} {y x : Int32}  (h_m : V m = some (.inr (7, [.int (nI nt), .ref wt, .int (nI ne), .ref wa, .ref wv, .int (nI nn), .ref wm, .int kn, .ref wr, .ref wc, .ref wn, .int (nI sh), .ref ws, .ref wk, .ref wp]))) (h_wm : V wm = some (.inl (cI, 180, .inl fm))) (hnn : nn ≤ 30) : ct zl D [(cI, .int), (cN, .object "AlgebraTree$Node"), (cR, .object "AlgebraTree$Rows")] base yX7_project cX7_project 3 (some .int) 2 0 0 [.ref m, .int y, .int x] V (fun zv zV => (((!decide (nn = 30) && blw y (nI nn)) && blw x (nI 64)) = true ∧ zv = some (.int (nI nn)) ∧ zV = gv_up (gv_up V wm (.inl (cI, 180, .inl (upd (upd (upd (upd (upd (upd fm (6 * nn) (nI 7)) (6 * nn + 1) y) (6 * nn + 2) x) (6 * nn + 3) (nI 0)) (6 * nn + 4) (nI 0)) (6 * nn + 5) (nI 0))))) m (.inr (7, [.int (nI nt), .ref wt, .int (nI ne), .ref wa, .ref wv, .int (nI (nn + 1)), .ref wm, .int (nI 0), .ref wr, .ref wc, .ref wn, .int (nI sh), .ref ws, .ref wk, .ref wp]))) ∨ (((!decide (nn = 30) && blw y (nI nn)) && blw x (nI 64)) = false ∧ zv = some (.int (-1 : Int32)) ∧ zV = V)) := by
  refine ct_of "AlgebraTreeModel" rfl (by decide) (Nat.le_of_ble_eq_true rfl) ?_
  intro zp ze zs zm zargs zbelow zmeth zc C zr zlk znm
  refine k_pc (pc' := 0) (st' := []) rfl rfl ?_
  show K zp zl ze (gv_rm 2 0 0) zs zm zargs zbelow zmeth zc D base 3 (gv_E D [(cI, .int), (cN, .object "AlgebraTree$Node"), (cR, .object "AlgebraTree$Rows")] base zbelow zargs zs 0 0 (fun zv zV => (((!decide (nn = 30) && blw y (nI nn)) && blw x (nI 64)) = true ∧ zv = some (.int (nI nn)) ∧ zV = gv_up (gv_up V wm (.inl (cI, 180, .inl (upd (upd (upd (upd (upd (upd fm (6 * nn) (nI 7)) (6 * nn + 1) y) (6 * nn + 2) x) (6 * nn + 3) (nI 0)) (6 * nn + 4) (nI 0)) (6 * nn + 5) (nI 0))))) m (.inr (7, [.int (nI nt), .ref wt, .int (nI ne), .ref wa, .ref wv, .int (nI (nn + 1)), .ref wm, .int (nI 0), .ref wr, .ref wc, .ref wn, .int (nI sh), .ref ws, .ref wk, .ref wp]))) ∨ (((!decide (nn = 30) && blw y (nI nn)) && blw x (nI 64)) = false ∧ zv = some (.int (-1 : Int32)) ∧ zV = V))) V 0 0 [(0, .ref m), (1, .int y), (2, .int x)] 0 []
  refine k_aload_n C dX7_project_0 rfl 0 rfl ?_
  refine k_aload_n C dX7_project_1 rfl 0 rfl ?_
  refine k_iload_n C dX7_project_2 rfl 1 rfl ?_
  refine k_callV_pi C mv_7_95 (c_X7_isNode  h_m ) h_m rfl rfl (by simp [Value.category]) ⟨Nat.le_of_ble_eq_true rfl, Nat.le_of_ble_eq_true rfl⟩ ⟨(by decide), (by decide)⟩ dX7_project_3 ?_
  refine k_if_eq (tgt := 23) C dX7_project_6 (by decide) (fun c6 => ?_) (fun c6 => ?_)
  · skip
    have b6 : (blw y (nI nn)) = false := bI_0.mp c6
    refine k_iconst (v := nI 0) C dX7_project_23 rfl ?_
    refine k_bipush (v := nI 7) C dX7_project_24 rfl ?_
    refine k_iload_n C dX7_project_26 rfl 1 rfl ?_
    refine k_iload_n C dX7_project_27 rfl 2 rfl ?_
    refine k_iconst (v := nI 0) C dX7_project_28 rfl ?_
    refine k_iconst (v := nI 0) C dX7_project_29 rfl ?_
    refine k_iconst (v := nI 0) C dX7_project_30 rfl ?_
    by_cases hn30 : nn = 30
    · skip
      refine k_callV_pi C mv_7_91 (c_make0  h_m h_wm ) h_m rfl rfl (by simp [Value.category]) ⟨Nat.le_of_ble_eq_true rfl, Nat.le_of_ble_eq_true rfl⟩ ⟨(by decide), (by decide)⟩ dX7_project_31 ?_
      exact k_iret C zr zlk (Or.inr ⟨by simp_all, rfl, rfl⟩) (Nat.le_refl _) (Nat.le_refl _) dX7_project_34
    · skip
      refine k_callV_pi C mv_7_91 (c_make0  h_m h_wm ) h_m rfl rfl (by simp [Value.category]) ⟨Nat.le_of_ble_eq_true rfl, Nat.le_of_ble_eq_true rfl⟩ ⟨(by decide), (by decide)⟩ dX7_project_31 ?_
      exact k_iret C zr zlk (Or.inr ⟨by simp_all, rfl, rfl⟩) (Nat.le_refl _) (Nat.le_refl _) dX7_project_34
  · skip
    have b6 : (blw y (nI nn)) = true := bI_n.mp c6
    refine k_iload_n C dX7_project_9 rfl 2 rfl ?_
    refine k_iconst (v := nI 0) C dX7_project_10 rfl ?_
    refine k_bipush (v := nI 63) C dX7_project_11 rfl ?_
    refine k_callS_pi C ms_7_45 (c_X7_within   ) rfl rfl (by simp [Value.category]) ⟨Nat.le_of_ble_eq_true rfl, Nat.le_of_ble_eq_true rfl⟩ ⟨(by decide), (by decide)⟩ dX7_project_13 ?_
    refine k_if_eq (tgt := 23) C dX7_project_16 (by decide) (fun c16 => ?_) (fun c16 => ?_)
    · skip
      have b16 : (wi x (nI 0) (nI 63)) = false := bI_0.mp c16
      first | rw [wi_b (by omega)] at b16 | rw [wi_s] at b16
      refine k_iconst (v := nI 0) C dX7_project_23 rfl ?_
      refine k_bipush (v := nI 7) C dX7_project_24 rfl ?_
      refine k_iload_n C dX7_project_26 rfl 1 rfl ?_
      refine k_iload_n C dX7_project_27 rfl 2 rfl ?_
      refine k_iconst (v := nI 0) C dX7_project_28 rfl ?_
      refine k_iconst (v := nI 0) C dX7_project_29 rfl ?_
      refine k_iconst (v := nI 0) C dX7_project_30 rfl ?_
      by_cases hn30 : nn = 30
      · skip
        refine k_callV_pi C mv_7_91 (c_make0  h_m h_wm ) h_m rfl rfl (by simp [Value.category]) ⟨Nat.le_of_ble_eq_true rfl, Nat.le_of_ble_eq_true rfl⟩ ⟨(by decide), (by decide)⟩ dX7_project_31 ?_
        exact k_iret C zr zlk (Or.inr ⟨by simp_all, rfl, rfl⟩) (Nat.le_refl _) (Nat.le_refl _) dX7_project_34
      · skip
        refine k_callV_pi C mv_7_91 (c_make0  h_m h_wm ) h_m rfl rfl (by simp [Value.category]) ⟨Nat.le_of_ble_eq_true rfl, Nat.le_of_ble_eq_true rfl⟩ ⟨(by decide), (by decide)⟩ dX7_project_31 ?_
        exact k_iret C zr zlk (Or.inr ⟨by simp_all, rfl, rfl⟩) (Nat.le_refl _) (Nat.le_refl _) dX7_project_34
    · skip
      have b16 : (wi x (nI 0) (nI 63)) = true := bI_n.mp c16
      first | rw [wi_b (by omega)] at b16 | rw [wi_s] at b16
      refine k_iconst (v := nI 1) C dX7_project_19 rfl ?_
      refine k_goto (tgt := 24) C dX7_project_20 (by decide) ?_
      refine k_bipush (v := nI 7) C dX7_project_24 rfl ?_
      refine k_iload_n C dX7_project_26 rfl 1 rfl ?_
      refine k_iload_n C dX7_project_27 rfl 2 rfl ?_
      refine k_iconst (v := nI 0) C dX7_project_28 rfl ?_
      refine k_iconst (v := nI 0) C dX7_project_29 rfl ?_
      refine k_iconst (v := nI 0) C dX7_project_30 rfl ?_
      by_cases hn30 : nn = 30
      · skip
        refine k_callV_pi C mv_7_91 (c_makeF  h_m h_wm hn30) h_m rfl rfl (by simp [Value.category]) ⟨Nat.le_of_ble_eq_true rfl, Nat.le_of_ble_eq_true rfl⟩ ⟨(by decide), (by decide)⟩ dX7_project_31 ?_
        exact k_iret C zr zlk (Or.inr ⟨by simp_all, rfl, rfl⟩) (Nat.le_refl _) (Nat.le_refl _) dX7_project_34
      · skip
        refine k_callV_pi C mv_7_91 (c_make1  h_m h_wm (by omega)) h_m rfl rfl (by simp [Value.category]) ⟨Nat.le_of_ble_eq_true rfl, Nat.le_of_ble_eq_true rfl⟩ ⟨(by decide), (by decide)⟩ dX7_project_31 ?_
        exact k_iret C zr zlk (Or.inl ⟨by simp_all, rfl, rfl⟩) (Nat.le_refl _) (Nat.le_refl _) dX7_project_34
set_option maxHeartbeats 4000000 in
set_option maxRecDepth 100000 in
theorem c_X7_distinct {zl : Launch} {D : va_G} {cI cN cR : ClassId} {base : Nat} {V : gv_V} {m wt wa wv wm wr wc wn ws wk wp nt ne nn sh : Nat} {kn : Int32} {fm : Nat → Int32} {y : Int32}  (h_m : V m = some (.inr (7, [.int (nI nt), .ref wt, .int (nI ne), .ref wa, .ref wv, .int (nI nn), .ref wm, .int kn, .ref wr, .ref wc, .ref wn, .int (nI sh), .ref ws, .ref wk, .ref wp]))) (h_wm : V wm = some (.inl (cI, 180, .inl fm))) (hnn : nn ≤ 30) : ct zl D [(cI, .int), (cN, .object "AlgebraTree$Node"), (cR, .object "AlgebraTree$Rows")] base yX7_distinct cX7_distinct 2 (some .int) 2 0 0 [.ref m, .int y] V (fun zv zV => ((!decide (nn = 30) && blw y (nI nn)) = true ∧ zv = some (.int (nI nn)) ∧ zV = gv_up (gv_up V wm (.inl (cI, 180, .inl (upd (upd (upd (upd (upd (upd fm (6 * nn) (nI 8)) (6 * nn + 1) y) (6 * nn + 2) (nI 0)) (6 * nn + 3) (nI 0)) (6 * nn + 4) (nI 0)) (6 * nn + 5) (nI 0))))) m (.inr (7, [.int (nI nt), .ref wt, .int (nI ne), .ref wa, .ref wv, .int (nI (nn + 1)), .ref wm, .int (nI 0), .ref wr, .ref wc, .ref wn, .int (nI sh), .ref ws, .ref wk, .ref wp]))) ∨ ((!decide (nn = 30) && blw y (nI nn)) = false ∧ zv = some (.int (-1 : Int32)) ∧ zV = V)) := by
  refine ct_of "AlgebraTreeModel" rfl (by decide) (Nat.le_of_ble_eq_true rfl) ?_
  intro zp ze zs zm zargs zbelow zmeth zc C zr zlk znm
  refine k_pc (pc' := 0) (st' := []) rfl rfl ?_
  show K zp zl ze (gv_rm 2 0 0) zs zm zargs zbelow zmeth zc D base 2 (gv_E D [(cI, .int), (cN, .object "AlgebraTree$Node"), (cR, .object "AlgebraTree$Rows")] base zbelow zargs zs 0 0 (fun zv zV => ((!decide (nn = 30) && blw y (nI nn)) = true ∧ zv = some (.int (nI nn)) ∧ zV = gv_up (gv_up V wm (.inl (cI, 180, .inl (upd (upd (upd (upd (upd (upd fm (6 * nn) (nI 8)) (6 * nn + 1) y) (6 * nn + 2) (nI 0)) (6 * nn + 3) (nI 0)) (6 * nn + 4) (nI 0)) (6 * nn + 5) (nI 0))))) m (.inr (7, [.int (nI nt), .ref wt, .int (nI ne), .ref wa, .ref wv, .int (nI (nn + 1)), .ref wm, .int (nI 0), .ref wr, .ref wc, .ref wn, .int (nI sh), .ref ws, .ref wk, .ref wp]))) ∨ ((!decide (nn = 30) && blw y (nI nn)) = false ∧ zv = some (.int (-1 : Int32)) ∧ zV = V))) V 0 0 [(0, .ref m), (1, .int y)] 0 []
  refine k_aload_n C dX7_distinct_0 rfl 0 rfl ?_
  refine k_aload_n C dX7_distinct_1 rfl 0 rfl ?_
  refine k_iload_n C dX7_distinct_2 rfl 1 rfl ?_
  refine k_callV_pi C mv_7_95 (c_X7_isNode  h_m ) h_m rfl rfl (by simp [Value.category]) ⟨Nat.le_of_ble_eq_true rfl, Nat.le_of_ble_eq_true rfl⟩ ⟨(by decide), (by decide)⟩ dX7_distinct_3 ?_
  refine k_bipush (v := nI 8) C dX7_distinct_6 rfl ?_
  refine k_iload_n C dX7_distinct_8 rfl 1 rfl ?_
  refine k_iconst (v := nI 0) C dX7_distinct_9 rfl ?_
  refine k_iconst (v := nI 0) C dX7_distinct_10 rfl ?_
  refine k_iconst (v := nI 0) C dX7_distinct_11 rfl ?_
  refine k_iconst (v := nI 0) C dX7_distinct_12 rfl ?_
  by_cases hb : blw y (nI nn) = true
  · skip
    refine k_pc (pc' := 13) (st' := [.int (nI 0), .int (nI 0), .int (nI 0), .int (nI 0), .int y, .int (nI 8), .int (nI 1), .ref m]) rfl (by rw [hb]; rfl) ?_
    by_cases hn30 : nn = 30
    · skip
      refine k_callV_pi C mv_7_91 (c_makeF  h_m h_wm hn30) h_m rfl rfl (by simp [Value.category]) ⟨Nat.le_of_ble_eq_true rfl, Nat.le_of_ble_eq_true rfl⟩ ⟨(by decide), (by decide)⟩ dX7_distinct_13 ?_
      exact k_iret C zr zlk (Or.inr ⟨by simp_all, rfl, rfl⟩) (Nat.le_refl _) (Nat.le_refl _) dX7_distinct_16
    · skip
      refine k_callV_pi C mv_7_91 (c_make1  h_m h_wm (by omega)) h_m rfl rfl (by simp [Value.category]) ⟨Nat.le_of_ble_eq_true rfl, Nat.le_of_ble_eq_true rfl⟩ ⟨(by decide), (by decide)⟩ dX7_distinct_13 ?_
      exact k_iret C zr zlk (Or.inl ⟨by simp_all, rfl, rfl⟩) (Nat.le_refl _) (Nat.le_refl _) dX7_distinct_16
  · skip
    have hb0 : blw y (nI nn) = false := by simpa using hb
    refine k_pc (pc' := 13) (st' := [.int (nI 0), .int (nI 0), .int (nI 0), .int (nI 0), .int y, .int (nI 8), .int (nI 0), .ref m]) rfl (by rw [hb0]; rfl) ?_
    by_cases hn30 : nn = 30
    · skip
      refine k_callV_pi C mv_7_91 (c_make0  h_m h_wm ) h_m rfl rfl (by simp [Value.category]) ⟨Nat.le_of_ble_eq_true rfl, Nat.le_of_ble_eq_true rfl⟩ ⟨(by decide), (by decide)⟩ dX7_distinct_13 ?_
      exact k_iret C zr zlk (Or.inr ⟨by simp_all, rfl, rfl⟩) (Nat.le_refl _) (Nat.le_refl _) dX7_distinct_16
    · skip
      refine k_callV_pi C mv_7_91 (c_make0  h_m h_wm ) h_m rfl rfl (by simp [Value.category]) ⟨Nat.le_of_ble_eq_true rfl, Nat.le_of_ble_eq_true rfl⟩ ⟨(by decide), (by decide)⟩ dX7_distinct_13 ?_
      exact k_iret C zr zlk (Or.inr ⟨by simp_all, rfl, rfl⟩) (Nat.le_refl _) (Nat.le_refl _) dX7_distinct_16
set_option maxHeartbeats 4000000 in
set_option maxRecDepth 100000 in
theorem c_X7_slice {zl : Launch} {D : va_G} {cI cN cR : ClassId} {base : Nat} {V : gv_V} {m wt wa wv wm wr wc wn ws wk wp nt ne nn sh : Nat} {kn : Int32} {fm : Nat → Int32} {y x z : Int32}  (h_m : V m = some (.inr (7, [.int (nI nt), .ref wt, .int (nI ne), .ref wa, .ref wv, .int (nI nn), .ref wm, .int kn, .ref wr, .ref wc, .ref wn, .int (nI sh), .ref ws, .ref wk, .ref wp]))) (h_wm : V wm = some (.inl (cI, 180, .inl fm))) (hnn : nn ≤ 30) : ct zl D [(cI, .int), (cN, .object "AlgebraTree$Node"), (cR, .object "AlgebraTree$Rows")] base yX7_slice cX7_slice 4 (some .int) 2 0 0 [.ref m, .int y, .int x, .int z] V (fun zv zV => (((!decide (nn = 30) && blw y (nI nn)) && sln x && sln z) = true ∧ zv = some (.int (nI nn)) ∧ zV = gv_up (gv_up V wm (.inl (cI, 180, .inl (upd (upd (upd (upd (upd (upd fm (6 * nn) (nI 9)) (6 * nn + 1) y) (6 * nn + 2) x) (6 * nn + 3) z) (6 * nn + 4) (nI 0)) (6 * nn + 5) (nI 0))))) m (.inr (7, [.int (nI nt), .ref wt, .int (nI ne), .ref wa, .ref wv, .int (nI (nn + 1)), .ref wm, .int (nI 0), .ref wr, .ref wc, .ref wn, .int (nI sh), .ref ws, .ref wk, .ref wp]))) ∨ (((!decide (nn = 30) && blw y (nI nn)) && sln x && sln z) = false ∧ zv = some (.int (-1 : Int32)) ∧ zV = V)) := by
  refine ct_of "AlgebraTreeModel" rfl (by decide) (Nat.le_of_ble_eq_true rfl) ?_
  intro zp ze zs zm zargs zbelow zmeth zc C zr zlk znm
  refine k_pc (pc' := 0) (st' := []) rfl rfl ?_
  show K zp zl ze (gv_rm 2 0 0) zs zm zargs zbelow zmeth zc D base 4 (gv_E D [(cI, .int), (cN, .object "AlgebraTree$Node"), (cR, .object "AlgebraTree$Rows")] base zbelow zargs zs 0 0 (fun zv zV => (((!decide (nn = 30) && blw y (nI nn)) && sln x && sln z) = true ∧ zv = some (.int (nI nn)) ∧ zV = gv_up (gv_up V wm (.inl (cI, 180, .inl (upd (upd (upd (upd (upd (upd fm (6 * nn) (nI 9)) (6 * nn + 1) y) (6 * nn + 2) x) (6 * nn + 3) z) (6 * nn + 4) (nI 0)) (6 * nn + 5) (nI 0))))) m (.inr (7, [.int (nI nt), .ref wt, .int (nI ne), .ref wa, .ref wv, .int (nI (nn + 1)), .ref wm, .int (nI 0), .ref wr, .ref wc, .ref wn, .int (nI sh), .ref ws, .ref wk, .ref wp]))) ∨ (((!decide (nn = 30) && blw y (nI nn)) && sln x && sln z) = false ∧ zv = some (.int (-1 : Int32)) ∧ zV = V))) V 0 0 [(0, .ref m), (1, .int y), (2, .int x), (3, .int z)] 0 []
  refine k_aload_n C dX7_slice_0 rfl 0 rfl ?_
  refine k_aload_n C dX7_slice_1 rfl 0 rfl ?_
  refine k_iload_n C dX7_slice_2 rfl 1 rfl ?_
  refine k_callV_pi C mv_7_95 (c_X7_isNode  h_m ) h_m rfl rfl (by simp [Value.category]) ⟨Nat.le_of_ble_eq_true rfl, Nat.le_of_ble_eq_true rfl⟩ ⟨(by decide), (by decide)⟩ dX7_slice_3 ?_
  refine k_if_eq (tgt := 35) C dX7_slice_6 (by decide) (fun c6 => ?_) (fun c6 => ?_)
  · skip
    have b6 : (blw y (nI nn)) = false := bI_0.mp c6
    refine k_iconst (v := nI 0) C dX7_slice_35 rfl ?_
    refine k_bipush (v := nI 9) C dX7_slice_36 rfl ?_
    refine k_iload_n C dX7_slice_38 rfl 1 rfl ?_
    refine k_iload_n C dX7_slice_39 rfl 2 rfl ?_
    refine k_iload_n C dX7_slice_40 rfl 3 rfl ?_
    refine k_iconst (v := nI 0) C dX7_slice_41 rfl ?_
    refine k_iconst (v := nI 0) C dX7_slice_42 rfl ?_
    by_cases hn30 : nn = 30
    · skip
      refine k_callV_pi C mv_7_91 (c_make0  h_m h_wm ) h_m rfl rfl (by simp [Value.category]) ⟨Nat.le_of_ble_eq_true rfl, Nat.le_of_ble_eq_true rfl⟩ ⟨(by decide), (by decide)⟩ dX7_slice_43 ?_
      exact k_iret C zr zlk (Or.inr ⟨by simp_all, rfl, rfl⟩) (Nat.le_refl _) (Nat.le_refl _) dX7_slice_46
    · skip
      refine k_callV_pi C mv_7_91 (c_make0  h_m h_wm ) h_m rfl rfl (by simp [Value.category]) ⟨Nat.le_of_ble_eq_true rfl, Nat.le_of_ble_eq_true rfl⟩ ⟨(by decide), (by decide)⟩ dX7_slice_43 ?_
      exact k_iret C zr zlk (Or.inr ⟨by simp_all, rfl, rfl⟩) (Nat.le_refl _) (Nat.le_refl _) dX7_slice_46
  · skip
    have b6 : (blw y (nI nn)) = true := bI_n.mp c6
    refine k_iload_n C dX7_slice_9 rfl 2 rfl ?_
    refine k_iconst (v := nI 0) C dX7_slice_10 rfl ?_
    refine k_sipush (v := nI 1000) C dX7_slice_11 rfl ?_
    refine k_callS_pi C ms_7_45 (c_X7_within   ) rfl rfl (by simp [Value.category]) ⟨Nat.le_of_ble_eq_true rfl, Nat.le_of_ble_eq_true rfl⟩ ⟨(by decide), (by decide)⟩ dX7_slice_14 ?_
    refine k_if_eq (tgt := 35) C dX7_slice_17 (by decide) (fun c17 => ?_) (fun c17 => ?_)
    · skip
      have b17 : (wi x (nI 0) (nI 1000)) = false := bI_0.mp c17
      rw [wi_s] at b17
      refine k_iconst (v := nI 0) C dX7_slice_35 rfl ?_
      refine k_bipush (v := nI 9) C dX7_slice_36 rfl ?_
      refine k_iload_n C dX7_slice_38 rfl 1 rfl ?_
      refine k_iload_n C dX7_slice_39 rfl 2 rfl ?_
      refine k_iload_n C dX7_slice_40 rfl 3 rfl ?_
      refine k_iconst (v := nI 0) C dX7_slice_41 rfl ?_
      refine k_iconst (v := nI 0) C dX7_slice_42 rfl ?_
      by_cases hn30 : nn = 30
      · skip
        refine k_callV_pi C mv_7_91 (c_make0  h_m h_wm ) h_m rfl rfl (by simp [Value.category]) ⟨Nat.le_of_ble_eq_true rfl, Nat.le_of_ble_eq_true rfl⟩ ⟨(by decide), (by decide)⟩ dX7_slice_43 ?_
        exact k_iret C zr zlk (Or.inr ⟨by simp_all, rfl, rfl⟩) (Nat.le_refl _) (Nat.le_refl _) dX7_slice_46
      · skip
        refine k_callV_pi C mv_7_91 (c_make0  h_m h_wm ) h_m rfl rfl (by simp [Value.category]) ⟨Nat.le_of_ble_eq_true rfl, Nat.le_of_ble_eq_true rfl⟩ ⟨(by decide), (by decide)⟩ dX7_slice_43 ?_
        exact k_iret C zr zlk (Or.inr ⟨by simp_all, rfl, rfl⟩) (Nat.le_refl _) (Nat.le_refl _) dX7_slice_46
    · skip
      have b17 : (wi x (nI 0) (nI 1000)) = true := bI_n.mp c17
      rw [wi_s] at b17
      refine k_iload_n C dX7_slice_20 rfl 3 rfl ?_
      refine k_iconst (v := nI 0) C dX7_slice_21 rfl ?_
      refine k_sipush (v := nI 1000) C dX7_slice_22 rfl ?_
      refine k_callS_pi C ms_7_45 (c_X7_within   ) rfl rfl (by simp [Value.category]) ⟨Nat.le_of_ble_eq_true rfl, Nat.le_of_ble_eq_true rfl⟩ ⟨(by decide), (by decide)⟩ dX7_slice_25 ?_
      refine k_if_eq (tgt := 35) C dX7_slice_28 (by decide) (fun c28 => ?_) (fun c28 => ?_)
      · skip
        have b28 : (wi z (nI 0) (nI 1000)) = false := bI_0.mp c28
        rw [wi_s] at b28
        refine k_iconst (v := nI 0) C dX7_slice_35 rfl ?_
        refine k_bipush (v := nI 9) C dX7_slice_36 rfl ?_
        refine k_iload_n C dX7_slice_38 rfl 1 rfl ?_
        refine k_iload_n C dX7_slice_39 rfl 2 rfl ?_
        refine k_iload_n C dX7_slice_40 rfl 3 rfl ?_
        refine k_iconst (v := nI 0) C dX7_slice_41 rfl ?_
        refine k_iconst (v := nI 0) C dX7_slice_42 rfl ?_
        by_cases hn30 : nn = 30
        · skip
          refine k_callV_pi C mv_7_91 (c_make0  h_m h_wm ) h_m rfl rfl (by simp [Value.category]) ⟨Nat.le_of_ble_eq_true rfl, Nat.le_of_ble_eq_true rfl⟩ ⟨(by decide), (by decide)⟩ dX7_slice_43 ?_
          exact k_iret C zr zlk (Or.inr ⟨by simp_all, rfl, rfl⟩) (Nat.le_refl _) (Nat.le_refl _) dX7_slice_46
        · skip
          refine k_callV_pi C mv_7_91 (c_make0  h_m h_wm ) h_m rfl rfl (by simp [Value.category]) ⟨Nat.le_of_ble_eq_true rfl, Nat.le_of_ble_eq_true rfl⟩ ⟨(by decide), (by decide)⟩ dX7_slice_43 ?_
          exact k_iret C zr zlk (Or.inr ⟨by simp_all, rfl, rfl⟩) (Nat.le_refl _) (Nat.le_refl _) dX7_slice_46
      · skip
        have b28 : (wi z (nI 0) (nI 1000)) = true := bI_n.mp c28
        rw [wi_s] at b28
        refine k_iconst (v := nI 1) C dX7_slice_31 rfl ?_
        refine k_goto (tgt := 36) C dX7_slice_32 (by decide) ?_
        refine k_bipush (v := nI 9) C dX7_slice_36 rfl ?_
        refine k_iload_n C dX7_slice_38 rfl 1 rfl ?_
        refine k_iload_n C dX7_slice_39 rfl 2 rfl ?_
        refine k_iload_n C dX7_slice_40 rfl 3 rfl ?_
        refine k_iconst (v := nI 0) C dX7_slice_41 rfl ?_
        refine k_iconst (v := nI 0) C dX7_slice_42 rfl ?_
        by_cases hn30 : nn = 30
        · skip
          refine k_callV_pi C mv_7_91 (c_makeF  h_m h_wm hn30) h_m rfl rfl (by simp [Value.category]) ⟨Nat.le_of_ble_eq_true rfl, Nat.le_of_ble_eq_true rfl⟩ ⟨(by decide), (by decide)⟩ dX7_slice_43 ?_
          exact k_iret C zr zlk (Or.inr ⟨by simp_all, rfl, rfl⟩) (Nat.le_refl _) (Nat.le_refl _) dX7_slice_46
        · skip
          refine k_callV_pi C mv_7_91 (c_make1  h_m h_wm (by omega)) h_m rfl rfl (by simp [Value.category]) ⟨Nat.le_of_ble_eq_true rfl, Nat.le_of_ble_eq_true rfl⟩ ⟨(by decide), (by decide)⟩ dX7_slice_43 ?_
          exact k_iret C zr zlk (Or.inl ⟨by simp_all, rfl, rfl⟩) (Nat.le_refl _) (Nat.le_refl _) dX7_slice_46
set_option maxHeartbeats 4000000 in
set_option maxRecDepth 100000 in
theorem c_X7_order {zl : Launch} {D : va_G} {cI cN cR : ClassId} {base : Nat} {V : gv_V} {m wt wa wv wm wr wc wn ws wk wp nt ne nn sh : Nat} {kn : Int32} {fm : Nat → Int32} {y w : Int32} {bx : Bool}  (h_m : V m = some (.inr (7, [.int (nI nt), .ref wt, .int (nI ne), .ref wa, .ref wv, .int (nI nn), .ref wm, .int kn, .ref wr, .ref wc, .ref wn, .int (nI sh), .ref ws, .ref wk, .ref wp]))) (h_wm : V wm = some (.inl (cI, 180, .inl fm))) (hnn : nn ≤ 30) : ct zl D [(cI, .int), (cN, .object "AlgebraTree$Node"), (cR, .object "AlgebraTree$Rows")] base yX7_order cX7_order 4 (some .int) 2 0 0 [.ref m, .int y, .int w, .int (bI bx)] V (fun zv zV => (((!decide (nn = 30) && blw y (nI nn)) && blw w (nI ne)) = true ∧ zv = some (.int (nI nn)) ∧ zV = gv_up (gv_up V wm (.inl (cI, 180, .inl (upd (upd (upd (upd (upd (upd fm (6 * nn) (nI 10)) (6 * nn + 1) y) (6 * nn + 2) w) (6 * nn + 3) (bI bx)) (6 * nn + 4) (nI 0)) (6 * nn + 5) (nI 0))))) m (.inr (7, [.int (nI nt), .ref wt, .int (nI ne), .ref wa, .ref wv, .int (nI (nn + 1)), .ref wm, .int (nI 0), .ref wr, .ref wc, .ref wn, .int (nI sh), .ref ws, .ref wk, .ref wp]))) ∨ (((!decide (nn = 30) && blw y (nI nn)) && blw w (nI ne)) = false ∧ zv = some (.int (-1 : Int32)) ∧ zV = V)) := by
  refine ct_of "AlgebraTreeModel" rfl (by decide) (Nat.le_of_ble_eq_true rfl) ?_
  intro zp ze zs zm zargs zbelow zmeth zc C zr zlk znm
  refine k_pc (pc' := 0) (st' := []) rfl rfl ?_
  show K zp zl ze (gv_rm 2 0 0) zs zm zargs zbelow zmeth zc D base 4 (gv_E D [(cI, .int), (cN, .object "AlgebraTree$Node"), (cR, .object "AlgebraTree$Rows")] base zbelow zargs zs 0 0 (fun zv zV => (((!decide (nn = 30) && blw y (nI nn)) && blw w (nI ne)) = true ∧ zv = some (.int (nI nn)) ∧ zV = gv_up (gv_up V wm (.inl (cI, 180, .inl (upd (upd (upd (upd (upd (upd fm (6 * nn) (nI 10)) (6 * nn + 1) y) (6 * nn + 2) w) (6 * nn + 3) (bI bx)) (6 * nn + 4) (nI 0)) (6 * nn + 5) (nI 0))))) m (.inr (7, [.int (nI nt), .ref wt, .int (nI ne), .ref wa, .ref wv, .int (nI (nn + 1)), .ref wm, .int (nI 0), .ref wr, .ref wc, .ref wn, .int (nI sh), .ref ws, .ref wk, .ref wp]))) ∨ (((!decide (nn = 30) && blw y (nI nn)) && blw w (nI ne)) = false ∧ zv = some (.int (-1 : Int32)) ∧ zV = V))) V 0 0 [(0, .ref m), (1, .int y), (2, .int w), (3, .int (bI bx))] 0 []
  refine k_aload_n C dX7_order_0 rfl 0 rfl ?_
  refine k_aload_n C dX7_order_1 rfl 0 rfl ?_
  refine k_iload_n C dX7_order_2 rfl 1 rfl ?_
  refine k_callV_pi C mv_7_95 (c_X7_isNode  h_m ) h_m rfl rfl (by simp [Value.category]) ⟨Nat.le_of_ble_eq_true rfl, Nat.le_of_ble_eq_true rfl⟩ ⟨(by decide), (by decide)⟩ dX7_order_3 ?_
  refine k_if_eq (tgt := 21) C dX7_order_6 (by decide) (fun c6 => ?_) (fun c6 => ?_)
  · skip
    have b6 : (blw y (nI nn)) = false := bI_0.mp c6
    refine k_iconst (v := nI 0) C dX7_order_21 rfl ?_
    refine k_bipush (v := nI 10) C dX7_order_22 rfl ?_
    refine k_iload_n C dX7_order_24 rfl 1 rfl ?_
    refine k_iload_n C dX7_order_25 rfl 2 rfl ?_
    refine k_iload_n C dX7_order_26 rfl 3 rfl ?_
    refine k_if_eq (tgt := 34) C dX7_order_27 (by decide) (fun c27 => ?_) (fun c27 => ?_)
    · skip
      have b27 : bx = false := bI_0.mp c27
      refine k_iconst (v := nI 0) C dX7_order_34 rfl ?_
      refine k_iconst (v := nI 0) C dX7_order_35 rfl ?_
      refine k_iconst (v := nI 0) C dX7_order_36 rfl ?_
      refine k_pc (pc' := 37) (st' := [.int (nI 0), .int (nI 0), .int (bI bx), .int w, .int y, .int (nI 10), .int (nI 0), .ref m]) rfl (by rw [b27]; rfl) ?_
      by_cases hn30 : nn = 30
      · skip
        refine k_callV_pi C mv_7_91 (c_make0  h_m h_wm ) h_m rfl rfl (by simp [Value.category]) ⟨Nat.le_of_ble_eq_true rfl, Nat.le_of_ble_eq_true rfl⟩ ⟨(by decide), (by decide)⟩ dX7_order_37 ?_
        exact k_iret C zr zlk (Or.inr ⟨by simp_all, rfl, rfl⟩) (Nat.le_refl _) (Nat.le_refl _) dX7_order_40
      · skip
        refine k_callV_pi C mv_7_91 (c_make0  h_m h_wm ) h_m rfl rfl (by simp [Value.category]) ⟨Nat.le_of_ble_eq_true rfl, Nat.le_of_ble_eq_true rfl⟩ ⟨(by decide), (by decide)⟩ dX7_order_37 ?_
        exact k_iret C zr zlk (Or.inr ⟨by simp_all, rfl, rfl⟩) (Nat.le_refl _) (Nat.le_refl _) dX7_order_40
    · skip
      have b27 : bx = true := bI_n.mp c27
      refine k_iconst (v := nI 1) C dX7_order_30 rfl ?_
      refine k_goto (tgt := 35) C dX7_order_31 (by decide) ?_
      refine k_iconst (v := nI 0) C dX7_order_35 rfl ?_
      refine k_iconst (v := nI 0) C dX7_order_36 rfl ?_
      refine k_pc (pc' := 37) (st' := [.int (nI 0), .int (nI 0), .int (bI bx), .int w, .int y, .int (nI 10), .int (nI 0), .ref m]) rfl (by rw [b27]; rfl) ?_
      by_cases hn30 : nn = 30
      · skip
        refine k_callV_pi C mv_7_91 (c_make0  h_m h_wm ) h_m rfl rfl (by simp [Value.category]) ⟨Nat.le_of_ble_eq_true rfl, Nat.le_of_ble_eq_true rfl⟩ ⟨(by decide), (by decide)⟩ dX7_order_37 ?_
        exact k_iret C zr zlk (Or.inr ⟨by simp_all, rfl, rfl⟩) (Nat.le_refl _) (Nat.le_refl _) dX7_order_40
      · skip
        refine k_callV_pi C mv_7_91 (c_make0  h_m h_wm ) h_m rfl rfl (by simp [Value.category]) ⟨Nat.le_of_ble_eq_true rfl, Nat.le_of_ble_eq_true rfl⟩ ⟨(by decide), (by decide)⟩ dX7_order_37 ?_
        exact k_iret C zr zlk (Or.inr ⟨by simp_all, rfl, rfl⟩) (Nat.le_refl _) (Nat.le_refl _) dX7_order_40
  · skip
    have b6 : (blw y (nI nn)) = true := bI_n.mp c6
    refine k_aload_n C dX7_order_9 rfl 0 rfl ?_
    refine k_iload_n C dX7_order_10 rfl 2 rfl ?_
    refine k_callV_pi C mv_7_66 (c_X7_isExpression  h_m ) h_m rfl rfl (by simp [Value.category]) ⟨Nat.le_of_ble_eq_true rfl, Nat.le_of_ble_eq_true rfl⟩ ⟨(by decide), (by decide)⟩ dX7_order_11 ?_
    refine k_if_eq (tgt := 21) C dX7_order_14 (by decide) (fun c14 => ?_) (fun c14 => ?_)
    · skip
      have b14 : (blw w (nI ne)) = false := bI_0.mp c14
      refine k_iconst (v := nI 0) C dX7_order_21 rfl ?_
      refine k_bipush (v := nI 10) C dX7_order_22 rfl ?_
      refine k_iload_n C dX7_order_24 rfl 1 rfl ?_
      refine k_iload_n C dX7_order_25 rfl 2 rfl ?_
      refine k_iload_n C dX7_order_26 rfl 3 rfl ?_
      refine k_if_eq (tgt := 34) C dX7_order_27 (by decide) (fun c27 => ?_) (fun c27 => ?_)
      · skip
        have b27 : bx = false := bI_0.mp c27
        refine k_iconst (v := nI 0) C dX7_order_34 rfl ?_
        refine k_iconst (v := nI 0) C dX7_order_35 rfl ?_
        refine k_iconst (v := nI 0) C dX7_order_36 rfl ?_
        refine k_pc (pc' := 37) (st' := [.int (nI 0), .int (nI 0), .int (bI bx), .int w, .int y, .int (nI 10), .int (nI 0), .ref m]) rfl (by rw [b27]; rfl) ?_
        by_cases hn30 : nn = 30
        · skip
          refine k_callV_pi C mv_7_91 (c_make0  h_m h_wm ) h_m rfl rfl (by simp [Value.category]) ⟨Nat.le_of_ble_eq_true rfl, Nat.le_of_ble_eq_true rfl⟩ ⟨(by decide), (by decide)⟩ dX7_order_37 ?_
          exact k_iret C zr zlk (Or.inr ⟨by simp_all, rfl, rfl⟩) (Nat.le_refl _) (Nat.le_refl _) dX7_order_40
        · skip
          refine k_callV_pi C mv_7_91 (c_make0  h_m h_wm ) h_m rfl rfl (by simp [Value.category]) ⟨Nat.le_of_ble_eq_true rfl, Nat.le_of_ble_eq_true rfl⟩ ⟨(by decide), (by decide)⟩ dX7_order_37 ?_
          exact k_iret C zr zlk (Or.inr ⟨by simp_all, rfl, rfl⟩) (Nat.le_refl _) (Nat.le_refl _) dX7_order_40
      · skip
        have b27 : bx = true := bI_n.mp c27
        refine k_iconst (v := nI 1) C dX7_order_30 rfl ?_
        refine k_goto (tgt := 35) C dX7_order_31 (by decide) ?_
        refine k_iconst (v := nI 0) C dX7_order_35 rfl ?_
        refine k_iconst (v := nI 0) C dX7_order_36 rfl ?_
        refine k_pc (pc' := 37) (st' := [.int (nI 0), .int (nI 0), .int (bI bx), .int w, .int y, .int (nI 10), .int (nI 0), .ref m]) rfl (by rw [b27]; rfl) ?_
        by_cases hn30 : nn = 30
        · skip
          refine k_callV_pi C mv_7_91 (c_make0  h_m h_wm ) h_m rfl rfl (by simp [Value.category]) ⟨Nat.le_of_ble_eq_true rfl, Nat.le_of_ble_eq_true rfl⟩ ⟨(by decide), (by decide)⟩ dX7_order_37 ?_
          exact k_iret C zr zlk (Or.inr ⟨by simp_all, rfl, rfl⟩) (Nat.le_refl _) (Nat.le_refl _) dX7_order_40
        · skip
          refine k_callV_pi C mv_7_91 (c_make0  h_m h_wm ) h_m rfl rfl (by simp [Value.category]) ⟨Nat.le_of_ble_eq_true rfl, Nat.le_of_ble_eq_true rfl⟩ ⟨(by decide), (by decide)⟩ dX7_order_37 ?_
          exact k_iret C zr zlk (Or.inr ⟨by simp_all, rfl, rfl⟩) (Nat.le_refl _) (Nat.le_refl _) dX7_order_40
    · skip
      have b14 : (blw w (nI ne)) = true := bI_n.mp c14
      refine k_iconst (v := nI 1) C dX7_order_17 rfl ?_
      refine k_goto (tgt := 22) C dX7_order_18 (by decide) ?_
      refine k_bipush (v := nI 10) C dX7_order_22 rfl ?_
      refine k_iload_n C dX7_order_24 rfl 1 rfl ?_
      refine k_iload_n C dX7_order_25 rfl 2 rfl ?_
      refine k_iload_n C dX7_order_26 rfl 3 rfl ?_
      refine k_if_eq (tgt := 34) C dX7_order_27 (by decide) (fun c27 => ?_) (fun c27 => ?_)
      · skip
        have b27 : bx = false := bI_0.mp c27
        refine k_iconst (v := nI 0) C dX7_order_34 rfl ?_
        refine k_iconst (v := nI 0) C dX7_order_35 rfl ?_
        refine k_iconst (v := nI 0) C dX7_order_36 rfl ?_
        refine k_pc (pc' := 37) (st' := [.int (nI 0), .int (nI 0), .int (bI bx), .int w, .int y, .int (nI 10), .int (nI 1), .ref m]) rfl (by rw [b27]; rfl) ?_
        by_cases hn30 : nn = 30
        · skip
          refine k_callV_pi C mv_7_91 (c_makeF  h_m h_wm hn30) h_m rfl rfl (by simp [Value.category]) ⟨Nat.le_of_ble_eq_true rfl, Nat.le_of_ble_eq_true rfl⟩ ⟨(by decide), (by decide)⟩ dX7_order_37 ?_
          exact k_iret C zr zlk (Or.inr ⟨by simp_all, rfl, rfl⟩) (Nat.le_refl _) (Nat.le_refl _) dX7_order_40
        · skip
          refine k_callV_pi C mv_7_91 (c_make1  h_m h_wm (by omega)) h_m rfl rfl (by simp [Value.category]) ⟨Nat.le_of_ble_eq_true rfl, Nat.le_of_ble_eq_true rfl⟩ ⟨(by decide), (by decide)⟩ dX7_order_37 ?_
          exact k_iret C zr zlk (Or.inl ⟨by simp_all, rfl, rfl⟩) (Nat.le_refl _) (Nat.le_refl _) dX7_order_40
      · skip
        have b27 : bx = true := bI_n.mp c27
        refine k_iconst (v := nI 1) C dX7_order_30 rfl ?_
        refine k_goto (tgt := 35) C dX7_order_31 (by decide) ?_
        refine k_iconst (v := nI 0) C dX7_order_35 rfl ?_
        refine k_iconst (v := nI 0) C dX7_order_36 rfl ?_
        refine k_pc (pc' := 37) (st' := [.int (nI 0), .int (nI 0), .int (bI bx), .int w, .int y, .int (nI 10), .int (nI 1), .ref m]) rfl (by rw [b27]; rfl) ?_
        by_cases hn30 : nn = 30
        · skip
          refine k_callV_pi C mv_7_91 (c_makeF  h_m h_wm hn30) h_m rfl rfl (by simp [Value.category]) ⟨Nat.le_of_ble_eq_true rfl, Nat.le_of_ble_eq_true rfl⟩ ⟨(by decide), (by decide)⟩ dX7_order_37 ?_
          exact k_iret C zr zlk (Or.inr ⟨by simp_all, rfl, rfl⟩) (Nat.le_refl _) (Nat.le_refl _) dX7_order_40
        · skip
          refine k_callV_pi C mv_7_91 (c_make1  h_m h_wm (by omega)) h_m rfl rfl (by simp [Value.category]) ⟨Nat.le_of_ble_eq_true rfl, Nat.le_of_ble_eq_true rfl⟩ ⟨(by decide), (by decide)⟩ dX7_order_37 ?_
          exact k_iret C zr zlk (Or.inl ⟨by simp_all, rfl, rfl⟩) (Nat.le_refl _) (Nat.le_refl _) dX7_order_40
set_option maxHeartbeats 4000000 in
set_option maxRecDepth 100000 in
theorem c_X7_group {zl : Launch} {D : va_G} {cI cN cR : ClassId} {base : Nat} {V : gv_V} {m wt wa wv wm wr wc wn ws wk wp nt ne nn sh : Nat} {kn : Int32} {fm : Nat → Int32} {y x z w v : Int32}  (h_m : V m = some (.inr (7, [.int (nI nt), .ref wt, .int (nI ne), .ref wa, .ref wv, .int (nI nn), .ref wm, .int kn, .ref wr, .ref wc, .ref wn, .int (nI sh), .ref ws, .ref wk, .ref wp]))) (h_wm : V wm = some (.inl (cI, 180, .inl fm))) (hnn : nn ≤ 30) : ct zl D [(cI, .int), (cN, .object "AlgebraTree$Node"), (cR, .object "AlgebraTree$Rows")] base yX7_group cX7_group 7 (some .int) 2 0 0 [.ref m, .int y, .int x, .int z, .int w, .int v] V (fun zv zV => (((!decide (nn = 30) && blw y (nI nn)) && blw x (nI 64) && blw z (nI 4) && blw w (nI ne) && blw v (nI 6) && !inS x v) = true ∧ zv = some (.int (nI nn)) ∧ zV = gv_up (gv_up V wm (.inl (cI, 180, .inl (upd (upd (upd (upd (upd (upd fm (6 * nn) (nI 11)) (6 * nn + 1) y) (6 * nn + 2) x) (6 * nn + 3) z) (6 * nn + 4) w) (6 * nn + 5) v)))) m (.inr (7, [.int (nI nt), .ref wt, .int (nI ne), .ref wa, .ref wv, .int (nI (nn + 1)), .ref wm, .int (nI 0), .ref wr, .ref wc, .ref wn, .int (nI sh), .ref ws, .ref wk, .ref wp]))) ∨ (((!decide (nn = 30) && blw y (nI nn)) && blw x (nI 64) && blw z (nI 4) && blw w (nI ne) && blw v (nI 6) && !inS x v) = false ∧ zv = some (.int (-1 : Int32)) ∧ zV = V)) := by
  refine ct_of "AlgebraTreeModel" rfl (by decide) (Nat.le_of_ble_eq_true rfl) ?_
  intro zp ze zs zm zargs zbelow zmeth zc C zr zlk znm
  refine k_pc (pc' := 0) (st' := []) rfl rfl ?_
  show K zp zl ze (gv_rm 2 0 0) zs zm zargs zbelow zmeth zc D base 7 (gv_E D [(cI, .int), (cN, .object "AlgebraTree$Node"), (cR, .object "AlgebraTree$Rows")] base zbelow zargs zs 0 0 (fun zv zV => (((!decide (nn = 30) && blw y (nI nn)) && blw x (nI 64) && blw z (nI 4) && blw w (nI ne) && blw v (nI 6) && !inS x v) = true ∧ zv = some (.int (nI nn)) ∧ zV = gv_up (gv_up V wm (.inl (cI, 180, .inl (upd (upd (upd (upd (upd (upd fm (6 * nn) (nI 11)) (6 * nn + 1) y) (6 * nn + 2) x) (6 * nn + 3) z) (6 * nn + 4) w) (6 * nn + 5) v)))) m (.inr (7, [.int (nI nt), .ref wt, .int (nI ne), .ref wa, .ref wv, .int (nI (nn + 1)), .ref wm, .int (nI 0), .ref wr, .ref wc, .ref wn, .int (nI sh), .ref ws, .ref wk, .ref wp]))) ∨ (((!decide (nn = 30) && blw y (nI nn)) && blw x (nI 64) && blw z (nI 4) && blw w (nI ne) && blw v (nI 6) && !inS x v) = false ∧ zv = some (.int (-1 : Int32)) ∧ zV = V))) V 0 0 [(0, .ref m), (1, .int y), (2, .int x), (3, .int z), (4, .int w), (5, .int v)] 0 []
  refine k_aload_n C dX7_group_0 rfl 0 rfl ?_
  refine k_iload_n C dX7_group_1 rfl 1 rfl ?_
  refine k_callV_pi C mv_7_95 (c_X7_isNode  h_m ) h_m rfl rfl (by simp [Value.category]) ⟨Nat.le_of_ble_eq_true rfl, Nat.le_of_ble_eq_true rfl⟩ ⟨(by decide), (by decide)⟩ dX7_group_2 ?_
  refine k_if_eq (tgt := 57) C dX7_group_5 (by decide) (fun c5 => ?_) (fun c5 => ?_)
  · skip
    have b5 : (blw y (nI nn)) = false := bI_0.mp c5
    refine k_iconst (v := nI 0) C dX7_group_57 rfl ?_
    refine k_istore (lv' := [(6, .int (nI 0)), (0, .ref m), (1, .int y), (2, .int x), (3, .int z), (4, .int w), (5, .int v)]) C dX7_group_58 (by decide) rfl ?_
    refine k_aload_n C dX7_group_60 rfl 1 rfl ?_
    refine k_iload C dX7_group_61 0 rfl ?_
    refine k_bipush (v := nI 11) C dX7_group_63 rfl ?_
    refine k_iload_n C dX7_group_65 rfl 2 rfl ?_
    refine k_iload_n C dX7_group_66 rfl 3 rfl ?_
    refine k_iload_n C dX7_group_67 rfl 4 rfl ?_
    refine k_iload C dX7_group_68 5 rfl ?_
    refine k_iload C dX7_group_70 6 rfl ?_
    by_cases hn30 : nn = 30
    · skip
      refine k_callV_pi C mv_7_91 (c_make0  h_m h_wm ) h_m rfl rfl (by simp [Value.category]) ⟨Nat.le_of_ble_eq_true rfl, Nat.le_of_ble_eq_true rfl⟩ ⟨(by decide), (by decide)⟩ dX7_group_72 ?_
      exact k_iret C zr zlk (Or.inr ⟨by simp_all, rfl, rfl⟩) (Nat.le_refl _) (Nat.le_refl _) dX7_group_75
    · skip
      refine k_callV_pi C mv_7_91 (c_make0  h_m h_wm ) h_m rfl rfl (by simp [Value.category]) ⟨Nat.le_of_ble_eq_true rfl, Nat.le_of_ble_eq_true rfl⟩ ⟨(by decide), (by decide)⟩ dX7_group_72 ?_
      exact k_iret C zr zlk (Or.inr ⟨by simp_all, rfl, rfl⟩) (Nat.le_refl _) (Nat.le_refl _) dX7_group_75
  · skip
    have b5 : (blw y (nI nn)) = true := bI_n.mp c5
    refine k_iload_n C dX7_group_8 rfl 2 rfl ?_
    refine k_iconst (v := nI 0) C dX7_group_9 rfl ?_
    refine k_bipush (v := nI 63) C dX7_group_10 rfl ?_
    refine k_callS_pi C ms_7_45 (c_X7_within   ) rfl rfl (by simp [Value.category]) ⟨Nat.le_of_ble_eq_true rfl, Nat.le_of_ble_eq_true rfl⟩ ⟨(by decide), (by decide)⟩ dX7_group_12 ?_
    refine k_if_eq (tgt := 57) C dX7_group_15 (by decide) (fun c15 => ?_) (fun c15 => ?_)
    · skip
      have b15 : (wi x (nI 0) (nI 63)) = false := bI_0.mp c15
      first | rw [wi_b (by omega)] at b15 | rw [wi_s] at b15
      refine k_iconst (v := nI 0) C dX7_group_57 rfl ?_
      refine k_istore (lv' := [(6, .int (nI 0)), (0, .ref m), (1, .int y), (2, .int x), (3, .int z), (4, .int w), (5, .int v)]) C dX7_group_58 (by decide) rfl ?_
      refine k_aload_n C dX7_group_60 rfl 1 rfl ?_
      refine k_iload C dX7_group_61 0 rfl ?_
      refine k_bipush (v := nI 11) C dX7_group_63 rfl ?_
      refine k_iload_n C dX7_group_65 rfl 2 rfl ?_
      refine k_iload_n C dX7_group_66 rfl 3 rfl ?_
      refine k_iload_n C dX7_group_67 rfl 4 rfl ?_
      refine k_iload C dX7_group_68 5 rfl ?_
      refine k_iload C dX7_group_70 6 rfl ?_
      by_cases hn30 : nn = 30
      · skip
        refine k_callV_pi C mv_7_91 (c_make0  h_m h_wm ) h_m rfl rfl (by simp [Value.category]) ⟨Nat.le_of_ble_eq_true rfl, Nat.le_of_ble_eq_true rfl⟩ ⟨(by decide), (by decide)⟩ dX7_group_72 ?_
        exact k_iret C zr zlk (Or.inr ⟨by simp_all, rfl, rfl⟩) (Nat.le_refl _) (Nat.le_refl _) dX7_group_75
      · skip
        refine k_callV_pi C mv_7_91 (c_make0  h_m h_wm ) h_m rfl rfl (by simp [Value.category]) ⟨Nat.le_of_ble_eq_true rfl, Nat.le_of_ble_eq_true rfl⟩ ⟨(by decide), (by decide)⟩ dX7_group_72 ?_
        exact k_iret C zr zlk (Or.inr ⟨by simp_all, rfl, rfl⟩) (Nat.le_refl _) (Nat.le_refl _) dX7_group_75
    · skip
      have b15 : (wi x (nI 0) (nI 63)) = true := bI_n.mp c15
      first | rw [wi_b (by omega)] at b15 | rw [wi_s] at b15
      refine k_iload_n C dX7_group_18 rfl 3 rfl ?_
      refine k_iconst (v := nI 0) C dX7_group_19 rfl ?_
      refine k_iconst (v := nI 3) C dX7_group_20 rfl ?_
      refine k_callS_pi C ms_7_45 (c_X7_within   ) rfl rfl (by simp [Value.category]) ⟨Nat.le_of_ble_eq_true rfl, Nat.le_of_ble_eq_true rfl⟩ ⟨(by decide), (by decide)⟩ dX7_group_21 ?_
      refine k_if_eq (tgt := 57) C dX7_group_24 (by decide) (fun c24 => ?_) (fun c24 => ?_)
      · skip
        have b24 : (wi z (nI 0) (nI 3)) = false := bI_0.mp c24
        first | rw [wi_b (by omega)] at b24 | rw [wi_s] at b24
        refine k_iconst (v := nI 0) C dX7_group_57 rfl ?_
        refine k_istore (lv' := [(6, .int (nI 0)), (0, .ref m), (1, .int y), (2, .int x), (3, .int z), (4, .int w), (5, .int v)]) C dX7_group_58 (by decide) rfl ?_
        refine k_aload_n C dX7_group_60 rfl 1 rfl ?_
        refine k_iload C dX7_group_61 0 rfl ?_
        refine k_bipush (v := nI 11) C dX7_group_63 rfl ?_
        refine k_iload_n C dX7_group_65 rfl 2 rfl ?_
        refine k_iload_n C dX7_group_66 rfl 3 rfl ?_
        refine k_iload_n C dX7_group_67 rfl 4 rfl ?_
        refine k_iload C dX7_group_68 5 rfl ?_
        refine k_iload C dX7_group_70 6 rfl ?_
        by_cases hn30 : nn = 30
        · skip
          refine k_callV_pi C mv_7_91 (c_make0  h_m h_wm ) h_m rfl rfl (by simp [Value.category]) ⟨Nat.le_of_ble_eq_true rfl, Nat.le_of_ble_eq_true rfl⟩ ⟨(by decide), (by decide)⟩ dX7_group_72 ?_
          exact k_iret C zr zlk (Or.inr ⟨by simp_all, rfl, rfl⟩) (Nat.le_refl _) (Nat.le_refl _) dX7_group_75
        · skip
          refine k_callV_pi C mv_7_91 (c_make0  h_m h_wm ) h_m rfl rfl (by simp [Value.category]) ⟨Nat.le_of_ble_eq_true rfl, Nat.le_of_ble_eq_true rfl⟩ ⟨(by decide), (by decide)⟩ dX7_group_72 ?_
          exact k_iret C zr zlk (Or.inr ⟨by simp_all, rfl, rfl⟩) (Nat.le_refl _) (Nat.le_refl _) dX7_group_75
      · skip
        have b24 : (wi z (nI 0) (nI 3)) = true := bI_n.mp c24
        first | rw [wi_b (by omega)] at b24 | rw [wi_s] at b24
        refine k_aload_n C dX7_group_27 rfl 0 rfl ?_
        refine k_iload C dX7_group_28 4 rfl ?_
        refine k_callV_pi C mv_7_66 (c_X7_isExpression  h_m ) h_m rfl rfl (by simp [Value.category]) ⟨Nat.le_of_ble_eq_true rfl, Nat.le_of_ble_eq_true rfl⟩ ⟨(by decide), (by decide)⟩ dX7_group_30 ?_
        refine k_if_eq (tgt := 57) C dX7_group_33 (by decide) (fun c33 => ?_) (fun c33 => ?_)
        · skip
          have b33 : (blw w (nI ne)) = false := bI_0.mp c33
          refine k_iconst (v := nI 0) C dX7_group_57 rfl ?_
          refine k_istore (lv' := [(6, .int (nI 0)), (0, .ref m), (1, .int y), (2, .int x), (3, .int z), (4, .int w), (5, .int v)]) C dX7_group_58 (by decide) rfl ?_
          refine k_aload_n C dX7_group_60 rfl 1 rfl ?_
          refine k_iload C dX7_group_61 0 rfl ?_
          refine k_bipush (v := nI 11) C dX7_group_63 rfl ?_
          refine k_iload_n C dX7_group_65 rfl 2 rfl ?_
          refine k_iload_n C dX7_group_66 rfl 3 rfl ?_
          refine k_iload_n C dX7_group_67 rfl 4 rfl ?_
          refine k_iload C dX7_group_68 5 rfl ?_
          refine k_iload C dX7_group_70 6 rfl ?_
          by_cases hn30 : nn = 30
          · skip
            refine k_callV_pi C mv_7_91 (c_make0  h_m h_wm ) h_m rfl rfl (by simp [Value.category]) ⟨Nat.le_of_ble_eq_true rfl, Nat.le_of_ble_eq_true rfl⟩ ⟨(by decide), (by decide)⟩ dX7_group_72 ?_
            exact k_iret C zr zlk (Or.inr ⟨by simp_all, rfl, rfl⟩) (Nat.le_refl _) (Nat.le_refl _) dX7_group_75
          · skip
            refine k_callV_pi C mv_7_91 (c_make0  h_m h_wm ) h_m rfl rfl (by simp [Value.category]) ⟨Nat.le_of_ble_eq_true rfl, Nat.le_of_ble_eq_true rfl⟩ ⟨(by decide), (by decide)⟩ dX7_group_72 ?_
            exact k_iret C zr zlk (Or.inr ⟨by simp_all, rfl, rfl⟩) (Nat.le_refl _) (Nat.le_refl _) dX7_group_75
        · skip
          have b33 : (blw w (nI ne)) = true := bI_n.mp c33
          refine k_iload C dX7_group_36 5 rfl ?_
          refine k_callS_pi C ms_7_58 (c_X7_isVariable   ) rfl rfl (by simp [Value.category]) ⟨Nat.le_of_ble_eq_true rfl, Nat.le_of_ble_eq_true rfl⟩ ⟨(by decide), (by decide)⟩ dX7_group_38 ?_
          refine k_if_eq (tgt := 57) C dX7_group_41 (by decide) (fun c41 => ?_) (fun c41 => ?_)
          · skip
            have b41 : (blw v (nI 6)) = false := bI_0.mp c41
            refine k_iconst (v := nI 0) C dX7_group_57 rfl ?_
            refine k_istore (lv' := [(6, .int (nI 0)), (0, .ref m), (1, .int y), (2, .int x), (3, .int z), (4, .int w), (5, .int v)]) C dX7_group_58 (by decide) rfl ?_
            refine k_aload_n C dX7_group_60 rfl 1 rfl ?_
            refine k_iload C dX7_group_61 0 rfl ?_
            refine k_bipush (v := nI 11) C dX7_group_63 rfl ?_
            refine k_iload_n C dX7_group_65 rfl 2 rfl ?_
            refine k_iload_n C dX7_group_66 rfl 3 rfl ?_
            refine k_iload_n C dX7_group_67 rfl 4 rfl ?_
            refine k_iload C dX7_group_68 5 rfl ?_
            refine k_iload C dX7_group_70 6 rfl ?_
            by_cases hn30 : nn = 30
            · skip
              refine k_callV_pi C mv_7_91 (c_make0  h_m h_wm ) h_m rfl rfl (by simp [Value.category]) ⟨Nat.le_of_ble_eq_true rfl, Nat.le_of_ble_eq_true rfl⟩ ⟨(by decide), (by decide)⟩ dX7_group_72 ?_
              exact k_iret C zr zlk (Or.inr ⟨by simp_all, rfl, rfl⟩) (Nat.le_refl _) (Nat.le_refl _) dX7_group_75
            · skip
              refine k_callV_pi C mv_7_91 (c_make0  h_m h_wm ) h_m rfl rfl (by simp [Value.category]) ⟨Nat.le_of_ble_eq_true rfl, Nat.le_of_ble_eq_true rfl⟩ ⟨(by decide), (by decide)⟩ dX7_group_72 ?_
              exact k_iret C zr zlk (Or.inr ⟨by simp_all, rfl, rfl⟩) (Nat.le_refl _) (Nat.le_refl _) dX7_group_75
          · skip
            have b41 : (blw v (nI 6)) = true := bI_n.mp c41
            refine k_iload_n C dX7_group_44 rfl 2 rfl ?_
            refine k_iload C dX7_group_45 5 rfl ?_
            refine k_ishr C dX7_group_47 ?_
            refine k_iconst (v := nI 1) C dX7_group_48 rfl ?_
            refine k_iand C dX7_group_49 ?_
            refine k_if_ne (tgt := 57) C dX7_group_50 (by decide) (fun c50 => ?_) (fun c50 => ?_)
            · skip
              have b50 : inS x v = true := by cases hz : inS x v with | true => rfl | false => exact absurd (inS_e.mpr hz) c50
              refine k_iconst (v := nI 0) C dX7_group_57 rfl ?_
              refine k_istore (lv' := [(6, .int (nI 0)), (0, .ref m), (1, .int y), (2, .int x), (3, .int z), (4, .int w), (5, .int v)]) C dX7_group_58 (by decide) rfl ?_
              refine k_aload_n C dX7_group_60 rfl 1 rfl ?_
              refine k_iload C dX7_group_61 0 rfl ?_
              refine k_bipush (v := nI 11) C dX7_group_63 rfl ?_
              refine k_iload_n C dX7_group_65 rfl 2 rfl ?_
              refine k_iload_n C dX7_group_66 rfl 3 rfl ?_
              refine k_iload_n C dX7_group_67 rfl 4 rfl ?_
              refine k_iload C dX7_group_68 5 rfl ?_
              refine k_iload C dX7_group_70 6 rfl ?_
              by_cases hn30 : nn = 30
              · skip
                refine k_callV_pi C mv_7_91 (c_make0  h_m h_wm ) h_m rfl rfl (by simp [Value.category]) ⟨Nat.le_of_ble_eq_true rfl, Nat.le_of_ble_eq_true rfl⟩ ⟨(by decide), (by decide)⟩ dX7_group_72 ?_
                exact k_iret C zr zlk (Or.inr ⟨by simp_all, rfl, rfl⟩) (Nat.le_refl _) (Nat.le_refl _) dX7_group_75
              · skip
                refine k_callV_pi C mv_7_91 (c_make0  h_m h_wm ) h_m rfl rfl (by simp [Value.category]) ⟨Nat.le_of_ble_eq_true rfl, Nat.le_of_ble_eq_true rfl⟩ ⟨(by decide), (by decide)⟩ dX7_group_72 ?_
                exact k_iret C zr zlk (Or.inr ⟨by simp_all, rfl, rfl⟩) (Nat.le_refl _) (Nat.le_refl _) dX7_group_75
            · skip
              have b50 : inS x v = false := inS_e.mp c50
              refine k_iconst (v := nI 1) C dX7_group_53 rfl ?_
              refine k_goto (tgt := 58) C dX7_group_54 (by decide) ?_
              refine k_istore (lv' := [(6, .int (nI 1)), (0, .ref m), (1, .int y), (2, .int x), (3, .int z), (4, .int w), (5, .int v)]) C dX7_group_58 (by decide) rfl ?_
              refine k_aload_n C dX7_group_60 rfl 1 rfl ?_
              refine k_iload C dX7_group_61 0 rfl ?_
              refine k_bipush (v := nI 11) C dX7_group_63 rfl ?_
              refine k_iload_n C dX7_group_65 rfl 2 rfl ?_
              refine k_iload_n C dX7_group_66 rfl 3 rfl ?_
              refine k_iload_n C dX7_group_67 rfl 4 rfl ?_
              refine k_iload C dX7_group_68 5 rfl ?_
              refine k_iload C dX7_group_70 6 rfl ?_
              by_cases hn30 : nn = 30
              · skip
                refine k_callV_pi C mv_7_91 (c_makeF  h_m h_wm hn30) h_m rfl rfl (by simp [Value.category]) ⟨Nat.le_of_ble_eq_true rfl, Nat.le_of_ble_eq_true rfl⟩ ⟨(by decide), (by decide)⟩ dX7_group_72 ?_
                exact k_iret C zr zlk (Or.inr ⟨by simp_all, rfl, rfl⟩) (Nat.le_refl _) (Nat.le_refl _) dX7_group_75
              · skip
                refine k_callV_pi C mv_7_91 (c_make1  h_m h_wm (by omega)) h_m rfl rfl (by simp [Value.category]) ⟨Nat.le_of_ble_eq_true rfl, Nat.le_of_ble_eq_true rfl⟩ ⟨(by decide), (by decide)⟩ dX7_group_72 ?_
                exact k_iret C zr zlk (Or.inl ⟨by simp_all, rfl, rfl⟩) (Nat.le_refl _) (Nat.le_refl _) dX7_group_75
set_option maxHeartbeats 4000000 in
set_option maxRecDepth 100000 in
theorem c_X7_graph {zl : Launch} {D : va_G} {cI cN cR : ClassId} {base : Nat} {V : gv_V} {m wt wa wv wm wr wc wn ws wk wp nt ne nn sh : Nat} {kn : Int32} {fm : Nat → Int32} {x y : Int32}  (h_m : V m = some (.inr (7, [.int (nI nt), .ref wt, .int (nI ne), .ref wa, .ref wv, .int (nI nn), .ref wm, .int kn, .ref wr, .ref wc, .ref wn, .int (nI sh), .ref ws, .ref wk, .ref wp]))) (h_wm : V wm = some (.inl (cI, 180, .inl fm))) (hnn : nn ≤ 30) : ct zl D [(cI, .int), (cN, .object "AlgebraTree$Node"), (cR, .object "AlgebraTree$Rows")] base yX7_graph cX7_graph 3 (some .int) 2 0 0 [.ref m, .int x, .int y] V (fun zv zV => ((blw x (nI 4) && (!decide (nn = 30) && blw y (nI nn))) = true ∧ zv = some (.int (nI nn)) ∧ zV = gv_up (gv_up V wm (.inl (cI, 180, .inl (upd (upd (upd (upd (upd (upd fm (6 * nn) (nI 12)) (6 * nn + 1) y) (6 * nn + 2) x) (6 * nn + 3) (nI 0)) (6 * nn + 4) (nI 0)) (6 * nn + 5) (nI 0))))) m (.inr (7, [.int (nI nt), .ref wt, .int (nI ne), .ref wa, .ref wv, .int (nI (nn + 1)), .ref wm, .int (nI 0), .ref wr, .ref wc, .ref wn, .int (nI sh), .ref ws, .ref wk, .ref wp]))) ∨ ((blw x (nI 4) && (!decide (nn = 30) && blw y (nI nn))) = false ∧ zv = some (.int (-1 : Int32)) ∧ zV = V)) := by
  refine ct_of "AlgebraTreeModel" rfl (by decide) (Nat.le_of_ble_eq_true rfl) ?_
  intro zp ze zs zm zargs zbelow zmeth zc C zr zlk znm
  refine k_pc (pc' := 0) (st' := []) rfl rfl ?_
  show K zp zl ze (gv_rm 2 0 0) zs zm zargs zbelow zmeth zc D base 3 (gv_E D [(cI, .int), (cN, .object "AlgebraTree$Node"), (cR, .object "AlgebraTree$Rows")] base zbelow zargs zs 0 0 (fun zv zV => ((blw x (nI 4) && (!decide (nn = 30) && blw y (nI nn))) = true ∧ zv = some (.int (nI nn)) ∧ zV = gv_up (gv_up V wm (.inl (cI, 180, .inl (upd (upd (upd (upd (upd (upd fm (6 * nn) (nI 12)) (6 * nn + 1) y) (6 * nn + 2) x) (6 * nn + 3) (nI 0)) (6 * nn + 4) (nI 0)) (6 * nn + 5) (nI 0))))) m (.inr (7, [.int (nI nt), .ref wt, .int (nI ne), .ref wa, .ref wv, .int (nI (nn + 1)), .ref wm, .int (nI 0), .ref wr, .ref wc, .ref wn, .int (nI sh), .ref ws, .ref wk, .ref wp]))) ∨ ((blw x (nI 4) && (!decide (nn = 30) && blw y (nI nn))) = false ∧ zv = some (.int (-1 : Int32)) ∧ zV = V))) V 0 0 [(0, .ref m), (1, .int x), (2, .int y)] 0 []
  refine k_aload_n C dX7_graph_0 rfl 0 rfl ?_
  refine k_iload_n C dX7_graph_1 rfl 1 rfl ?_
  refine k_iconst (v := nI 0) C dX7_graph_2 rfl ?_
  refine k_iconst (v := nI 3) C dX7_graph_3 rfl ?_
  refine k_callS_pi C ms_7_45 (c_X7_within   ) rfl rfl (by simp [Value.category]) ⟨Nat.le_of_ble_eq_true rfl, Nat.le_of_ble_eq_true rfl⟩ ⟨(by decide), (by decide)⟩ dX7_graph_4 ?_
  refine k_if_eq (tgt := 22) C dX7_graph_7 (by decide) (fun c7 => ?_) (fun c7 => ?_)
  · skip
    have b7 : (wi x (nI 0) (nI 3)) = false := bI_0.mp c7
    first | rw [wi_b (by omega)] at b7 | rw [wi_s] at b7
    refine k_iconst (v := nI 0) C dX7_graph_22 rfl ?_
    refine k_bipush (v := nI 12) C dX7_graph_23 rfl ?_
    refine k_iload_n C dX7_graph_25 rfl 2 rfl ?_
    refine k_iload_n C dX7_graph_26 rfl 1 rfl ?_
    refine k_iconst (v := nI 0) C dX7_graph_27 rfl ?_
    refine k_iconst (v := nI 0) C dX7_graph_28 rfl ?_
    refine k_iconst (v := nI 0) C dX7_graph_29 rfl ?_
    by_cases hn30 : nn = 30
    · skip
      refine k_callV_pi C mv_7_91 (c_make0  h_m h_wm ) h_m rfl rfl (by simp [Value.category]) ⟨Nat.le_of_ble_eq_true rfl, Nat.le_of_ble_eq_true rfl⟩ ⟨(by decide), (by decide)⟩ dX7_graph_30 ?_
      exact k_iret C zr zlk (Or.inr ⟨by simp_all, rfl, rfl⟩) (Nat.le_refl _) (Nat.le_refl _) dX7_graph_33
    · skip
      refine k_callV_pi C mv_7_91 (c_make0  h_m h_wm ) h_m rfl rfl (by simp [Value.category]) ⟨Nat.le_of_ble_eq_true rfl, Nat.le_of_ble_eq_true rfl⟩ ⟨(by decide), (by decide)⟩ dX7_graph_30 ?_
      exact k_iret C zr zlk (Or.inr ⟨by simp_all, rfl, rfl⟩) (Nat.le_refl _) (Nat.le_refl _) dX7_graph_33
  · skip
    have b7 : (wi x (nI 0) (nI 3)) = true := bI_n.mp c7
    first | rw [wi_b (by omega)] at b7 | rw [wi_s] at b7
    refine k_aload_n C dX7_graph_10 rfl 0 rfl ?_
    refine k_iload_n C dX7_graph_11 rfl 2 rfl ?_
    refine k_callV_pi C mv_7_95 (c_X7_isNode  h_m ) h_m rfl rfl (by simp [Value.category]) ⟨Nat.le_of_ble_eq_true rfl, Nat.le_of_ble_eq_true rfl⟩ ⟨(by decide), (by decide)⟩ dX7_graph_12 ?_
    refine k_if_eq (tgt := 22) C dX7_graph_15 (by decide) (fun c15 => ?_) (fun c15 => ?_)
    · skip
      have b15 : (blw y (nI nn)) = false := bI_0.mp c15
      refine k_iconst (v := nI 0) C dX7_graph_22 rfl ?_
      refine k_bipush (v := nI 12) C dX7_graph_23 rfl ?_
      refine k_iload_n C dX7_graph_25 rfl 2 rfl ?_
      refine k_iload_n C dX7_graph_26 rfl 1 rfl ?_
      refine k_iconst (v := nI 0) C dX7_graph_27 rfl ?_
      refine k_iconst (v := nI 0) C dX7_graph_28 rfl ?_
      refine k_iconst (v := nI 0) C dX7_graph_29 rfl ?_
      by_cases hn30 : nn = 30
      · skip
        refine k_callV_pi C mv_7_91 (c_make0  h_m h_wm ) h_m rfl rfl (by simp [Value.category]) ⟨Nat.le_of_ble_eq_true rfl, Nat.le_of_ble_eq_true rfl⟩ ⟨(by decide), (by decide)⟩ dX7_graph_30 ?_
        exact k_iret C zr zlk (Or.inr ⟨by simp_all, rfl, rfl⟩) (Nat.le_refl _) (Nat.le_refl _) dX7_graph_33
      · skip
        refine k_callV_pi C mv_7_91 (c_make0  h_m h_wm ) h_m rfl rfl (by simp [Value.category]) ⟨Nat.le_of_ble_eq_true rfl, Nat.le_of_ble_eq_true rfl⟩ ⟨(by decide), (by decide)⟩ dX7_graph_30 ?_
        exact k_iret C zr zlk (Or.inr ⟨by simp_all, rfl, rfl⟩) (Nat.le_refl _) (Nat.le_refl _) dX7_graph_33
    · skip
      have b15 : (blw y (nI nn)) = true := bI_n.mp c15
      refine k_iconst (v := nI 1) C dX7_graph_18 rfl ?_
      refine k_goto (tgt := 23) C dX7_graph_19 (by decide) ?_
      refine k_bipush (v := nI 12) C dX7_graph_23 rfl ?_
      refine k_iload_n C dX7_graph_25 rfl 2 rfl ?_
      refine k_iload_n C dX7_graph_26 rfl 1 rfl ?_
      refine k_iconst (v := nI 0) C dX7_graph_27 rfl ?_
      refine k_iconst (v := nI 0) C dX7_graph_28 rfl ?_
      refine k_iconst (v := nI 0) C dX7_graph_29 rfl ?_
      by_cases hn30 : nn = 30
      · skip
        refine k_callV_pi C mv_7_91 (c_makeF  h_m h_wm hn30) h_m rfl rfl (by simp [Value.category]) ⟨Nat.le_of_ble_eq_true rfl, Nat.le_of_ble_eq_true rfl⟩ ⟨(by decide), (by decide)⟩ dX7_graph_30 ?_
        exact k_iret C zr zlk (Or.inr ⟨by simp_all, rfl, rfl⟩) (Nat.le_refl _) (Nat.le_refl _) dX7_graph_33
      · skip
        refine k_callV_pi C mv_7_91 (c_make1  h_m h_wm (by omega)) h_m rfl rfl (by simp [Value.category]) ⟨Nat.le_of_ble_eq_true rfl, Nat.le_of_ble_eq_true rfl⟩ ⟨(by decide), (by decide)⟩ dX7_graph_30 ?_
        exact k_iret C zr zlk (Or.inl ⟨by simp_all, rfl, rfl⟩) (Nat.le_refl _) (Nat.le_refl _) dX7_graph_33
set_option maxHeartbeats 4000000 in
set_option maxRecDepth 100000 in
theorem c_X7_graphs {zl : Launch} {D : va_G} {cI cN cR : ClassId} {base : Nat} {V : gv_V} {m wt wa wv wm wr wc wn ws wk wp nt ne nn sh : Nat} {kn : Int32} {fm : Nat → Int32} {x y : Int32}  (h_m : V m = some (.inr (7, [.int (nI nt), .ref wt, .int (nI ne), .ref wa, .ref wv, .int (nI nn), .ref wm, .int kn, .ref wr, .ref wc, .ref wn, .int (nI sh), .ref ws, .ref wk, .ref wp]))) (h_wm : V wm = some (.inl (cI, 180, .inl fm))) (hnn : nn ≤ 30) : ct zl D [(cI, .int), (cN, .object "AlgebraTree$Node"), (cR, .object "AlgebraTree$Rows")] base yX7_graphs cX7_graphs 3 (some .int) 2 0 0 [.ref m, .int x, .int y] V (fun zv zV => ((blw x (nI 6) && (!decide (nn = 30) && blw y (nI nn))) = true ∧ zv = some (.int (nI nn)) ∧ zV = gv_up (gv_up V wm (.inl (cI, 180, .inl (upd (upd (upd (upd (upd (upd fm (6 * nn) (nI 13)) (6 * nn + 1) y) (6 * nn + 2) x) (6 * nn + 3) (nI 0)) (6 * nn + 4) (nI 0)) (6 * nn + 5) (nI 0))))) m (.inr (7, [.int (nI nt), .ref wt, .int (nI ne), .ref wa, .ref wv, .int (nI (nn + 1)), .ref wm, .int (nI 0), .ref wr, .ref wc, .ref wn, .int (nI sh), .ref ws, .ref wk, .ref wp]))) ∨ ((blw x (nI 6) && (!decide (nn = 30) && blw y (nI nn))) = false ∧ zv = some (.int (-1 : Int32)) ∧ zV = V)) := by
  refine ct_of "AlgebraTreeModel" rfl (by decide) (Nat.le_of_ble_eq_true rfl) ?_
  intro zp ze zs zm zargs zbelow zmeth zc C zr zlk znm
  refine k_pc (pc' := 0) (st' := []) rfl rfl ?_
  show K zp zl ze (gv_rm 2 0 0) zs zm zargs zbelow zmeth zc D base 3 (gv_E D [(cI, .int), (cN, .object "AlgebraTree$Node"), (cR, .object "AlgebraTree$Rows")] base zbelow zargs zs 0 0 (fun zv zV => ((blw x (nI 6) && (!decide (nn = 30) && blw y (nI nn))) = true ∧ zv = some (.int (nI nn)) ∧ zV = gv_up (gv_up V wm (.inl (cI, 180, .inl (upd (upd (upd (upd (upd (upd fm (6 * nn) (nI 13)) (6 * nn + 1) y) (6 * nn + 2) x) (6 * nn + 3) (nI 0)) (6 * nn + 4) (nI 0)) (6 * nn + 5) (nI 0))))) m (.inr (7, [.int (nI nt), .ref wt, .int (nI ne), .ref wa, .ref wv, .int (nI (nn + 1)), .ref wm, .int (nI 0), .ref wr, .ref wc, .ref wn, .int (nI sh), .ref ws, .ref wk, .ref wp]))) ∨ ((blw x (nI 6) && (!decide (nn = 30) && blw y (nI nn))) = false ∧ zv = some (.int (-1 : Int32)) ∧ zV = V))) V 0 0 [(0, .ref m), (1, .int x), (2, .int y)] 0 []
  refine k_aload_n C dX7_graphs_0 rfl 0 rfl ?_
  refine k_iload_n C dX7_graphs_1 rfl 1 rfl ?_
  refine k_callS_pi C ms_7_58 (c_X7_isVariable   ) rfl rfl (by simp [Value.category]) ⟨Nat.le_of_ble_eq_true rfl, Nat.le_of_ble_eq_true rfl⟩ ⟨(by decide), (by decide)⟩ dX7_graphs_2 ?_
  refine k_if_eq (tgt := 20) C dX7_graphs_5 (by decide) (fun c5 => ?_) (fun c5 => ?_)
  · skip
    have b5 : (blw x (nI 6)) = false := bI_0.mp c5
    refine k_iconst (v := nI 0) C dX7_graphs_20 rfl ?_
    refine k_bipush (v := nI 13) C dX7_graphs_21 rfl ?_
    refine k_iload_n C dX7_graphs_23 rfl 2 rfl ?_
    refine k_iload_n C dX7_graphs_24 rfl 1 rfl ?_
    refine k_iconst (v := nI 0) C dX7_graphs_25 rfl ?_
    refine k_iconst (v := nI 0) C dX7_graphs_26 rfl ?_
    refine k_iconst (v := nI 0) C dX7_graphs_27 rfl ?_
    by_cases hn30 : nn = 30
    · skip
      refine k_callV_pi C mv_7_91 (c_make0  h_m h_wm ) h_m rfl rfl (by simp [Value.category]) ⟨Nat.le_of_ble_eq_true rfl, Nat.le_of_ble_eq_true rfl⟩ ⟨(by decide), (by decide)⟩ dX7_graphs_28 ?_
      exact k_iret C zr zlk (Or.inr ⟨by simp_all, rfl, rfl⟩) (Nat.le_refl _) (Nat.le_refl _) dX7_graphs_31
    · skip
      refine k_callV_pi C mv_7_91 (c_make0  h_m h_wm ) h_m rfl rfl (by simp [Value.category]) ⟨Nat.le_of_ble_eq_true rfl, Nat.le_of_ble_eq_true rfl⟩ ⟨(by decide), (by decide)⟩ dX7_graphs_28 ?_
      exact k_iret C zr zlk (Or.inr ⟨by simp_all, rfl, rfl⟩) (Nat.le_refl _) (Nat.le_refl _) dX7_graphs_31
  · skip
    have b5 : (blw x (nI 6)) = true := bI_n.mp c5
    refine k_aload_n C dX7_graphs_8 rfl 0 rfl ?_
    refine k_iload_n C dX7_graphs_9 rfl 2 rfl ?_
    refine k_callV_pi C mv_7_95 (c_X7_isNode  h_m ) h_m rfl rfl (by simp [Value.category]) ⟨Nat.le_of_ble_eq_true rfl, Nat.le_of_ble_eq_true rfl⟩ ⟨(by decide), (by decide)⟩ dX7_graphs_10 ?_
    refine k_if_eq (tgt := 20) C dX7_graphs_13 (by decide) (fun c13 => ?_) (fun c13 => ?_)
    · skip
      have b13 : (blw y (nI nn)) = false := bI_0.mp c13
      refine k_iconst (v := nI 0) C dX7_graphs_20 rfl ?_
      refine k_bipush (v := nI 13) C dX7_graphs_21 rfl ?_
      refine k_iload_n C dX7_graphs_23 rfl 2 rfl ?_
      refine k_iload_n C dX7_graphs_24 rfl 1 rfl ?_
      refine k_iconst (v := nI 0) C dX7_graphs_25 rfl ?_
      refine k_iconst (v := nI 0) C dX7_graphs_26 rfl ?_
      refine k_iconst (v := nI 0) C dX7_graphs_27 rfl ?_
      by_cases hn30 : nn = 30
      · skip
        refine k_callV_pi C mv_7_91 (c_make0  h_m h_wm ) h_m rfl rfl (by simp [Value.category]) ⟨Nat.le_of_ble_eq_true rfl, Nat.le_of_ble_eq_true rfl⟩ ⟨(by decide), (by decide)⟩ dX7_graphs_28 ?_
        exact k_iret C zr zlk (Or.inr ⟨by simp_all, rfl, rfl⟩) (Nat.le_refl _) (Nat.le_refl _) dX7_graphs_31
      · skip
        refine k_callV_pi C mv_7_91 (c_make0  h_m h_wm ) h_m rfl rfl (by simp [Value.category]) ⟨Nat.le_of_ble_eq_true rfl, Nat.le_of_ble_eq_true rfl⟩ ⟨(by decide), (by decide)⟩ dX7_graphs_28 ?_
        exact k_iret C zr zlk (Or.inr ⟨by simp_all, rfl, rfl⟩) (Nat.le_refl _) (Nat.le_refl _) dX7_graphs_31
    · skip
      have b13 : (blw y (nI nn)) = true := bI_n.mp c13
      refine k_iconst (v := nI 1) C dX7_graphs_16 rfl ?_
      refine k_goto (tgt := 21) C dX7_graphs_17 (by decide) ?_
      refine k_bipush (v := nI 13) C dX7_graphs_21 rfl ?_
      refine k_iload_n C dX7_graphs_23 rfl 2 rfl ?_
      refine k_iload_n C dX7_graphs_24 rfl 1 rfl ?_
      refine k_iconst (v := nI 0) C dX7_graphs_25 rfl ?_
      refine k_iconst (v := nI 0) C dX7_graphs_26 rfl ?_
      refine k_iconst (v := nI 0) C dX7_graphs_27 rfl ?_
      by_cases hn30 : nn = 30
      · skip
        refine k_callV_pi C mv_7_91 (c_makeF  h_m h_wm hn30) h_m rfl rfl (by simp [Value.category]) ⟨Nat.le_of_ble_eq_true rfl, Nat.le_of_ble_eq_true rfl⟩ ⟨(by decide), (by decide)⟩ dX7_graphs_28 ?_
        exact k_iret C zr zlk (Or.inr ⟨by simp_all, rfl, rfl⟩) (Nat.le_refl _) (Nat.le_refl _) dX7_graphs_31
      · skip
        refine k_callV_pi C mv_7_91 (c_make1  h_m h_wm (by omega)) h_m rfl rfl (by simp [Value.category]) ⟨Nat.le_of_ble_eq_true rfl, Nat.le_of_ble_eq_true rfl⟩ ⟨(by decide), (by decide)⟩ dX7_graphs_28 ?_
        exact k_iret C zr zlk (Or.inl ⟨by simp_all, rfl, rfl⟩) (Nat.le_refl _) (Nat.le_refl _) dX7_graphs_31
