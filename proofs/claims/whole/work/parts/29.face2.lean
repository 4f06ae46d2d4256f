theorem blw_of {r n : Nat} (hn : n < 2 ^ 31) (h : r < n) : blw (nI r) (nI n) = true := by
  simp only [blw, Bool.and_eq_true, decide_eq_true_eq]
  exact ⟨Int32.not_lt.mp (nI_pos (by omega)), (nI_ltI (by omega) hn).mpr h⟩
theorem TRep.le {S : Option (List Row)} {n : Nat} {tl : Int32} {f : Nat → Int32} (h : TRep S n tl f) (ht : tl = 0) : n ≤ 80 := by
  cases S with
  | none => exact absurd ht h
  | some M => exact h.2.2.1
theorem CS.ndl {cI cN cR : ClassId} {O : Nat → Prop} {V : gv_V} {mo tr xe nd tb wg ky pl td : Nat} {wf : Nat → Int32} {T : List Tr} {E : Nat → Ex} {ne : Nat} {qk : Nat → Nat} {nv : Nat → Nat → Int32} {nn : Nat} {pT : Nat → Option Nat} {pC pN : Nat → Nat} {pL pM : Nat → Int32} {pF : Nat → Nat → Int32} (h : CS cI cN cR O V mo tr xe nd tb wg ky pl td wf T E ne qk nv nn pT pC pN pL pM pF) : ∃ nl, V nd = some (.inr (3, [.ref nl, .int (nI nn)])) := by
  obtain ⟨tga, tsa, tpa, tqa, tg, ts, tp, tq, ak, af, as, ap, av, kd, fs, sc, pt, vl, nl, nf, tf, na, kf, pf, fmo, ftr, ftg, fts, ftp, ftq, fxe, fak, faf, fas, fap, fav, fnd, fnl, fwg, fky, fpl, ftb, hT, hdt, hX, hd6, hnn, hnd, hnw, hky, htf, hpo, htd, hnu, hfr, hmd, hO0, hOf, hOn, hOp⟩ := h
  exact ⟨nl, fnd⟩
set_option maxHeartbeats 4000000 in
set_option maxRecDepth 100000 in
theorem c_X4_become {zl : Launch} {D : va_G} {cI cN cR : ClassId} {base : Nat} {V : gv_V} {a c n : Nat} {tl mk : Int32} {f : Nat → Int32} {b c2 n2 : Nat} {tl2 mk2 : Int32} {g : Nat → Int32}  (h_a : V a = some (.inr (4, [.ref c, .int (nI n), .int tl, .int mk]))) (h_c : V c = some (.inl (cI, 486, .inl f))) (h_b : V b = some (.inr (4, [.ref c2, .int (nI n2), .int tl2, .int mk2]))) (h_c2 : V c2 = some (.inl (cI, 486, .inl g))) (hn2 : n2 ≤ 80) (hab : nq c c2) (hba : nq a b) : ct zl D [(cI, .int), (cN, .object "AlgebraTree$Node"), (cR, .object "AlgebraTree$Rows")] base yX4_become cX4_become 2 none 1 0 0 [.ref a, .ref b] V (pv (gv_up (gv_up V c (.inl (cI, 486, .inl (va_cpy g f 0 0 (n2 * 6))))) a (.inr (4, [.ref c, .int (nI n2), .int tl, .int mk])))) := by
  refine ct_of "AlgebraTree$Rows" rfl (by decide) (Nat.le_of_ble_eq_true rfl) ?_
  intro zp ze zs zm zargs zbelow zmeth zc C zr zlk znm
  refine k_pc (pc' := 0) (st' := []) rfl rfl ?_
  show K zp zl ze (gv_rm 1 0 0) zs zm zargs zbelow zmeth zc D base 2 (gv_E D [(cI, .int), (cN, .object "AlgebraTree$Node"), (cR, .object "AlgebraTree$Rows")] base zbelow zargs zs 0 0 (pv (gv_up (gv_up V c (.inl (cI, 486, .inl (va_cpy g f 0 0 (n2 * 6))))) a (.inr (4, [.ref c, .int (nI n2), .int tl, .int mk]))))) V 0 0 [(0, .ref a), (1, .ref b)] 0 []
  refine k_aload_n C dX4_become_0 rfl 1 rfl ?_
  refine k_get (ci := 4) (k := 0) C fl_4_9 h_b rfl dX4_become_1 ?_
  refine k_iconst (v := nI 0) C dX4_become_4 rfl ?_
  refine k_aload_n C dX4_become_5 rfl 0 rfl ?_
  refine k_get (ci := 4) (k := 0) C fl_4_9 h_a rfl dX4_become_6 ?_
  refine k_iconst (v := nI 0) C dX4_become_9 rfl ?_
  refine k_aload_n C dX4_become_10 rfl 1 rfl ?_
  refine k_get (ci := 4) (k := 1) C fl_4_19 h_b rfl dX4_become_11 ?_
  refine k_bipush (v := nI 6) C dX4_become_14 rfl ?_
  refine k_imul C dX4_become_16 ?_
  refine k_val (y := nI (n2 * 6)) (pk_mul n2 6) ?_
  refine k_copyi (h := va_cpy g f 0 0 (n2 * 6)) C wd_591 wd_593 wd_592 wd_54 0 h_c2 h_c rfl (nI_pos (by decide)) (nI_pos (by decide)) (nI_pos (by omega)) (by rw [nI_clamp (by omega), nI_clamp (by omega)]; omega) (by rw [nI_clamp (by omega), nI_clamp (by omega)]; omega) (by rw [nI_clamp (by omega), nI_clamp (by omega)]) (Nat.le_of_ble_eq_true rfl) (Nat.le_of_ble_eq_true rfl) dX4_become_17 ?_
  refine k_aload_n C dX4_become_20 rfl 0 rfl ?_
  refine k_aload_n C dX4_become_21 rfl 1 rfl ?_
  have ne1 : nq b c := gv_ne h_c h_b (by simp)
  refine k_get (ci := 4) (k := 1) C fl_4_19 ((gv_up_n ne1).trans h_b) rfl dX4_become_22 ?_
  have ne2 : nq a c := gv_ne h_c h_a (by simp)
  refine k_put (ci := 4) (k := 1) (fs' := [.ref c, .int (nI n2), .int tl, .int mk]) C fl_4_19 pf_4_1 ((gv_up_n ne2).trans h_a) rfl rfl (Nat.le_of_ble_eq_true rfl) rfl dX4_become_25 ?_
  exact k_vret C zr zlk (pv_of rfl) (Nat.le_refl _) (Nat.le_refl _) dX4_become_28
set_option maxHeartbeats 4000000 in
set_option maxRecDepth 100000 in
theorem c_run {zl : Launch} {D : va_G} {cI cN cR : ClassId} {base : Nat} {V : gv_V} {ob : Nat} {O : Nat → Prop} {mo tr xe nd tb wg ky pl td : Nat} {wf : Nat → Int32} {T : List Tr} {E : Nat → Ex} {ne : Nat} {qk : Nat → Nat} {nv : Nat → Nat → Int32} {nn : Nat} {pT : Nat → Option Nat} {pC pN : Nat → Nat} {pL pM : Nat → Int32} {pF : Nat → Nat → Int32} {r : Nat}  (h_ob : V ob = some (.inr (6, [.ref mo, .ref tr, .ref xe, .ref nd, .ref td]))) (hCS : CS cI cN cR O V mo tr xe nd tb wg ky pl td wf T E ne qk nv nn pT pC pN pL pM pF) (hnO : ¬ O ob) (hr : r < nn) : ct zl D [(cI, .int), (cN, .object "AlgebraTree$Node"), (cR, .object "AlgebraTree$Rows")] base yX6_run cX6_run 3 (some .int) 7 (2 * cw (wnt qk nv r wf) pT ((r + 1) * 4)) (490 * cw (wnt qk nv r wf) pT ((r + 1) * 4)) [.ref ob, .int (nI r)] V (fun zv zV => ∃ (qT : Nat → Option Nat) (qC qN : Nat → Nat) (qL qM : Nat → Int32) (qF : Nat → Nat → Int32) (W : gv_V), CS cI cN cR O W mo tr xe nd tb wg ky pl td (wnt qk nv r wf) T E ne qk nv nn qT qC qN qL qM qF ∧ (∀ q, ¬ O q → W q = V q) ∧ TRep (sem T E qk nv r 0) (qN (r * 4)) (qL (r * 4)) (qF (r * 4)) ∧ (qC 120 = pC 120 ∧ qN 120 = pN 120 ∧ qL 120 = pL 120 ∧ qF 120 = pF 120) ∧ cnt (fun p => (qT p).isSome) 120 = cnt (fun p => (pT p).isSome) 120 + cw (wnt qk nv r wf) pT ((r + 1) * 4) ∧ ((¬ qL (r * 4) = 0 ∧ zv = some (.int (-2 : Int32)) ∧ zV = W) ∨ (qL (r * 4) = 0 ∧ zv = some (.int (nI (qN (r * 4)))) ∧ zV = gv_up (gv_up W (qC 120) (.inl (cI, 486, .inl (va_cpy (qF (r * 4)) (qF 120) 0 0 (qN (r * 4) * 6))))) td (.inr (4, [.ref (qC 120), .int (nI (qN (r * 4))), .int (qL 120), .int (qM 120)]))))) := by
  refine ct_of "AlgebraTree" rfl (by decide) (Nat.le_of_ble_eq_true rfl) ?_
  intro zp ze zs zm zargs zbelow zmeth zc C zr zlk znm
  refine k_pc (pc' := 0) (st' := []) rfl rfl ?_
  show K zp zl ze (gv_rm 7 (2 * cw (wnt qk nv r wf) pT ((r + 1) * 4)) (490 * cw (wnt qk nv r wf) pT ((r + 1) * 4))) zs zm zargs zbelow zmeth zc D base 3 (gv_E D [(cI, .int), (cN, .object "AlgebraTree$Node"), (cR, .object "AlgebraTree$Rows")] base zbelow zargs zs (2 * cw (wnt qk nv r wf) pT ((r + 1) * 4)) (490 * cw (wnt qk nv r wf) pT ((r + 1) * 4)) (fun zv zV => ∃ (qT : Nat → Option Nat) (qC qN : Nat → Nat) (qL qM : Nat → Int32) (qF : Nat → Nat → Int32) (W : gv_V), CS cI cN cR O W mo tr xe nd tb wg ky pl td (wnt qk nv r wf) T E ne qk nv nn qT qC qN qL qM qF ∧ (∀ q, ¬ O q → W q = V q) ∧ TRep (sem T E qk nv r 0) (qN (r * 4)) (qL (r * 4)) (qF (r * 4)) ∧ (qC 120 = pC 120 ∧ qN 120 = pN 120 ∧ qL 120 = pL 120 ∧ qF 120 = pF 120) ∧ cnt (fun p => (qT p).isSome) 120 = cnt (fun p => (pT p).isSome) 120 + cw (wnt qk nv r wf) pT ((r + 1) * 4) ∧ ((¬ qL (r * 4) = 0 ∧ zv = some (.int (-2 : Int32)) ∧ zV = W) ∨ (qL (r * 4) = 0 ∧ zv = some (.int (nI (qN (r * 4)))) ∧ zV = gv_up (gv_up W (qC 120) (.inl (cI, 486, .inl (va_cpy (qF (r * 4)) (qF 120) 0 0 (qN (r * 4) * 6))))) td (.inr (4, [.ref (qC 120), .int (nI (qN (r * 4))), .int (qL 120), .int (qM 120)])))))) V 0 0 [(0, .ref ob), (1, .int (nI r))] 0 []
  obtain ⟨nl, h_nd⟩ := CS.ndl hCS
  have h_mo := CS.mo hCS
  obtain ⟨hnn, hT60, hnw⟩ := CS.nw hCS
  have hbr : blw (nI r) (nI nn) = true := blw_of (by omega) hr
  refine k_aload_n C dX6_run_0 rfl 0 rfl ?_
  refine k_get (ci := 6) (k := 3) C fl_6_30 h_ob rfl dX6_run_1 ?_
  refine k_iload_n C dX6_run_4 rfl 1 rfl ?_
  refine k_callV_pi C mv_6_103 (c_X3_has  h_nd ) h_nd rfl rfl (by simp [Value.category]) ⟨Nat.le_of_ble_eq_true rfl, Nat.le_of_ble_eq_true rfl⟩ ⟨(by simp only [gv_rm]; omega), (by simp only [gv_rm]; omega)⟩ dX6_run_5 ?_
  refine k_if_ne (tgt := 13) C dX6_run_8 (by decide) (fun c8 => ?_) (fun c8 => ?_)
  · skip
    have b8 : (blw (nI r) (nI nn)) = true := bI_n.mp c8
    refine k_aload_n C dX6_run_13 rfl 0 rfl ?_
    refine k_get (ci := 6) (k := 0) C fl_6_12 h_ob rfl dX6_run_14 ?_
    refine k_iload_n C dX6_run_17 rfl 1 rfl ?_
    refine k_callV C mv_6_135 (c_rowsOf   hCS hr) h_mo rfl rfl (by simp [Value.category]) ⟨Nat.le_of_ble_eq_true rfl, Nat.le_of_ble_eq_true rfl⟩ ⟨(Nat.le_of_eq (Nat.zero_add _)), (Nat.le_of_eq (Nat.zero_add _))⟩ dX6_run_18 (fun zv W2 zh => ?_)
    obtain ⟨t_w1, rfl, qT_w1, qC_w1, qN_w1, qL_w1, qM_w1, qF_w1, hcs_w1, hfm_w1, ht_w1, hm_w1, hkp_w1, htd_w1, hct_w1, hsq_w1, hkm_w1⟩ := zh
    refine k_pc (pc' := 21) (st' := .ref t_w1 :: []) rfl rfl ?_
    have hob_w1 := (hfm_w1 ob hnO).trans h_ob
    have hp1_w1 := (CS.po hcs_w1).1 (r * 4) t_w1 (by omega) ht_w1
    have hp2_w1 := (CS.po hcs_w1).1 120 td (by omega) (CS.po hcs_w1).2
    have hS_w1 := CS.fr hcs_w1 (i := r) (g := 0) (by omega) (by omega) ht_w1 hm_w1
    simp only [Nat.add_zero] at hS_w1
    refine k_astore_n (lv' := [(2, .ref t_w1), (0, .ref ob), (1, .int (nI r))]) C dX6_run_21 rfl (by decide) rfl ?_
    refine k_aload_n C dX6_run_22 rfl 0 rfl ?_
    refine k_get (ci := 4) (k := 2) C fl_6_139 hp1_w1.1 rfl dX6_run_23 ?_
    refine k_if_eq (tgt := 32) C dX6_run_26 (by decide) (fun c26 => ?_) (fun c26 => ?_)
    · skip
      refine k_aload_n C dX6_run_32 rfl 1 rfl ?_
      refine k_get (ci := 6) (k := 4) C fl_6_34 hob_w1 rfl dX6_run_33 ?_
      refine k_aload_n C dX6_run_36 rfl 0 rfl ?_
      have hn80 : qN_w1 (r * 4) ≤ 80 := TRep.le hS_w1 c26
      refine k_callV_pv C mv_6_142 (c_X4_become  hp2_w1.1 hp2_w1.2.1 hp1_w1.1 hp1_w1.2.1 hn80 (hp1_w1.2.2 120 td (by omega) (CS.po hcs_w1).2 (by omega)).2 (hp1_w1.2.2 120 td (by omega) (CS.po hcs_w1).2 (by omega)).1) hp2_w1.1 rfl rfl (by simp [Value.category]) ⟨Nat.le_of_ble_eq_true rfl, Nat.le_of_ble_eq_true rfl⟩ ⟨(by simp only [gv_rm]; omega), (by simp only [gv_rm]; omega)⟩ dX6_run_37 ?_
      refine k_aload_n C dX6_run_40 rfl 1 rfl ?_
      have ne3 : nq ob (qC_w1 (120)) := gv_ne hp2_w1.2.1 hob_w1 (by simp)
      have ne4 : nq ob td := gv_ne hp2_w1.1 hob_w1 (by simp)
      refine k_get (ci := 6) (k := 4) C fl_6_34 ((gv_up_n ne4).trans ((gv_up_n ne3).trans hob_w1)) rfl dX6_run_41 ?_
      refine k_get (ci := 4) (k := 1) C fl_6_146 gv_up_s rfl dX6_run_44 ?_
      exact k_iret C zr zlk ⟨qT_w1, qC_w1, qN_w1, qL_w1, qM_w1, qF_w1, W2, hcs_w1, hfm_w1, hS_w1, htd_w1, hct_w1, Or.inr ⟨c26, rfl, rfl⟩⟩ (Nat.le_of_eq (Nat.zero_add _)) (Nat.le_of_eq (Nat.zero_add _)) dX6_run_47
    · skip
      refine k_bipush (v := (-2 : Int32)) C dX6_run_29 (by decide) ?_
      exact k_iret C zr zlk ⟨qT_w1, qC_w1, qN_w1, qL_w1, qM_w1, qF_w1, W2, hcs_w1, hfm_w1, hS_w1, htd_w1, hct_w1, Or.inl ⟨c26, rfl, rfl⟩⟩ (Nat.le_of_eq (Nat.zero_add _)) (Nat.le_of_eq (Nat.zero_add _)) dX6_run_31
  · skip
    exact absurd (bI_0.mp c8) (by rw [hbr]; decide)
set_option maxHeartbeats 4000000 in
set_option maxRecDepth 100000 in
theorem c_runN {zl : Launch} {D : va_G} {cI cN cR : ClassId} {base : Nat} {V : gv_V} {ob mo tr xe td nd nl nn : Nat} {x : Int32}  (h_ob : V ob = some (.inr (6, [.ref mo, .ref tr, .ref xe, .ref nd, .ref td]))) (h_nd : V nd = some (.inr (3, [.ref nl, .int (nI nn)]))) (hb : blw x (nI nn) = false) : ct zl D [(cI, .int), (cN, .object "AlgebraTree$Node"), (cR, .object "AlgebraTree$Rows")] base yX6_run cX6_run 3 (some .int) 7 0 0 [.ref ob, .int x] V (pi (-1 : Int32) V) := by
  refine ct_of "AlgebraTree" rfl (by decide) (Nat.le_of_ble_eq_true rfl) ?_
  intro zp ze zs zm zargs zbelow zmeth zc C zr zlk znm
  refine k_pc (pc' := 0) (st' := []) rfl rfl ?_
  show K zp zl ze (gv_rm 7 0 0) zs zm zargs zbelow zmeth zc D base 3 (gv_E D [(cI, .int), (cN, .object "AlgebraTree$Node"), (cR, .object "AlgebraTree$Rows")] base zbelow zargs zs 0 0 (pi (-1 : Int32) V)) V 0 0 [(0, .ref ob), (1, .int x)] 0 []
  refine k_aload_n C dX6_run_0 rfl 0 rfl ?_
  refine k_get (ci := 6) (k := 3) C fl_6_30 h_ob rfl dX6_run_1 ?_
  refine k_iload_n C dX6_run_4 rfl 1 rfl ?_
  refine k_callV_pi C mv_6_103 (c_X3_has  h_nd ) h_nd rfl rfl (by simp [Value.category]) ⟨Nat.le_of_ble_eq_true rfl, Nat.le_of_ble_eq_true rfl⟩ ⟨(by decide), (by decide)⟩ dX6_run_5 ?_
  refine k_if_ne (tgt := 13) C dX6_run_8 (by decide) (fun c8 => ?_) (fun c8 => ?_)
  · skip
    exact absurd (bI_0.mpr hb) c8
  · skip
    have b8 : (blw x (nI nn)) = false := bI_0.mp c8
    refine k_iconst (v := (-1 : Int32)) C dX6_run_11 (by decide) ?_
    exact k_iret C zr zlk (pi_of rfl rfl) (Nat.le_refl _) (Nat.le_refl _) dX6_run_12
set_option maxHeartbeats 4000000 in
set_option maxRecDepth 100000 in
theorem c_same {zl : Launch} {D : va_G} {cI cN cR : ClassId} {base : Nat} {V : gv_V} {ob : Nat} {O : Nat → Prop} {mo tr xe nd tb wg ky pl td : Nat} {wf : Nat → Int32} {T : List Tr} {E : Nat → Ex} {ne : Nat} {qk : Nat → Nat} {nv : Nat → Nat → Int32} {nn : Nat} {pT : Nat → Option Nat} {pC pN : Nat → Nat} {pL pM : Nat → Int32} {pF : Nat → Nat → Int32} {r r2 : Nat}  (h_ob : V ob = some (.inr (6, [.ref mo, .ref tr, .ref xe, .ref nd, .ref td]))) (hCS : CS cI cN cR O V mo tr xe nd tb wg ky pl td wf T E ne qk nv nn pT pC pN pL pM pF) (hnO : ¬ O ob) (hr : r < nn) (hr2 : r2 < nn) : ct zl D [(cI, .int), (cN, .object "AlgebraTree$Node"), (cR, .object "AlgebraTree$Rows")] base yX6_same cX6_same 5 (some .boolean) 7 (2 * cw (wnt qk nv r wf) pT ((r + 1) * 4) + 2 * cw (wnt qk nv r2 (wnt qk nv r wf)) (fun p => if p < (r + 1) * 4 ∧ wbt (wnt qk nv r wf) (p / 4) (p % 4) = true then some 0 else pT p) ((r2 + 1) * 4)) (490 * cw (wnt qk nv r wf) pT ((r + 1) * 4) + 490 * cw (wnt qk nv r2 (wnt qk nv r wf)) (fun p => if p < (r + 1) * 4 ∧ wbt (wnt qk nv r wf) (p / 4) (p % 4) = true then some 0 else pT p) ((r2 + 1) * 4)) [.ref ob, .int (nI r), .int (nI r2)] V (fun zv zV => ∃ (qT : Nat → Option Nat) (qC qN : Nat → Nat) (qL qM : Nat → Int32) (qF : Nat → Nat → Int32), CS cI cN cR O zV mo tr xe nd tb wg ky pl td (wnt qk nv r2 (wnt qk nv r wf)) T E ne qk nv nn qT qC qN qL qM qF ∧ (∀ q, ¬ O q → zV q = V q) ∧ TRep (sem T E qk nv r 0) (qN (r * 4)) (qL (r * 4)) (qF (r * 4)) ∧ TRep (sem T E qk nv r2 0) (qN (r2 * 4)) (qL (r2 * 4)) (qF (r2 * 4)) ∧ (qC 120 = pC 120 ∧ qN 120 = pN 120 ∧ qL 120 = pL 120 ∧ qF 120 = pF 120) ∧ cnt (fun p => (qT p).isSome) 120 = cnt (fun p => (pT p).isSome) 120 + (cw (wnt qk nv r wf) pT ((r + 1) * 4) + cw (wnt qk nv r2 (wnt qk nv r wf)) (fun p => if p < (r + 1) * 4 ∧ wbt (wnt qk nv r wf) (p / 4) (p % 4) = true then some 0 else pT p) ((r2 + 1) * 4)) ∧ zv = some (.int (bI (decide (qL (r * 4) = 0) && decide (qL (r2 * 4) = 0) && sbag (qF (r * 4)) (qN (r * 4)) (qF (r2 * 4)) (qN (r2 * 4)))))) := by
  refine ct_of "AlgebraTree" rfl (by decide) (Nat.le_of_ble_eq_true rfl) ?_
  intro zp ze zs zm zargs zbelow zmeth zc C zr zlk znm
  refine k_pc (pc' := 0) (st' := []) rfl rfl ?_
  show K zp zl ze (gv_rm 7 (2 * cw (wnt qk nv r wf) pT ((r + 1) * 4) + 2 * cw (wnt qk nv r2 (wnt qk nv r wf)) (fun p => if p < (r + 1) * 4 ∧ wbt (wnt qk nv r wf) (p / 4) (p % 4) = true then some 0 else pT p) ((r2 + 1) * 4)) (490 * cw (wnt qk nv r wf) pT ((r + 1) * 4) + 490 * cw (wnt qk nv r2 (wnt qk nv r wf)) (fun p => if p < (r + 1) * 4 ∧ wbt (wnt qk nv r wf) (p / 4) (p % 4) = true then some 0 else pT p) ((r2 + 1) * 4))) zs zm zargs zbelow zmeth zc D base 5 (gv_E D [(cI, .int), (cN, .object "AlgebraTree$Node"), (cR, .object "AlgebraTree$Rows")] base zbelow zargs zs (2 * cw (wnt qk nv r wf) pT ((r + 1) * 4) + 2 * cw (wnt qk nv r2 (wnt qk nv r wf)) (fun p => if p < (r + 1) * 4 ∧ wbt (wnt qk nv r wf) (p / 4) (p % 4) = true then some 0 else pT p) ((r2 + 1) * 4)) (490 * cw (wnt qk nv r wf) pT ((r + 1) * 4) + 490 * cw (wnt qk nv r2 (wnt qk nv r wf)) (fun p => if p < (r + 1) * 4 ∧ wbt (wnt qk nv r wf) (p / 4) (p % 4) = true then some 0 else pT p) ((r2 + 1) * 4)) (fun zv zV => ∃ (qT : Nat → Option Nat) (qC qN : Nat → Nat) (qL qM : Nat → Int32) (qF : Nat → Nat → Int32), CS cI cN cR O zV mo tr xe nd tb wg ky pl td (wnt qk nv r2 (wnt qk nv r wf)) T E ne qk nv nn qT qC qN qL qM qF ∧ (∀ q, ¬ O q → zV q = V q) ∧ TRep (sem T E qk nv r 0) (qN (r * 4)) (qL (r * 4)) (qF (r * 4)) ∧ TRep (sem T E qk nv r2 0) (qN (r2 * 4)) (qL (r2 * 4)) (qF (r2 * 4)) ∧ (qC 120 = pC 120 ∧ qN 120 = pN 120 ∧ qL 120 = pL 120 ∧ qF 120 = pF 120) ∧ cnt (fun p => (qT p).isSome) 120 = cnt (fun p => (pT p).isSome) 120 + (cw (wnt qk nv r wf) pT ((r + 1) * 4) + cw (wnt qk nv r2 (wnt qk nv r wf)) (fun p => if p < (r + 1) * 4 ∧ wbt (wnt qk nv r wf) (p / 4) (p % 4) = true then some 0 else pT p) ((r2 + 1) * 4)) ∧ zv = some (.int (bI (decide (qL (r * 4) = 0) && decide (qL (r2 * 4) = 0) && sbag (qF (r * 4)) (qN (r * 4)) (qF (r2 * 4)) (qN (r2 * 4))))))) V 0 0 [(0, .ref ob), (1, .int (nI r)), (2, .int (nI r2))] 0 []
  obtain ⟨nl, h_nd⟩ := CS.ndl hCS
  have h_mo := CS.mo hCS
  obtain ⟨hnn, hT60, hnw⟩ := CS.nw hCS
  have hbr : blw (nI r) (nI nn) = true := blw_of (by omega) hr
  have hbr2 : blw (nI r2) (nI nn) = true := blw_of (by omega) hr2
  refine k_aload_n C dX6_same_0 rfl 0 rfl ?_
  refine k_get (ci := 6) (k := 3) C fl_6_30 h_ob rfl dX6_same_1 ?_
  refine k_iload_n C dX6_same_4 rfl 1 rfl ?_
  refine k_callV_pi C mv_6_103 (c_X3_has  h_nd ) h_nd rfl rfl (by simp [Value.category]) ⟨Nat.le_of_ble_eq_true rfl, Nat.le_of_ble_eq_true rfl⟩ ⟨(by simp only [gv_rm]; omega), (by simp only [gv_rm]; omega)⟩ dX6_same_5 ?_
  refine k_if_eq (tgt := 22) C dX6_same_8 (by decide) (fun c8 => ?_) (fun c8 => ?_)
  · skip
    exact absurd (bI_0.mp c8) (by rw [hbr]; decide)
  · skip
    have b8 : (blw (nI r) (nI nn)) = true := bI_n.mp c8
    refine k_aload_n C dX6_same_11 rfl 0 rfl ?_
    refine k_get (ci := 6) (k := 3) C fl_6_30 h_ob rfl dX6_same_12 ?_
    refine k_iload_n C dX6_same_15 rfl 2 rfl ?_
    refine k_callV_pi C mv_6_103 (c_X3_has  h_nd ) h_nd rfl rfl (by simp [Value.category]) ⟨Nat.le_of_ble_eq_true rfl, Nat.le_of_ble_eq_true rfl⟩ ⟨(by simp only [gv_rm]; omega), (by simp only [gv_rm]; omega)⟩ dX6_same_16 ?_
    refine k_if_ne (tgt := 24) C dX6_same_19 (by decide) (fun c19 => ?_) (fun c19 => ?_)
    · skip
      have b19 : (blw (nI r2) (nI nn)) = true := bI_n.mp c19
      refine k_aload_n C dX6_same_24 rfl 0 rfl ?_
      refine k_get (ci := 6) (k := 0) C fl_6_12 h_ob rfl dX6_same_25 ?_
      refine k_iload_n C dX6_same_28 rfl 1 rfl ?_
      refine k_callV C mv_6_135 (c_rowsOf   hCS hr) h_mo rfl rfl (by simp [Value.category]) ⟨Nat.le_of_ble_eq_true rfl, Nat.le_of_ble_eq_true rfl⟩ ⟨(by simp only [gv_rm]; omega), (by simp only [gv_rm]; omega)⟩ dX6_same_29 (fun zv W2 zh => ?_)
      obtain ⟨t_w1, rfl, qT_w1, qC_w1, qN_w1, qL_w1, qM_w1, qF_w1, hcs_w1, hfm_w1, ht_w1, hm_w1, hkp_w1, htd_w1, hct_w1, hsq_w1, hkm_w1⟩ := zh
      refine k_pc (pc' := 32) (st' := .ref t_w1 :: []) rfl rfl ?_
      have hob_w1 := (hfm_w1 ob hnO).trans h_ob
      have hp1_w1 := (CS.po hcs_w1).1 (r * 4) t_w1 (by omega) ht_w1
      have hp2_w1 := (CS.po hcs_w1).1 120 td (by omega) (CS.po hcs_w1).2
      have hS_w1 := CS.fr hcs_w1 (i := r) (g := 0) (by omega) (by omega) ht_w1 hm_w1
      simp only [Nat.add_zero] at hS_w1
      refine k_astore_n (lv' := [(3, .ref t_w1), (0, .ref ob), (1, .int (nI r)), (2, .int (nI r2))]) C dX6_same_32 rfl (by decide) rfl ?_
      refine k_aload_n C dX6_same_33 rfl 1 rfl ?_
      refine k_get (ci := 6) (k := 0) C fl_6_12 hob_w1 rfl dX6_same_34 ?_
      refine k_iload_n C dX6_same_37 rfl 3 rfl ?_
      have hcw2 : cw (wnt qk nv r2 (wnt qk nv r wf)) qT_w1 ((r2 + 1) * 4) = cw (wnt qk nv r2 (wnt qk nv r wf)) (fun p => if p < (r + 1) * 4 ∧ wbt (wnt qk nv r wf) (p / 4) (p % 4) = true then some 0 else pT p) ((r2 + 1) * 4) := cnt_c (fun p hp => by
        have h := hsq_w1 p (by omega)
        have e : (qT_w1 p).isNone = ((fun p => if p < (r + 1) * 4 ∧ wbt (wnt qk nv r wf) (p / 4) (p % 4) = true then some 0 else pT p) p).isNone := by
          show _ = (if p < (r + 1) * 4 ∧ wbt (wnt qk nv r wf) (p / 4) (p % 4) = true then some 0 else pT p).isNone
          cases h1 : wbt (wnt qk nv r wf) (p / 4) (p % 4) with
          | true =>
            by_cases h2 : p < (r + 1) * 4
            · simp only [h1, decide_eq_true h2, Bool.and_self, Bool.or_true] at h
              rw [if_pos ⟨h2, rfl⟩]
              cases hq : qT_w1 p with
              | none => rw [hq] at h; cases h
              | some _ => rfl
            · simp only [decide_eq_false h2, Bool.false_and, Bool.or_false] at h
              rw [if_neg (fun h9 => h2 h9.1)]
              cases hq : qT_w1 p <;> cases hr : pT p <;> simp_all
          | false =>
            simp only [h1, Bool.and_false, Bool.or_false] at h
            rw [if_neg (fun h9 => by cases h9.2)]
            cases hq : qT_w1 p <;> cases hr : pT p <;> simp_all
        rw [e])
      refine k_callV C mv_6_135 (c_rowsOf   hcs_w1 hr2) (CS.mo hcs_w1) rfl rfl (by simp [Value.category]) ⟨Nat.le_of_ble_eq_true rfl, Nat.le_of_ble_eq_true rfl⟩ ⟨(by rw [hcw2]; simp only [gv_rm]; omega), (by rw [hcw2]; simp only [gv_rm]; omega)⟩ dX6_same_38 (fun zv W4 zh => ?_)
      obtain ⟨t_w3, rfl, qT_w3, qC_w3, qN_w3, qL_w3, qM_w3, qF_w3, hcs_w3, hfm_w3, ht_w3, hm_w3, hkp_w3, htd_w3, hct_w3, hsq_w3, hkm_w3⟩ := zh
      refine k_pc (pc' := 41) (st' := .ref t_w3 :: []) rfl rfl ?_
      have hob_w3 := (hfm_w3 ob hnO).trans hob_w1
      have hp1_w3 := (CS.po hcs_w3).1 (r2 * 4) t_w3 (by omega) ht_w3
      have hp2_w3 := (CS.po hcs_w3).1 120 td (by omega) (CS.po hcs_w3).2
      have hS_w3 := CS.fr hcs_w3 (i := r2) (g := 0) (by omega) (by omega) ht_w3 hm_w3
      simp only [Nat.add_zero] at hS_w3
      have ht1_w3 := hkp_w3 (r * 4) t_w1 (by omega) ht_w1
      have hp3_w3 := (CS.po hcs_w3).1 (r * 4) t_w1 (by omega) ht1_w3
      have hS3_w3 := CS.fr hcs_w3 (i := r) (g := 0) (by omega) (by omega) ht1_w3 (hkm_w3 (r * 4) (by omega) hm_w1)
      simp only [Nat.add_zero] at hS3_w3
      refine k_astore (lv' := [(4, .ref t_w3), (3, .ref t_w1), (0, .ref ob), (1, .int (nI r)), (2, .int (nI r2))]) C dX6_same_41 (by decide) rfl ?_
      refine k_aload_n C dX6_same_43 rfl 1 rfl ?_
      refine k_get (ci := 4) (k := 2) C fl_6_139 hp3_w3.1 rfl dX6_same_44 ?_
      refine k_if_ne (tgt := 71) C dX6_same_47 (by decide) (fun c47 => ?_) (fun c47 => ?_)
      · skip
        refine k_iconst (v := nI 0) C dX6_same_71 rfl ?_
        exact k_zret C zr zlk rfl ⟨qT_w3, qC_w3, qN_w3, qL_w3, qM_w3, qF_w3, hcs_w3, (fun q h => (hfm_w3 q h).trans (hfm_w1 q h)), hS3_w3, hS_w3, ⟨htd_w3.1.trans htd_w1.1, htd_w3.2.1.trans htd_w1.2.1, htd_w3.2.2.1.trans htd_w1.2.2.1, htd_w3.2.2.2.trans htd_w1.2.2.2⟩, (by rw [hct_w3, hct_w1, hcw2]; omega), (by congr 2; exact bI_f (by simp_all))⟩ (by rw [hcw2]; omega) (by rw [hcw2]; omega) dX6_same_72
      · skip
        have c47x := c47
        refine k_aload C dX6_same_50 0 rfl ?_
        refine k_get (ci := 4) (k := 2) C fl_6_139 hp1_w3.1 rfl dX6_same_52 ?_
        refine k_if_ne (tgt := 71) C dX6_same_55 (by decide) (fun c55 => ?_) (fun c55 => ?_)
        · skip
          refine k_iconst (v := nI 0) C dX6_same_71 rfl ?_
          exact k_zret C zr zlk rfl ⟨qT_w3, qC_w3, qN_w3, qL_w3, qM_w3, qF_w3, hcs_w3, (fun q h => (hfm_w3 q h).trans (hfm_w1 q h)), hS3_w3, hS_w3, ⟨htd_w3.1.trans htd_w1.1, htd_w3.2.1.trans htd_w1.2.1, htd_w3.2.2.1.trans htd_w1.2.2.1, htd_w3.2.2.2.trans htd_w1.2.2.2⟩, (by rw [hct_w3, hct_w1, hcw2]; omega), (by congr 2; exact bI_f (by simp_all))⟩ (by rw [hcw2]; omega) (by rw [hcw2]; omega) dX6_same_72
        · skip
          have c55x := c55
          refine k_aload_n C dX6_same_58 rfl 1 rfl ?_
          refine k_aload C dX6_same_59 0 rfl ?_
          refine k_callV_pi C mv_6_161 (c_X4_isSameBagAs  hp3_w3.1 hp3_w3.2.1 hp1_w3.1 hp1_w3.2.1 (TRep.le hS3_w3 c47x) (TRep.le hS_w3 c55x)) hp3_w3.1 rfl rfl (by simp [Value.category]) ⟨Nat.le_of_ble_eq_true rfl, Nat.le_of_ble_eq_true rfl⟩ ⟨(by simp only [gv_rm]; omega), (by simp only [gv_rm]; omega)⟩ dX6_same_61 ?_
          refine k_if_eq (tgt := 71) C dX6_same_64 (by decide) (fun c64 => ?_) (fun c64 => ?_)
          · skip
            have b64 : (sbag (qF_w3 (r * 4)) (qN_w3 (r * 4)) (qF_w3 (r2 * 4)) (qN_w3 (r2 * 4))) = false := bI_0.mp c64
            refine k_iconst (v := nI 0) C dX6_same_71 rfl ?_
            exact k_zret C zr zlk rfl ⟨qT_w3, qC_w3, qN_w3, qL_w3, qM_w3, qF_w3, hcs_w3, (fun q h => (hfm_w3 q h).trans (hfm_w1 q h)), hS3_w3, hS_w3, ⟨htd_w3.1.trans htd_w1.1, htd_w3.2.1.trans htd_w1.2.1, htd_w3.2.2.1.trans htd_w1.2.2.1, htd_w3.2.2.2.trans htd_w1.2.2.2⟩, (by rw [hct_w3, hct_w1, hcw2]; omega), (by congr 2; exact bI_f (by simp_all))⟩ (by rw [hcw2]; omega) (by rw [hcw2]; omega) dX6_same_72
          · skip
            have b64 : (sbag (qF_w3 (r * 4)) (qN_w3 (r * 4)) (qF_w3 (r2 * 4)) (qN_w3 (r2 * 4))) = true := bI_n.mp c64
            refine k_iconst (v := nI 1) C dX6_same_67 rfl ?_
            refine k_goto (tgt := 72) C dX6_same_68 (by decide) ?_
            exact k_zret C zr zlk rfl ⟨qT_w3, qC_w3, qN_w3, qL_w3, qM_w3, qF_w3, hcs_w3, (fun q h => (hfm_w3 q h).trans (hfm_w1 q h)), hS3_w3, hS_w3, ⟨htd_w3.1.trans htd_w1.1, htd_w3.2.1.trans htd_w1.2.1, htd_w3.2.2.1.trans htd_w1.2.2.1, htd_w3.2.2.2.trans htd_w1.2.2.2⟩, (by rw [hct_w3, hct_w1, hcw2]; omega), (by congr 2; exact bI_t (by simp_all))⟩ (by rw [hcw2]; omega) (by rw [hcw2]; omega) dX6_same_72
    · skip
      exact absurd (bI_0.mp c19) (by rw [hbr2]; decide)
set_option maxHeartbeats 4000000 in
set_option maxRecDepth 100000 in
theorem c_sameN {zl : Launch} {D : va_G} {cI cN cR : ClassId} {base : Nat} {V : gv_V} {ob mo tr xe td nd nl nn : Nat} {x y : Int32}  (h_ob : V ob = some (.inr (6, [.ref mo, .ref tr, .ref xe, .ref nd, .ref td]))) (h_nd : V nd = some (.inr (3, [.ref nl, .int (nI nn)]))) (hb : blw x (nI nn) = false ∨ blw y (nI nn) = false) : ct zl D [(cI, .int), (cN, .object "AlgebraTree$Node"), (cR, .object "AlgebraTree$Rows")] base yX6_same cX6_same 5 (some .boolean) 7 0 0 [.ref ob, .int x, .int y] V (pi (nI 0) V) := by
  refine ct_of "AlgebraTree" rfl (by decide) (Nat.le_of_ble_eq_true rfl) ?_
  intro zp ze zs zm zargs zbelow zmeth zc C zr zlk znm
  refine k_pc (pc' := 0) (st' := []) rfl rfl ?_
  show K zp zl ze (gv_rm 7 0 0) zs zm zargs zbelow zmeth zc D base 5 (gv_E D [(cI, .int), (cN, .object "AlgebraTree$Node"), (cR, .object "AlgebraTree$Rows")] base zbelow zargs zs 0 0 (pi (nI 0) V)) V 0 0 [(0, .ref ob), (1, .int x), (2, .int y)] 0 []
  refine k_aload_n C dX6_same_0 rfl 0 rfl ?_
  refine k_get (ci := 6) (k := 3) C fl_6_30 h_ob rfl dX6_same_1 ?_
  refine k_iload_n C dX6_same_4 rfl 1 rfl ?_
  refine k_callV_pi C mv_6_103 (c_X3_has  h_nd ) h_nd rfl rfl (by simp [Value.category]) ⟨Nat.le_of_ble_eq_true rfl, Nat.le_of_ble_eq_true rfl⟩ ⟨(by decide), (by decide)⟩ dX6_same_5 ?_
  refine k_if_eq (tgt := 22) C dX6_same_8 (by decide) (fun c8 => ?_) (fun c8 => ?_)
  · skip
    have b8 : (blw x (nI nn)) = false := bI_0.mp c8
    refine k_iconst (v := nI 0) C dX6_same_22 rfl ?_
    exact k_zret C zr zlk rfl (pi_of rfl rfl) (Nat.le_refl _) (Nat.le_refl _) dX6_same_23
  · skip
    have b8 : (blw x (nI nn)) = true := bI_n.mp c8
    refine k_aload_n C dX6_same_11 rfl 0 rfl ?_
    refine k_get (ci := 6) (k := 3) C fl_6_30 h_ob rfl dX6_same_12 ?_
    refine k_iload_n C dX6_same_15 rfl 2 rfl ?_
    refine k_callV_pi C mv_6_103 (c_X3_has  h_nd ) h_nd rfl rfl (by simp [Value.category]) ⟨Nat.le_of_ble_eq_true rfl, Nat.le_of_ble_eq_true rfl⟩ ⟨(by decide), (by decide)⟩ dX6_same_16 ?_
    refine k_if_ne (tgt := 24) C dX6_same_19 (by decide) (fun c19 => ?_) (fun c19 => ?_)
    · skip
      rcases hb with hb | hb
      · exact absurd (bI_0.mpr hb) c8
      · exact absurd (bI_0.mpr hb) c19
    · skip
      have b19 : (blw y (nI nn)) = false := bI_0.mp c19
      refine k_iconst (v := nI 0) C dX6_same_22 rfl ?_
      exact k_zret C zr zlk rfl (pi_of rfl rfl) (Nat.le_refl _) (Nat.le_refl _) dX6_same_23
