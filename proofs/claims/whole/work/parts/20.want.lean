set_option maxHeartbeats 4000000 in
set_option maxRecDepth 100000 in
theorem c_X1_markWanted {zl : Launch} {D : va_G} {cI cN cR : ClassId} {base : Nat} {V : gv_V} {mo tr tb wg ky pl : Nat} {xe : Nat} {nd nl nn : Nat} {nf : Nat → Option Nat} {wf : Nat → Int32} {r : Nat} {qk na : Nat → Nat} {nv : Nat → Nat → Int32}  (h_mo : V mo = some (.inr (1, [.ref tr, .ref xe, .ref nd, .ref tb, .ref wg, .ref ky, .ref pl]))) (h_nd : V nd = some (.inr (3, [.ref nl, .int (nI nn)]))) (h_nl : V nl = some (.inl (cN, 30, .inr (.inr (.inr (.inr nf)))))) (h_wg : V wg = some (.inl (cI, 30, .inl wf))) (hr : r < nn) (hnn : nn ≤ 30) (hnd : ∀ k, k < nn → nf k = some (na k) ∧ V (na k) = some (.inr (2, [.int (nI (qk k)), .int (nv k 1), .int (nv k 2), .int (nv k 3), .int (nv k 4), .int (nv k 5), .int (nv k 6), .int (nv k 7), .int (nv k 8), .int (nv k 9), .int (nv k 10), .int (nv k 11), .int (nv k 12), .int (nv k 13)]))) (hcc : ∀ k, k < nn → qk k ≤ 13 ∧ (nv k 1 = -1 ∨ ∃ a, a < k ∧ nv k 1 = nI a) ∧ (nv k 2 = -1 ∨ ∃ a, a < k ∧ nv k 2 = nI a)) : ct zl D [(cI, .int), (cN, .object "AlgebraTree$Node"), (cR, .object "AlgebraTree$Rows")] base yX1_markWanted cX1_markWanted 5 none 1 0 0 [.ref mo, .int (nI r)] V (pv (gv_up V wg (.inl (cI, 30, .inl (wnt qk nv r wf))))) := by
  refine ct_of "AlgebraTree$Maker" rfl (by decide) (Nat.le_of_ble_eq_true rfl) ?_
  intro zp ze zs zm zargs zbelow zmeth zc C zr zlk znm
  refine k_pc (pc' := 0) (st' := []) rfl rfl ?_
  show K zp zl ze (gv_rm 1 0 0) zs zm zargs zbelow zmeth zc D base 5 (gv_E D [(cI, .int), (cN, .object "AlgebraTree$Node"), (cR, .object "AlgebraTree$Rows")] base zbelow zargs zs 0 0 (pv (gv_up V wg (.inl (cI, 30, .inl (wnt qk nv r wf)))))) V 0 0 [(0, .ref mo), (1, .int (nI r))] 0 []
  refine k_iconst (v := nI 0) C dX1_markWanted_0 rfl ?_
  refine k_istore_n (lv' := [(2, .int (nI 0)), (0, .ref mo), (1, .int (nI r))]) C dX1_markWanted_1 rfl (by decide) rfl ?_
  have L2 : ∀ (zn1 : Nat) (i : Nat), r - i < zn1 → (i ≤ r) → K zp zl ze (gv_rm 1 0 0) zs zm zargs zbelow zmeth zc D base 5 (gv_E D [(cI, .int), (cN, .object "AlgebraTree$Node"), (cR, .object "AlgebraTree$Rows")] base zbelow zargs zs 0 0 (pv (gv_up V wg (.inl (cI, 30, .inl (wnt qk nv r wf)))))) (gv_up V wg (.inl (cI, 30, .inl (wz i wf)))) 0 0 [(2, .int (nI i)), (0, .ref mo), (1, .int (nI r))] 2 [] := by
    intro zn1
    induction zn1 with
    | zero => intro i hlt; exact absurd hlt (Nat.not_lt_zero _)
    | succ zn1 ih2 =>
      intro i hlt2  hi
      refine k_iload_n C dX1_markWanted_2 rfl 0 rfl ?_
      refine k_iload_n C dX1_markWanted_3 rfl 2 rfl ?_
      refine k_icmp_ge (tgt := 20) C dX1_markWanted_4 (by decide) (fun c4 => ?_) (fun c4 => ?_)
      · skip
        have b4 : r ≤ i := (nI_leI (a := r) (b := i) (by omega) (by omega)).mp c4
        refine k_aload_n C dX1_markWanted_20 rfl 1 rfl ?_
        have ne2 : nq mo wg := gv_ne h_wg h_mo (by simp)
        refine k_get (ci := 1) (k := 4) C fl_1_38 ((gv_up_n ne2).trans h_mo) rfl dX1_markWanted_21 ?_
        refine k_iload_n C dX1_markWanted_24 rfl 2 rfl ?_
        refine k_iconst (v := nI 1) C dX1_markWanted_25 rfl ?_
        refine k_iast (f' := upd (wz i wf) r (nI 1)) C 0 gv_up_s rfl (vp_in_nI (by omega) (by omega)) (by rw [nI_clamp (by omega)]) dX1_markWanted_26 ?_
        refine k_view (V1 := gv_up V wg (.inl (cI, 30, .inl (upd (wz i wf) r (nI 1))))) gv_uu ?_
        refine k_iload_n C dX1_markWanted_27 rfl 2 rfl ?_
        refine k_istore_n (lv' := [(2, .int (nI r)), (0, .ref mo), (1, .int (nI r))]) C dX1_markWanted_28 rfl (by decide) rfl ?_
        have L29 : ∀ (zn3 : Nat) (m : Nat) (w : Nat → Int32), m < zn3 → (m ≤ r + 1) → (wdn qk nv m w = wnt qk nv r wf) → K zp zl ze (gv_rm 1 0 0) zs zm zargs zbelow zmeth zc D base 5 (gv_E D [(cI, .int), (cN, .object "AlgebraTree$Node"), (cR, .object "AlgebraTree$Rows")] base zbelow zargs zs 0 0 (pv (gv_up V wg (.inl (cI, 30, .inl (wnt qk nv r wf)))))) (gv_up V wg (.inl (cI, 30, .inl w))) 0 0 [(2, .int (nI m - 1)), (0, .ref mo), (1, .int (nI r))] 29 [] := by
          intro zn3
          induction zn3 with
          | zero => intro m w hlt; exact absurd hlt (Nat.not_lt_zero _)
          | succ zn3 ih29 =>
            intro m w hlt29  hm hw
            refine k_iload_n C dX1_markWanted_29 rfl 0 rfl ?_
            refine k_if_lt (tgt := 104) C dX1_markWanted_30 (by decide) (fun c30 => ?_) (fun c30 => ?_)
            · skip
              refine k_view (V1 := gv_up V wg (.inl (cI, 30, .inl (wnt qk nv r wf)))) (by rw [← hw, show m = 0 by first | omega | exact Classical.byContradiction (fun h => by obtain ⟨k, rfl⟩ : ∃ k, m = k + 1 := ⟨m - 1, by omega⟩; rw [nI_pred k] at c30; exact nI_pos (by omega) c30)]; rfl) ?_
              exact k_vret C zr zlk (pv_of rfl) (Nat.le_refl _) (Nat.le_refl _) dX1_markWanted_104
            · skip
              obtain ⟨k, rfl⟩ : ∃ k, m = k + 1 := ⟨m - 1, by have := nI_mlt (by omega) c30; omega⟩
              refine k_lve (lv' := [(2, .int (nI k)), (0, .ref mo), (1, .int (nI r))]) (by rw [show nI (k + 1) - 1 = nI k from nI_pred k]) ?_
              obtain ⟨hnk, hvk⟩ := hnd k (by omega)
              refine k_aload_n C dX1_markWanted_33 rfl 1 rfl ?_
              refine k_get (ci := 1) (k := 2) C fl_1_28 ((gv_up_n ne2).trans h_mo) rfl dX1_markWanted_34 ?_
              refine k_iload_n C dX1_markWanted_37 rfl 0 rfl ?_
              have ne4 : nq nd wg := gv_ne h_wg h_nd (by simp)
              have ne5 : nq nl wg := gv_ne h_wg h_nl (by simp)
              refine k_callV_pr C mv_1_60 (c_X3_at  ((gv_up_n ne4).trans h_nd) ((gv_up_n ne5).trans h_nl) (by first | assumption | omega) hnk) ((gv_up_n ne4).trans h_nd) rfl rfl (by simp [Value.category]) ⟨by decide, by decide⟩ ⟨(by decide), (by decide)⟩ dX1_markWanted_38 ?_
              refine k_astore_n (lv' := [(3, .ref (na k)), (2, .int (nI k)), (0, .ref mo), (1, .int (nI r))]) C dX1_markWanted_41 rfl (by decide) rfl ?_
              refine k_aload_n C dX1_markWanted_42 rfl 0 rfl ?_
              refine k_aload_n C dX1_markWanted_43 rfl 2 rfl ?_
              refine k_get (ci := 1) (k := 4) C fl_1_38 ((gv_up_n ne2).trans h_mo) rfl dX1_markWanted_44 ?_
              refine k_iload_n C dX1_markWanted_47 rfl 1 rfl ?_
              refine k_iald (v := w k) C 0 gv_up_s rfl (vp_in_nI (by omega) (by omega)) (by rw [nI_clamp (by omega)]) dX1_markWanted_48 ?_
              have ne6 : nq (na k) wg := gv_ne h_wg hvk (by simp)
              refine k_callS_pi C ms_1_64 (c_X1_graphsBelow  ((gv_up_n ne6).trans hvk) (hcc k (by omega)).1) rfl rfl (by simp [Value.category]) ⟨by decide, by decide⟩ ⟨(by decide), (by decide)⟩ dX1_markWanted_49 ?_
              refine k_istore (lv' := [(4, .int (gbl (qk k) (nv k 13) (w k))), (3, .ref (na k)), (2, .int (nI k)), (0, .ref mo), (1, .int (nI r))]) C dX1_markWanted_52 (by decide) rfl ?_
              refine k_aload_n C dX1_markWanted_54 rfl 1 rfl ?_
              refine k_get (ci := 2) (k := 1) C fl_1_68 ((gv_up_n ne6).trans hvk) rfl dX1_markWanted_55 ?_
              refine k_iconst (v := (-1 : Int32)) C dX1_markWanted_58 (by decide) ?_
              refine k_icmp_eq (tgt := 76) C dX1_markWanted_59 (by decide) (fun c59 => ?_) (fun c59 => ?_)
              · skip
                refine k_aload_n C dX1_markWanted_76 rfl 1 rfl ?_
                refine k_get (ci := 2) (k := 2) C fl_1_74 ((gv_up_n ne6).trans hvk) rfl dX1_markWanted_77 ?_
                refine k_iconst (v := (-1 : Int32)) C dX1_markWanted_80 (by decide) ?_
                refine k_icmp_eq (tgt := 98) C dX1_markWanted_81 (by decide) (fun c81 => ?_) (fun c81 => ?_)
                · skip
                  refine k_iinc (v := nI k - 1) (lv' := [(2, .int (nI k - 1)), (4, .int (gbl (qk k) (nv k 13) (w k))), (3, .ref (na k)), (0, .ref mo), (1, .int (nI r))]) C dX1_markWanted_98 (k := 2) rfl nI_m1 (by decide) rfl ?_
                  refine k_goto (tgt := 29) C dX1_markWanted_101 (by decide) ?_
                  refine k_sub [0, 3, 4] (lv' := [(2, .int (nI k - 1)), (0, .ref mo), (1, .int (nI r))]) rfl ?_
                  exact ih29 k w (by omega)  (by omega) (by rw [← hw]; simp only [wdn]; congr 1; unfold wst; rw [show orA w (nv k 1) (gbl (qk k) (nv k 13) (w k)) = w from if_pos c59]; exact (if_pos c81).symm)
                · skip
                  obtain ⟨x2, hx2, ex2⟩ := (hcc k (by omega)).2.2.resolve_left c81
                  refine k_aload_n C dX1_markWanted_84 rfl 3 rfl ?_
                  refine k_get (ci := 1) (k := 4) C fl_1_38 ((gv_up_n ne2).trans h_mo) rfl dX1_markWanted_85 ?_
                  refine k_aload_n C dX1_markWanted_88 rfl 1 rfl ?_
                  refine k_get (ci := 2) (k := 2) C fl_1_74 ((gv_up_n ne6).trans hvk) rfl dX1_markWanted_89 ?_
                  refine k_val (y := nI x2) ex2 ?_
                  refine k_dup2_11 C dX1_markWanted_92 rfl rfl ?_
                  refine k_iald (v := w x2) C 0 gv_up_s rfl (vp_in_nI (by omega) (by omega)) (by rw [nI_clamp (by omega)]) dX1_markWanted_93 ?_
                  refine k_iload C dX1_markWanted_94 0 rfl ?_
                  refine k_ior C dX1_markWanted_96 ?_
                  refine k_iast (f' := upd w x2 ((w x2) ||| (gbl (qk k) (nv k 13) (w k)))) C 0 gv_up_s rfl (vp_in_nI (by omega) (by omega)) (by rw [nI_clamp (by omega)]) dX1_markWanted_97 ?_
                  refine k_view (V1 := gv_up V wg (.inl (cI, 30, .inl (upd w x2 ((w x2) ||| (gbl (qk k) (nv k 13) (w k))))))) gv_uu ?_
                  refine k_iinc (v := nI k - 1) (lv' := [(2, .int (nI k - 1)), (4, .int (gbl (qk k) (nv k 13) (w k))), (3, .ref (na k)), (0, .ref mo), (1, .int (nI r))]) C dX1_markWanted_98 (k := 2) rfl nI_m1 (by decide) rfl ?_
                  refine k_goto (tgt := 29) C dX1_markWanted_101 (by decide) ?_
                  refine k_sub [0, 3, 4] (lv' := [(2, .int (nI k - 1)), (0, .ref mo), (1, .int (nI r))]) rfl ?_
                  exact ih29 k (upd w x2 ((w x2) ||| (gbl (qk k) (nv k 13) (w k)))) (by omega)  (by omega) (by rw [← hw]; simp only [wdn]; congr 1; unfold wst; rw [show orA w (nv k 1) (gbl (qk k) (nv k 13) (w k)) = w from if_pos c59]; unfold orA; rw [if_neg c81, ex2, nI_clamp (by omega)])
              · skip
                obtain ⟨x1, hx1, ex1⟩ := (hcc k (by omega)).2.1.resolve_left c59
                refine k_aload_n C dX1_markWanted_62 rfl 3 rfl ?_
                refine k_get (ci := 1) (k := 4) C fl_1_38 ((gv_up_n ne2).trans h_mo) rfl dX1_markWanted_63 ?_
                refine k_aload_n C dX1_markWanted_66 rfl 1 rfl ?_
                refine k_get (ci := 2) (k := 1) C fl_1_68 ((gv_up_n ne6).trans hvk) rfl dX1_markWanted_67 ?_
                refine k_val (y := nI x1) ex1 ?_
                refine k_dup2_11 C dX1_markWanted_70 rfl rfl ?_
                refine k_iald (v := w x1) C 0 gv_up_s rfl (vp_in_nI (by omega) (by omega)) (by rw [nI_clamp (by omega)]) dX1_markWanted_71 ?_
                refine k_iload C dX1_markWanted_72 0 rfl ?_
                refine k_ior C dX1_markWanted_74 ?_
                refine k_iast (f' := upd w x1 ((w x1) ||| (gbl (qk k) (nv k 13) (w k)))) C 0 gv_up_s rfl (vp_in_nI (by omega) (by omega)) (by rw [nI_clamp (by omega)]) dX1_markWanted_75 ?_
                refine k_view (V1 := gv_up V wg (.inl (cI, 30, .inl (upd w x1 ((w x1) ||| (gbl (qk k) (nv k 13) (w k))))))) gv_uu ?_
                refine k_aload_n C dX1_markWanted_76 rfl 1 rfl ?_
                refine k_get (ci := 2) (k := 2) C fl_1_74 ((gv_up_n ne6).trans hvk) rfl dX1_markWanted_77 ?_
                refine k_iconst (v := (-1 : Int32)) C dX1_markWanted_80 (by decide) ?_
                refine k_icmp_eq (tgt := 98) C dX1_markWanted_81 (by decide) (fun c81 => ?_) (fun c81 => ?_)
                · skip
                  refine k_iinc (v := nI k - 1) (lv' := [(2, .int (nI k - 1)), (4, .int (gbl (qk k) (nv k 13) (w k))), (3, .ref (na k)), (0, .ref mo), (1, .int (nI r))]) C dX1_markWanted_98 (k := 2) rfl nI_m1 (by decide) rfl ?_
                  refine k_goto (tgt := 29) C dX1_markWanted_101 (by decide) ?_
                  refine k_sub [0, 3, 4] (lv' := [(2, .int (nI k - 1)), (0, .ref mo), (1, .int (nI r))]) rfl ?_
                  exact ih29 k (upd w x1 ((w x1) ||| (gbl (qk k) (nv k 13) (w k)))) (by omega)  (by omega) (by rw [← hw]; simp only [wdn]; congr 1; unfold wst; rw [show orA w (nv k 1) (gbl (qk k) (nv k 13) (w k)) = upd w x1 (w x1 ||| gbl (qk k) (nv k 13) (w k)) from by unfold orA; rw [if_neg c59, ex1, nI_clamp (by omega)]]; exact (if_pos c81).symm)
                · skip
                  obtain ⟨x2, hx2, ex2⟩ := (hcc k (by omega)).2.2.resolve_left c81
                  refine k_aload_n C dX1_markWanted_84 rfl 3 rfl ?_
                  refine k_get (ci := 1) (k := 4) C fl_1_38 ((gv_up_n ne2).trans h_mo) rfl dX1_markWanted_85 ?_
                  refine k_aload_n C dX1_markWanted_88 rfl 1 rfl ?_
                  refine k_get (ci := 2) (k := 2) C fl_1_74 ((gv_up_n ne6).trans hvk) rfl dX1_markWanted_89 ?_
                  refine k_val (y := nI x2) ex2 ?_
                  refine k_dup2_11 C dX1_markWanted_92 rfl rfl ?_
                  refine k_iald (v := (upd w x1 ((w x1) ||| (gbl (qk k) (nv k 13) (w k)))) x2) C 0 gv_up_s rfl (vp_in_nI (by omega) (by omega)) (by rw [nI_clamp (by omega)]) dX1_markWanted_93 ?_
                  refine k_iload C dX1_markWanted_94 0 rfl ?_
                  refine k_ior C dX1_markWanted_96 ?_
                  refine k_iast (f' := upd (upd w x1 ((w x1) ||| (gbl (qk k) (nv k 13) (w k)))) x2 (((upd w x1 ((w x1) ||| (gbl (qk k) (nv k 13) (w k)))) x2) ||| (gbl (qk k) (nv k 13) (w k)))) C 0 gv_up_s rfl (vp_in_nI (by omega) (by omega)) (by rw [nI_clamp (by omega)]) dX1_markWanted_97 ?_
                  refine k_view (V1 := gv_up V wg (.inl (cI, 30, .inl (upd (upd w x1 ((w x1) ||| (gbl (qk k) (nv k 13) (w k)))) x2 (((upd w x1 ((w x1) ||| (gbl (qk k) (nv k 13) (w k)))) x2) ||| (gbl (qk k) (nv k 13) (w k))))))) gv_uu ?_
                  refine k_iinc (v := nI k - 1) (lv' := [(2, .int (nI k - 1)), (4, .int (gbl (qk k) (nv k 13) (w k))), (3, .ref (na k)), (0, .ref mo), (1, .int (nI r))]) C dX1_markWanted_98 (k := 2) rfl nI_m1 (by decide) rfl ?_
                  refine k_goto (tgt := 29) C dX1_markWanted_101 (by decide) ?_
                  refine k_sub [0, 3, 4] (lv' := [(2, .int (nI k - 1)), (0, .ref mo), (1, .int (nI r))]) rfl ?_
                  exact ih29 k (upd (upd w x1 ((w x1) ||| (gbl (qk k) (nv k 13) (w k)))) x2 (((upd w x1 ((w x1) ||| (gbl (qk k) (nv k 13) (w k)))) x2) ||| (gbl (qk k) (nv k 13) (w k)))) (by omega)  (by omega) (by rw [← hw]; simp only [wdn]; congr 1; unfold wst; rw [show orA w (nv k 1) (gbl (qk k) (nv k 13) (w k)) = upd w x1 (w x1 ||| gbl (qk k) (nv k 13) (w k)) from by unfold orA; rw [if_neg c59, ex1, nI_clamp (by omega)]]; unfold orA; rw [if_neg c81, ex2, nI_clamp (by omega)])
        refine k_lve (lv' := [(2, .int (nI (r + 1) - 1)), (0, .ref mo), (1, .int (nI r))]) (by rw [show nI (r + 1) - 1 = nI r from nI_pred r]) ?_
        refine k_view (V1 := gv_up V wg (.inl (cI, 30, .inl (upd (wz r wf) r (nI 1))))) (by rw [show i = r by omega]) ?_
        exact L29 _ (r + 1) (upd (wz r wf) r (nI 1)) (Nat.lt_succ_self _)  (by omega) rfl
      · skip
        have b4 : ¬ r ≤ i := fun z => c4 ((nI_leI (a := r) (b := i) (by omega) (by omega)).mpr z)
        refine k_aload_n C dX1_markWanted_7 rfl 1 rfl ?_
        have ne7 : nq mo wg := gv_ne h_wg h_mo (by simp)
        refine k_get (ci := 1) (k := 4) C fl_1_38 ((gv_up_n ne7).trans h_mo) rfl dX1_markWanted_8 ?_
        refine k_iload_n C dX1_markWanted_11 rfl 0 rfl ?_
        refine k_iconst (v := nI 0) C dX1_markWanted_12 rfl ?_
        refine k_iast (f' := upd (wz i wf) i (nI 0)) C 0 gv_up_s rfl (vp_in_nI (by omega) (by omega)) (by rw [nI_clamp (by omega)]) dX1_markWanted_13 ?_
        refine k_view (V1 := gv_up V wg (.inl (cI, 30, .inl (upd (wz i wf) i (nI 0))))) gv_uu ?_
        refine k_iinc (v := nI (i + 1)) (lv' := [(2, .int (nI (i + 1))), (0, .ref mo), (1, .int (nI r))]) C dX1_markWanted_14 (k := 0) rfl (nI_add i 1) (by decide) rfl ?_
        refine k_goto (tgt := 2) C dX1_markWanted_17 (by decide) ?_
        refine k_view (V1 := gv_up V wg (.inl (cI, 30, .inl (wz (i + 1) wf)))) (by rw [wz_s]) ?_
        exact ih2 (i + 1) (by omega)  (by omega)
  refine k_view (V1 := gv_up V wg (.inl (cI, 30, .inl wf))) (gv_id h_wg).symm ?_
  refine k_view (V1 := gv_up V wg (.inl (cI, 30, .inl (wz 0 wf)))) (by rw [wz_0]) ?_
  exact L2 _ 0 (Nat.lt_succ_self _)  (by omega)
