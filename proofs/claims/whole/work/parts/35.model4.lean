theorem pat_ok {g s p o : Int32} {t : Tr} {w0 w1 w2 w3 : Row} (hs : plc s = true) (hp : plc p = true) (ho : plc o = true) (e0 : eq6 w0 opn) (hg : t.1 = g) (b1 : fitB s t.2.1 w0 = true) (e1 : eq6 w1 (fitR s t.2.1 w0)) (b2 : fitB p t.2.2.1 w1 = true) (e2 : eq6 w2 (fitR p t.2.2.1 w1)) (b3 : fitB o t.2.2.2 w2 = true) (e3 : eq6 w3 (fitR o t.2.2.2 w2)) : ∃ r, pat1 g s p o t = some r ∧ eq6 w3 r := by
  have f1 := e1.tr (fitR_c e0)
  have f2 := e2.tr (fitR_c f1)
  have f3 := e3.tr (fitR_c f2)
  refine ⟨_, if_pos ⟨hg, ?_, ?_, ?_⟩, f3⟩
  · rw [← fitB_c hs e0]; exact b1
  · rw [← fitB_c hp f1]; exact b2
  · rw [← fitB_c ho f2]; exact b3
theorem pat_0 {g s p o : Int32} {t : Tr} (hg : ¬ t.1 = g) : pat1 g s p o t = none := if_neg (fun h => hg h.1)
theorem pat_1 {g s p o : Int32} {t : Tr} {w0 : Row} (hs : plc s = true) (e0 : eq6 w0 opn) (b1 : fitB s t.2.1 w0 = false) : pat1 g s p o t = none := if_neg (fun h => by rw [fitB_c hs e0, h.2.1] at b1; cases b1)
theorem pat_2 {g s p o : Int32} {t : Tr} {w0 w1 : Row} (hp : plc p = true) (e0 : eq6 w0 opn) (e1 : eq6 w1 (fitR s t.2.1 w0)) (b2 : fitB p t.2.2.1 w1 = false) : pat1 g s p o t = none := if_neg (fun h => by rw [fitB_c hp (e1.tr (fitR_c e0)), h.2.2.1] at b2; cases b2)
theorem pat_3 {g s p o : Int32} {t : Tr} {w0 w1 w2 : Row} (ho : plc o = true) (e0 : eq6 w0 opn) (e1 : eq6 w1 (fitR s t.2.1 w0)) (e2 : eq6 w2 (fitR p t.2.2.1 w1)) (b3 : fitB o t.2.2.2 w2 = false) : pat1 g s p o t = none := if_neg (fun h => by rw [fitB_c ho (e2.tr (fitR_c (e1.tr (fitR_c e0)))), h.2.2.2] at b3; cases b3)
theorem any_f {B : List Row} {p : Row → Bool} {b : Bool} {j : Nat} (h : j < B.length) (hb : b = !(B.take j).any p) : (b && !p (rowAt B j)) = !(B.take (j + 1)).any p := by
  rw [any_s h, hb]
  cases (B.take j).any p <;> simp
theorem left1_t {x : Row} {B : List Row} : left1 (fun _ => true) x B = join1 x B := by
  unfold left1 join1
  simp only [Bool.and_true]
theorem lcnd_m {E : Nat → Ex} : lcnd E (-1) = fun _ => true := by
  funext x
  unfold lcnd
  rw [if_pos rfl]
theorem emp_app {L : List Row} {r : Row} : (!(L ++ [r]).isEmpty) = true := by cases L <;> rfl
set_option maxHeartbeats 4000000 in
set_option maxRecDepth 100000 in
theorem c_X7_reckonPattern {zl : Launch} {D : va_G} {cI cN cR : ClassId} {base : Nat} {V : gv_V} {m wt wa wv wm wr wc wn ws wk wp nt ne nn sh : Nat} {kn : Int32} {ft fm fr fc fw : Nat → Int32} {to g i : Nat} {ps pp po : Int32} {T : List Tr}  (h_m : V m = some (.inr (7, [.int (nI nt), .ref wt, .int (nI ne), .ref wa, .ref wv, .int (nI nn), .ref wm, .int kn, .ref wr, .ref wc, .ref wn, .int (nI sh), .ref ws, .ref wk, .ref wp]))) (h_wr : V wr = some (.inl (cI, 57600, .inl fr))) (h_wc : V wc = some (.inl (cI, 120, .inl fc))) (h_wn : V wn = some (.inl (cI, 6, .inl fw))) (h_wt : V wt = some (.inl (cI, 240, .inl ft))) (h_wm : V wm = some (.inl (cI, 180, .inl fm))) (hto : to < 120) (hi : i < 30) (hT : MT T nt ft) (hm1 : fm (6 * i + 1) = ps) (hm2 : fm (6 * i + 2) = pp) (hm3 : fm (6 * i + 3) = po) (hps : plc ps = true) (hpp : plc pp = true) (hpo : plc po = true) (hc0 : fc to = 0) : ct zl D [(cI, .int), (cN, .object "AlgebraTree$Node"), (cR, .object "AlgebraTree$Rows")] base yX7_reckonPattern cX7_reckonPattern 7 none 2 0 0 [.ref m, .int (nI to), .int (nI g), .int (nI (6 * i))] V (fun zv zV => ∃ fr1 : Nat → Int32, ∃ fc1 : Nat → Int32, ∃ fw1 : Nat → Int32, zv = none ∧ zV = gv_up (gv_up (gv_up V wr (.inl (cI, 57600, .inl fr1))) wc (.inl (cI, 120, .inl fc1))) wn (.inl (cI, 6, .inl fw1)) ∧ (MRep (patL T (nI g) ps pp po) (fc1 to) (tbl fr1 to)) ∧ (Kp to fc fr fc1 fr1)) := by
  refine ct_of "AlgebraTreeModel" rfl (by decide) (Nat.le_of_ble_eq_true rfl) ?_
  intro zp ze zs zm zargs zbelow zmeth zc C zr zlk znm
  refine k_pc (pc' := 0) (st' := []) rfl rfl ?_
  show K zp zl ze (gv_rm 2 0 0) zs zm zargs zbelow zmeth zc D base 7 (gv_E D [(cI, .int), (cN, .object "AlgebraTree$Node"), (cR, .object "AlgebraTree$Rows")] base zbelow zargs zs 0 0 (fun zv zV => ∃ fr1 : Nat → Int32, ∃ fc1 : Nat → Int32, ∃ fw1 : Nat → Int32, zv = none ∧ zV = gv_up (gv_up (gv_up V wr (.inl (cI, 57600, .inl fr1))) wc (.inl (cI, 120, .inl fc1))) wn (.inl (cI, 6, .inl fw1)) ∧ (MRep (patL T (nI g) ps pp po) (fc1 to) (tbl fr1 to)) ∧ (Kp to fc fr fc1 fr1))) V 0 0 [(0, .ref m), (1, .int (nI to)), (2, .int (nI g)), (3, .int (nI (6 * i)))] 0 []
  have hT1 := hT.1
  have hT2 := hT.2.1
  refine k_iconst (v := nI 0) C dX7_reckonPattern_0 rfl ?_
  refine k_istore (lv' := [(4, .int (nI 0)), (0, .ref m), (1, .int (nI to)), (2, .int (nI g)), (3, .int (nI (6 * i)))]) C dX7_reckonPattern_1 (by decide) rfl ?_
  have L3 : ∀ (zn1 : Nat) (k : Nat) (fr1 : Nat → Int32) (fc1 : Nat → Int32) (fw1 : Nat → Int32), nt - k < zn1 → (k ≤ nt) → (MRep (patL (T.take k) (nI g) ps pp po) (fc1 to) (tbl fr1 to)) → (Kp to fc fr fc1 fr1) → K zp zl ze (gv_rm 2 0 0) zs zm zargs zbelow zmeth zc D base 7 (gv_E D [(cI, .int), (cN, .object "AlgebraTree$Node"), (cR, .object "AlgebraTree$Rows")] base zbelow zargs zs 0 0 (fun zv zV => ∃ fr1 : Nat → Int32, ∃ fc1 : Nat → Int32, ∃ fw1 : Nat → Int32, zv = none ∧ zV = gv_up (gv_up (gv_up V wr (.inl (cI, 57600, .inl fr1))) wc (.inl (cI, 120, .inl fc1))) wn (.inl (cI, 6, .inl fw1)) ∧ (MRep (patL T (nI g) ps pp po) (fc1 to) (tbl fr1 to)) ∧ (Kp to fc fr fc1 fr1))) (gv_up (gv_up (gv_up V wr (.inl (cI, 57600, .inl fr1))) wc (.inl (cI, 120, .inl fc1))) wn (.inl (cI, 6, .inl fw1))) 0 0 [(4, .int (nI (4 * k))), (0, .ref m), (1, .int (nI to)), (2, .int (nI g)), (3, .int (nI (6 * i)))] 3 [] := by
    intro zn1
    induction zn1 with
    | zero => intro k fr1 fc1 fw1 hlt; exact absurd hlt (Nat.not_lt_zero _)
    | succ zn1 ih3 =>
      intro k fr1 fc1 fw1 hlt3  hk hR hK
      refine k_iload C dX7_reckonPattern_3 0 rfl ?_
      refine k_iconst (v := nI 4) C dX7_reckonPattern_5 rfl ?_
      refine k_aload_n C dX7_reckonPattern_6 rfl 1 rfl ?_
      have ne2 : nq m wr := gv_ne h_wr h_m (by simp)
      have ne3 : nq m wc := gv_ne h_wc h_m (by simp)
      have ne4 : nq m wn := gv_ne h_wn h_m (by simp)
      refine k_get (ci := 7) (k := 0) C fl_7_49 ((gv_up_n ne4).trans ((gv_up_n ne3).trans ((gv_up_n ne2).trans h_m))) rfl dX7_reckonPattern_7 ?_
      refine k_imul C dX7_reckonPattern_10 ?_
      refine k_val (y := nI (4 * nt)) (pk_mul 4 nt) ?_
      refine k_icmp_ge (tgt := 97) C dX7_reckonPattern_11 (by decide) (fun c11 => ?_) (fun c11 => ?_)
      · skip
        have b11 : (4 * nt) ≤ (4 * k) := (nI_leI (a := 4 * nt) (b := 4 * k) (by omega) (by omega)).mp c11
        exact k_vret C zr zlk ⟨fr1, fc1, fw1, rfl, rfl, (by rw [List.take_of_length_le (show T.length ≤ k by omega)] at hR; exact hR), hK⟩ (Nat.le_refl _) (Nat.le_refl _) dX7_reckonPattern_97
      · skip
        have b11 : ¬ (4 * nt) ≤ (4 * k) := fun z => c11 ((nI_leI (a := 4 * nt) (b := 4 * k) (by omega) (by omega)).mpr z)
        refine k_aload_n C dX7_reckonPattern_14 rfl 1 rfl ?_
        refine k_callV C mv_7_105 (c_X7_open  ((gv_up_n ne4).trans ((gv_up_n ne3).trans ((gv_up_n ne2).trans h_m))) gv_up_s ) ((gv_up_n ne4).trans ((gv_up_n ne3).trans ((gv_up_n ne2).trans h_m))) rfl rfl (by simp [Value.category]) ⟨Nat.le_of_ble_eq_true rfl, Nat.le_of_ble_eq_true rfl⟩ ⟨(by decide), (by decide)⟩ dX7_reckonPattern_15 (fun zv zV zh => ?_)
        obtain ⟨fw1_w5, rfl, rfl, hw1_w5⟩ := zh
        refine k_pc (pc' := 18) (st' := []) rfl rfl ?_
        refine k_view (V1 := gv_up (gv_up (gv_up V wr (.inl (cI, 57600, .inl fr1))) wc (.inl (cI, 120, .inl fc1))) wn (.inl (cI, 6, .inl fw1_w5))) gv_uu ?_
        have he0 := hw1_w5
        refine k_aload_n C dX7_reckonPattern_18 rfl 1 rfl ?_
        refine k_get (ci := 7) (k := 1) C fl_7_7 ((gv_up_n ne4).trans ((gv_up_n ne3).trans ((gv_up_n ne2).trans h_m))) rfl dX7_reckonPattern_19 ?_
        refine k_iload C dX7_reckonPattern_22 0 rfl ?_
        have ne6 : nq wt wr := gv_ne h_wr h_wt (by simp)
        have ne7 : nq wt wc := gv_ne h_wc h_wt (by simp)
        have ne8 : nq wt wn := gv_ne h_wn h_wt (by simp)
        refine k_iald (v := ft (4 * k)) C 0 ((gv_up_n ne8).trans ((gv_up_n ne7).trans ((gv_up_n ne6).trans h_wt))) rfl (vp_in_nI (by omega) (by omega)) (by rw [nI_clamp (by omega)]) dX7_reckonPattern_24 ?_
        refine k_val (y := (trAt T k).1) (hT.2.2 k (by omega)).1 ?_
        refine k_iload_n C dX7_reckonPattern_25 rfl 3 rfl ?_
        refine k_icmp_ne (tgt := 33) C dX7_reckonPattern_26 (by decide) (fun c26 => ?_) (fun c26 => ?_)
        · skip
          refine k_iconst (v := nI 0) C dX7_reckonPattern_33 rfl ?_
          refine k_istore (lv' := [(5, .int (nI 0)), (4, .int (nI (4 * k))), (0, .ref m), (1, .int (nI to)), (2, .int (nI g)), (3, .int (nI (6 * i)))]) C dX7_reckonPattern_34 (by decide) rfl ?_
          refine k_iconst (v := nI 1) C dX7_reckonPattern_36 rfl ?_
          refine k_istore (lv' := [(6, .int (nI 1)), (5, .int (nI 0)), (4, .int (nI (4 * k))), (0, .ref m), (1, .int (nI to)), (2, .int (nI g)), (3, .int (nI (6 * i)))]) C dX7_reckonPattern_37 (by decide) rfl ?_
          refine k_iload C dX7_reckonPattern_39 0 rfl ?_
          refine k_iconst (v := nI 3) C dX7_reckonPattern_41 rfl ?_
          refine k_icmp_gt (tgt := 81) C dX7_reckonPattern_42 (by decide) (fun c42 => ?_) (fun c42 => ?_)
          · exact absurd c42 (by decide)
          · skip
            have b42 : ¬ 3 < 1 := fun z => c42 ((nI_ltI (a := 3) (b := 1) (by omega) (by omega)).mpr z)
            refine k_iload C dX7_reckonPattern_45 1 rfl ?_
            refine k_if_eq (tgt := 81) C dX7_reckonPattern_47 (by decide) (fun c47 => ?_) (fun c47 => ?_)
            · skip
              have b47 : 0 = 0 := (nI_eq (a := 0) (b := 0) (by omega) (by omega)).mp c47
              refine k_iload C dX7_reckonPattern_81 1 rfl ?_
              refine k_if_eq (tgt := 91) C dX7_reckonPattern_83 (by decide) (fun c83 => ?_) (fun c83 => ?_)
              · skip
                have b83 : 0 = 0 := (nI_eq (a := 0) (b := 0) (by omega) (by omega)).mp c83
                refine k_iinc (v := nI ((4 * k) + 4)) (lv' := [(4, .int (nI ((4 * k) + 4))), (6, .int (nI 1)), (5, .int (nI 0)), (0, .ref m), (1, .int (nI to)), (2, .int (nI g)), (3, .int (nI (6 * i)))]) C dX7_reckonPattern_91 (k := 2) rfl (nI_add (4 * k) 4) (by decide) rfl ?_
                refine k_goto (tgt := 3) C dX7_reckonPattern_94 (by decide) ?_
                refine k_lve (lv' := [(4, .int (nI (4 * (k + 1)))), (6, .int (nI 1)), (5, .int (nI 0)), (0, .ref m), (1, .int (nI to)), (2, .int (nI g)), (3, .int (nI (6 * i)))]) (by rw [show (4 * k) + 4 = 4 * (k + 1) by omega]) ?_
                refine k_sub [0, 3, 4, 5, 6] (lv' := [(4, .int (nI (4 * (k + 1)))), (0, .ref m), (1, .int (nI to)), (2, .int (nI g)), (3, .int (nI (6 * i)))]) rfl ?_
                exact ih3 (k + 1) fr1 fc1 fw1_w5 (by omega)  (by omega) (by rw [pat_n (by omega) (pat_0 c26)]; exact hR) hK
              · exact absurd c83 (by decide)
            · exact absurd c47 (by decide)
        · skip
          refine k_iconst (v := nI 1) C dX7_reckonPattern_29 rfl ?_
          refine k_goto (tgt := 34) C dX7_reckonPattern_30 (by decide) ?_
          refine k_istore (lv' := [(5, .int (nI 1)), (4, .int (nI (4 * k))), (0, .ref m), (1, .int (nI to)), (2, .int (nI g)), (3, .int (nI (6 * i)))]) C dX7_reckonPattern_34 (by decide) rfl ?_
          refine k_iconst (v := nI 1) C dX7_reckonPattern_36 rfl ?_
          refine k_istore (lv' := [(6, .int (nI 1)), (5, .int (nI 1)), (4, .int (nI (4 * k))), (0, .ref m), (1, .int (nI to)), (2, .int (nI g)), (3, .int (nI (6 * i)))]) C dX7_reckonPattern_37 (by decide) rfl ?_
          refine k_iload C dX7_reckonPattern_39 0 rfl ?_
          refine k_iconst (v := nI 3) C dX7_reckonPattern_41 rfl ?_
          refine k_icmp_gt (tgt := 81) C dX7_reckonPattern_42 (by decide) (fun c42 => ?_) (fun c42 => ?_)
          · exact absurd c42 (by decide)
          · skip
            have b42 : ¬ 3 < 1 := fun z => c42 ((nI_ltI (a := 3) (b := 1) (by omega) (by omega)).mpr z)
            refine k_iload C dX7_reckonPattern_45 1 rfl ?_
            refine k_if_eq (tgt := 81) C dX7_reckonPattern_47 (by decide) (fun c47 => ?_) (fun c47 => ?_)
            · exact absurd c47 (by decide)
            · skip
              have b47 : ¬ 1 = 0 := fun z => c47 ((nI_eq (a := 1) (b := 0) (by omega) (by omega)).mpr z)
              refine k_aload_n C dX7_reckonPattern_50 rfl 3 rfl ?_
              refine k_aload_n C dX7_reckonPattern_51 rfl 3 rfl ?_
              refine k_get (ci := 7) (k := 6) C fl_7_19 ((gv_up_n ne4).trans ((gv_up_n ne3).trans ((gv_up_n ne2).trans h_m))) rfl dX7_reckonPattern_52 ?_
              refine k_iload_n C dX7_reckonPattern_55 rfl 6 rfl ?_
              refine k_iload C dX7_reckonPattern_56 0 rfl ?_
              refine k_iadd C dX7_reckonPattern_58 ?_
              refine k_val (y := nI ((6 * i) + 1)) (nI_add (6 * i) 1) ?_
              have ne9 : nq wm wr := gv_ne h_wr h_wm (by simp)
              have ne10 : nq wm wc := gv_ne h_wc h_wm (by simp)
              have ne11 : nq wm wn := gv_ne h_wn h_wm (by simp)
              refine k_iald (v := fm ((6 * i) + 1)) C 0 ((gv_up_n ne11).trans ((gv_up_n ne10).trans ((gv_up_n ne9).trans h_wm))) rfl (vp_in_nI (by omega) (by omega)) (by rw [nI_clamp (by omega)]) dX7_reckonPattern_59 ?_
              refine k_val (y := ps) hm1 ?_
              refine k_aload_n C dX7_reckonPattern_60 rfl 3 rfl ?_
              refine k_get (ci := 7) (k := 1) C fl_7_7 ((gv_up_n ne4).trans ((gv_up_n ne3).trans ((gv_up_n ne2).trans h_m))) rfl dX7_reckonPattern_61 ?_
              refine k_iload C dX7_reckonPattern_64 2 rfl ?_
              refine k_iload C dX7_reckonPattern_66 0 rfl ?_
              refine k_iadd C dX7_reckonPattern_68 ?_
              refine k_val (y := nI ((4 * k) + 1)) (nI_add (4 * k) 1) ?_
              refine k_iald (v := ft ((4 * k) + 1)) C 0 ((gv_up_n ne8).trans ((gv_up_n ne7).trans ((gv_up_n ne6).trans h_wt))) rfl (vp_in_nI (by omega) (by omega)) (by rw [nI_clamp (by omega)]) dX7_reckonPattern_69 ?_
              refine k_val (y := (trAt T k).2.1) (hT.2.2 k (by omega)).2.1 ?_
              refine k_callV C mv_7_108 (c_X7_fits  ((gv_up_n ne4).trans ((gv_up_n ne3).trans ((gv_up_n ne2).trans h_m))) gv_up_s hps) ((gv_up_n ne4).trans ((gv_up_n ne3).trans ((gv_up_n ne2).trans h_m))) rfl rfl (by simp [Value.category]) ⟨Nat.le_of_ble_eq_true rfl, Nat.le_of_ble_eq_true rfl⟩ ⟨(by decide), (by decide)⟩ dX7_reckonPattern_70 (fun zv zV zh => ?_)
              obtain ⟨fw1_w12, rfl, rfl, hw1_w12⟩ := zh
              refine k_pc (pc' := 73) (st' := .int (bI (fitB ps ((trAt T k).2.1) fw1_w5)) :: []) rfl rfl ?_
              refine k_view (V1 := gv_up (gv_up (gv_up V wr (.inl (cI, 57600, .inl fr1))) wc (.inl (cI, 120, .inl fc1))) wn (.inl (cI, 6, .inl fw1_w12))) gv_uu ?_
              refine k_istore (lv' := [(5, .int (bI (fitB ps ((trAt T k).2.1) fw1_w5))), (6, .int (nI 1)), (4, .int (nI (4 * k))), (0, .ref m), (1, .int (nI to)), (2, .int (nI g)), (3, .int (nI (6 * i)))]) C dX7_reckonPattern_73 (by decide) rfl ?_
              refine k_iinc (v := nI 2) (lv' := [(6, .int (nI 2)), (5, .int (bI (fitB ps ((trAt T k).2.1) fw1_w5))), (4, .int (nI (4 * k))), (0, .ref m), (1, .int (nI to)), (2, .int (nI g)), (3, .int (nI (6 * i)))]) C dX7_reckonPattern_75 (k := 1) rfl (nI_add 1 1) (by decide) rfl ?_
              refine k_goto (tgt := 39) C dX7_reckonPattern_78 (by decide) ?_
              refine k_iload C dX7_reckonPattern_39 0 rfl ?_
              refine k_iconst (v := nI 3) C dX7_reckonPattern_41 rfl ?_
              refine k_icmp_gt (tgt := 81) C dX7_reckonPattern_42 (by decide) (fun c42 => ?_) (fun c42 => ?_)
              · exact absurd c42 (by decide)
              · skip
                have b42 : ¬ 3 < 2 := fun z => c42 ((nI_ltI (a := 3) (b := 2) (by omega) (by omega)).mpr z)
                refine k_iload C dX7_reckonPattern_45 1 rfl ?_
                refine k_if_eq (tgt := 81) C dX7_reckonPattern_47 (by decide) (fun c47 => ?_) (fun c47 => ?_)
                · skip
                  have b47 : (fitB ps ((trAt T k).2.1) fw1_w5) = false := bI_0.mp c47
                  have hg1 := b47
                  refine k_iload C dX7_reckonPattern_81 1 rfl ?_
                  refine k_if_eq (tgt := 91) C dX7_reckonPattern_83 (by decide) (fun c83 => ?_) (fun c83 => ?_)
                  · skip
                    have b83 : (fitB ps ((trAt T k).2.1) fw1_w5) = false := bI_0.mp c83
                    refine k_iinc (v := nI ((4 * k) + 4)) (lv' := [(4, .int (nI ((4 * k) + 4))), (6, .int (nI 2)), (5, .int (bI (fitB ps ((trAt T k).2.1) fw1_w5))), (0, .ref m), (1, .int (nI to)), (2, .int (nI g)), (3, .int (nI (6 * i)))]) C dX7_reckonPattern_91 (k := 2) rfl (nI_add (4 * k) 4) (by decide) rfl ?_
                    refine k_goto (tgt := 3) C dX7_reckonPattern_94 (by decide) ?_
                    refine k_lve (lv' := [(4, .int (nI (4 * (k + 1)))), (6, .int (nI 2)), (5, .int (bI (fitB ps ((trAt T k).2.1) fw1_w5))), (0, .ref m), (1, .int (nI to)), (2, .int (nI g)), (3, .int (nI (6 * i)))]) (by rw [show (4 * k) + 4 = 4 * (k + 1) by omega]) ?_
                    refine k_sub [0, 3, 4, 5, 6] (lv' := [(4, .int (nI (4 * (k + 1)))), (0, .ref m), (1, .int (nI to)), (2, .int (nI g)), (3, .int (nI (6 * i)))]) rfl ?_
                    exact ih3 (k + 1) fr1 fc1 fw1_w12 (by omega)  (by omega) (by rw [pat_n (by omega) (pat_1 hps he0 hg1)]; exact hR) hK
                  · skip
                    exact absurd (bI_0.mpr hg1) c83
                · skip
                  have b47 : (fitB ps ((trAt T k).2.1) fw1_w5) = true := bI_n.mp c47
                  have hg1 := b47
                  have he1 := hw1_w12 hg1
                  refine k_aload_n C dX7_reckonPattern_50 rfl 3 rfl ?_
                  refine k_aload_n C dX7_reckonPattern_51 rfl 3 rfl ?_
                  refine k_get (ci := 7) (k := 6) C fl_7_19 ((gv_up_n ne4).trans ((gv_up_n ne3).trans ((gv_up_n ne2).trans h_m))) rfl dX7_reckonPattern_52 ?_
                  refine k_iload_n C dX7_reckonPattern_55 rfl 6 rfl ?_
                  refine k_iload C dX7_reckonPattern_56 0 rfl ?_
                  refine k_iadd C dX7_reckonPattern_58 ?_
                  refine k_val (y := nI ((6 * i) + 2)) (nI_add (6 * i) 2) ?_
                  refine k_iald (v := fm ((6 * i) + 2)) C 0 ((gv_up_n ne11).trans ((gv_up_n ne10).trans ((gv_up_n ne9).trans h_wm))) rfl (vp_in_nI (by omega) (by omega)) (by rw [nI_clamp (by omega)]) dX7_reckonPattern_59 ?_
                  refine k_val (y := pp) hm2 ?_
                  refine k_aload_n C dX7_reckonPattern_60 rfl 3 rfl ?_
                  refine k_get (ci := 7) (k := 1) C fl_7_7 ((gv_up_n ne4).trans ((gv_up_n ne3).trans ((gv_up_n ne2).trans h_m))) rfl dX7_reckonPattern_61 ?_
                  refine k_iload C dX7_reckonPattern_64 2 rfl ?_
                  refine k_iload C dX7_reckonPattern_66 0 rfl ?_
                  refine k_iadd C dX7_reckonPattern_68 ?_
                  refine k_val (y := nI ((4 * k) + 2)) (nI_add (4 * k) 2) ?_
                  refine k_iald (v := ft ((4 * k) + 2)) C 0 ((gv_up_n ne8).trans ((gv_up_n ne7).trans ((gv_up_n ne6).trans h_wt))) rfl (vp_in_nI (by omega) (by omega)) (by rw [nI_clamp (by omega)]) dX7_reckonPattern_69 ?_
                  refine k_val (y := (trAt T k).2.2.1) (hT.2.2 k (by omega)).2.2.1 ?_
                  refine k_callV C mv_7_108 (c_X7_fits  ((gv_up_n ne4).trans ((gv_up_n ne3).trans ((gv_up_n ne2).trans h_m))) gv_up_s hpp) ((gv_up_n ne4).trans ((gv_up_n ne3).trans ((gv_up_n ne2).trans h_m))) rfl rfl (by simp [Value.category]) ⟨Nat.le_of_ble_eq_true rfl, Nat.le_of_ble_eq_true rfl⟩ ⟨(by decide), (by decide)⟩ dX7_reckonPattern_70 (fun zv zV zh => ?_)
                  obtain ⟨fw1_w13, rfl, rfl, hw1_w13⟩ := zh
                  refine k_pc (pc' := 73) (st' := .int (bI (fitB pp ((trAt T k).2.2.1) fw1_w12)) :: []) rfl rfl ?_
                  refine k_view (V1 := gv_up (gv_up (gv_up V wr (.inl (cI, 57600, .inl fr1))) wc (.inl (cI, 120, .inl fc1))) wn (.inl (cI, 6, .inl fw1_w13))) gv_uu ?_
                  refine k_istore (lv' := [(5, .int (bI (fitB pp ((trAt T k).2.2.1) fw1_w12))), (6, .int (nI 2)), (4, .int (nI (4 * k))), (0, .ref m), (1, .int (nI to)), (2, .int (nI g)), (3, .int (nI (6 * i)))]) C dX7_reckonPattern_73 (by decide) rfl ?_
                  refine k_iinc (v := nI 3) (lv' := [(6, .int (nI 3)), (5, .int (bI (fitB pp ((trAt T k).2.2.1) fw1_w12))), (4, .int (nI (4 * k))), (0, .ref m), (1, .int (nI to)), (2, .int (nI g)), (3, .int (nI (6 * i)))]) C dX7_reckonPattern_75 (k := 1) rfl (nI_add 2 1) (by decide) rfl ?_
                  refine k_goto (tgt := 39) C dX7_reckonPattern_78 (by decide) ?_
                  refine k_iload C dX7_reckonPattern_39 0 rfl ?_
                  refine k_iconst (v := nI 3) C dX7_reckonPattern_41 rfl ?_
                  refine k_icmp_gt (tgt := 81) C dX7_reckonPattern_42 (by decide) (fun c42 => ?_) (fun c42 => ?_)
                  · exact absurd c42 (by decide)
                  · skip
                    have b42 : ¬ 3 < 3 := fun z => c42 ((nI_ltI (a := 3) (b := 3) (by omega) (by omega)).mpr z)
                    refine k_iload C dX7_reckonPattern_45 1 rfl ?_
                    refine k_if_eq (tgt := 81) C dX7_reckonPattern_47 (by decide) (fun c47 => ?_) (fun c47 => ?_)
                    · skip
                      have b47 : (fitB pp ((trAt T k).2.2.1) fw1_w12) = false := bI_0.mp c47
                      have hg2 := b47
                      refine k_iload C dX7_reckonPattern_81 1 rfl ?_
                      refine k_if_eq (tgt := 91) C dX7_reckonPattern_83 (by decide) (fun c83 => ?_) (fun c83 => ?_)
                      · skip
                        have b83 : (fitB pp ((trAt T k).2.2.1) fw1_w12) = false := bI_0.mp c83
                        refine k_iinc (v := nI ((4 * k) + 4)) (lv' := [(4, .int (nI ((4 * k) + 4))), (6, .int (nI 3)), (5, .int (bI (fitB pp ((trAt T k).2.2.1) fw1_w12))), (0, .ref m), (1, .int (nI to)), (2, .int (nI g)), (3, .int (nI (6 * i)))]) C dX7_reckonPattern_91 (k := 2) rfl (nI_add (4 * k) 4) (by decide) rfl ?_
                        refine k_goto (tgt := 3) C dX7_reckonPattern_94 (by decide) ?_
                        refine k_lve (lv' := [(4, .int (nI (4 * (k + 1)))), (6, .int (nI 3)), (5, .int (bI (fitB pp ((trAt T k).2.2.1) fw1_w12))), (0, .ref m), (1, .int (nI to)), (2, .int (nI g)), (3, .int (nI (6 * i)))]) (by rw [show (4 * k) + 4 = 4 * (k + 1) by omega]) ?_
                        refine k_sub [0, 3, 4, 5, 6] (lv' := [(4, .int (nI (4 * (k + 1)))), (0, .ref m), (1, .int (nI to)), (2, .int (nI g)), (3, .int (nI (6 * i)))]) rfl ?_
                        exact ih3 (k + 1) fr1 fc1 fw1_w13 (by omega)  (by omega) (by rw [pat_n (by omega) (pat_2 hpp he0 he1 hg2)]; exact hR) hK
                      · skip
                        exact absurd (bI_0.mpr hg2) c83
                    · skip
                      have b47 : (fitB pp ((trAt T k).2.2.1) fw1_w12) = true := bI_n.mp c47
                      have hg2 := b47
                      have he2 := hw1_w13 hg2
                      refine k_aload_n C dX7_reckonPattern_50 rfl 3 rfl ?_
                      refine k_aload_n C dX7_reckonPattern_51 rfl 3 rfl ?_
                      refine k_get (ci := 7) (k := 6) C fl_7_19 ((gv_up_n ne4).trans ((gv_up_n ne3).trans ((gv_up_n ne2).trans h_m))) rfl dX7_reckonPattern_52 ?_
                      refine k_iload_n C dX7_reckonPattern_55 rfl 6 rfl ?_
                      refine k_iload C dX7_reckonPattern_56 0 rfl ?_
                      refine k_iadd C dX7_reckonPattern_58 ?_
                      refine k_val (y := nI ((6 * i) + 3)) (nI_add (6 * i) 3) ?_
                      refine k_iald (v := fm ((6 * i) + 3)) C 0 ((gv_up_n ne11).trans ((gv_up_n ne10).trans ((gv_up_n ne9).trans h_wm))) rfl (vp_in_nI (by omega) (by omega)) (by rw [nI_clamp (by omega)]) dX7_reckonPattern_59 ?_
                      refine k_val (y := po) hm3 ?_
                      refine k_aload_n C dX7_reckonPattern_60 rfl 3 rfl ?_
                      refine k_get (ci := 7) (k := 1) C fl_7_7 ((gv_up_n ne4).trans ((gv_up_n ne3).trans ((gv_up_n ne2).trans h_m))) rfl dX7_reckonPattern_61 ?_
                      refine k_iload C dX7_reckonPattern_64 2 rfl ?_
                      refine k_iload C dX7_reckonPattern_66 0 rfl ?_
                      refine k_iadd C dX7_reckonPattern_68 ?_
                      refine k_val (y := nI ((4 * k) + 3)) (nI_add (4 * k) 3) ?_
                      refine k_iald (v := ft ((4 * k) + 3)) C 0 ((gv_up_n ne8).trans ((gv_up_n ne7).trans ((gv_up_n ne6).trans h_wt))) rfl (vp_in_nI (by omega) (by omega)) (by rw [nI_clamp (by omega)]) dX7_reckonPattern_69 ?_
                      refine k_val (y := (trAt T k).2.2.2) (hT.2.2 k (by omega)).2.2.2 ?_
                      refine k_callV C mv_7_108 (c_X7_fits  ((gv_up_n ne4).trans ((gv_up_n ne3).trans ((gv_up_n ne2).trans h_m))) gv_up_s hpo) ((gv_up_n ne4).trans ((gv_up_n ne3).trans ((gv_up_n ne2).trans h_m))) rfl rfl (by simp [Value.category]) ⟨Nat.le_of_ble_eq_true rfl, Nat.le_of_ble_eq_true rfl⟩ ⟨(by decide), (by decide)⟩ dX7_reckonPattern_70 (fun zv zV zh => ?_)
                      obtain ⟨fw1_w14, rfl, rfl, hw1_w14⟩ := zh
                      refine k_pc (pc' := 73) (st' := .int (bI (fitB po ((trAt T k).2.2.2) fw1_w13)) :: []) rfl rfl ?_
                      refine k_view (V1 := gv_up (gv_up (gv_up V wr (.inl (cI, 57600, .inl fr1))) wc (.inl (cI, 120, .inl fc1))) wn (.inl (cI, 6, .inl fw1_w14))) gv_uu ?_
                      refine k_istore (lv' := [(5, .int (bI (fitB po ((trAt T k).2.2.2) fw1_w13))), (6, .int (nI 3)), (4, .int (nI (4 * k))), (0, .ref m), (1, .int (nI to)), (2, .int (nI g)), (3, .int (nI (6 * i)))]) C dX7_reckonPattern_73 (by decide) rfl ?_
                      refine k_iinc (v := nI 4) (lv' := [(6, .int (nI 4)), (5, .int (bI (fitB po ((trAt T k).2.2.2) fw1_w13))), (4, .int (nI (4 * k))), (0, .ref m), (1, .int (nI to)), (2, .int (nI g)), (3, .int (nI (6 * i)))]) C dX7_reckonPattern_75 (k := 1) rfl (nI_add 3 1) (by decide) rfl ?_
                      refine k_goto (tgt := 39) C dX7_reckonPattern_78 (by decide) ?_
                      refine k_iload C dX7_reckonPattern_39 0 rfl ?_
                      refine k_iconst (v := nI 3) C dX7_reckonPattern_41 rfl ?_
                      refine k_icmp_gt (tgt := 81) C dX7_reckonPattern_42 (by decide) (fun c42 => ?_) (fun c42 => ?_)
                      · skip
                        have b42 : 3 < 4 := (nI_ltI (a := 3) (b := 4) (by omega) (by omega)).mp c42
                        refine k_iload C dX7_reckonPattern_81 1 rfl ?_
                        refine k_if_eq (tgt := 91) C dX7_reckonPattern_83 (by decide) (fun c83 => ?_) (fun c83 => ?_)
                        · skip
                          have b83 : (fitB po ((trAt T k).2.2.2) fw1_w13) = false := bI_0.mp c83
                          have hg3 := b83
                          refine k_iinc (v := nI ((4 * k) + 4)) (lv' := [(4, .int (nI ((4 * k) + 4))), (6, .int (nI 4)), (5, .int (bI (fitB po ((trAt T k).2.2.2) fw1_w13))), (0, .ref m), (1, .int (nI to)), (2, .int (nI g)), (3, .int (nI (6 * i)))]) C dX7_reckonPattern_91 (k := 2) rfl (nI_add (4 * k) 4) (by decide) rfl ?_
                          refine k_goto (tgt := 3) C dX7_reckonPattern_94 (by decide) ?_
                          refine k_lve (lv' := [(4, .int (nI (4 * (k + 1)))), (6, .int (nI 4)), (5, .int (bI (fitB po ((trAt T k).2.2.2) fw1_w13))), (0, .ref m), (1, .int (nI to)), (2, .int (nI g)), (3, .int (nI (6 * i)))]) (by rw [show (4 * k) + 4 = 4 * (k + 1) by omega]) ?_
                          refine k_sub [0, 3, 4, 5, 6] (lv' := [(4, .int (nI (4 * (k + 1)))), (0, .ref m), (1, .int (nI to)), (2, .int (nI g)), (3, .int (nI (6 * i)))]) rfl ?_
                          exact ih3 (k + 1) fr1 fc1 fw1_w14 (by omega)  (by omega) (by rw [pat_n (by omega) (pat_3 hpo he0 he1 he2 hg3)]; exact hR) hK
                        · skip
                          have b83 : (fitB po ((trAt T k).2.2.2) fw1_w13) = true := bI_n.mp c83
                          have hg3 := b83
                          have he3 := hw1_w14 hg3
                          refine k_aload_n C dX7_reckonPattern_86 rfl 3 rfl ?_
                          refine k_iload_n C dX7_reckonPattern_87 rfl 4 rfl ?_
                          obtain ⟨r1, hr1, he9⟩ := pat_ok hps hpp hpo he0 c26 hg1 he1 hg2 he2 hg3 he3
                          have ne15 : nq wr wc := gv_ne h_wc h_wr (by simp)
                          have ne16 : nq wr wn := gv_ne h_wn h_wr (by simp)
                          have ne17 : nq wc wn := gv_ne h_wn h_wc (by simp)
                          refine k_callV C mv_7_112 (c_X7_add  ((gv_up_n ne4).trans ((gv_up_n ne3).trans ((gv_up_n ne2).trans h_m))) ((gv_up_n ne16).trans ((gv_up_n ne15).trans gv_up_s)) ((gv_up_n ne17).trans gv_up_s) gv_up_s (by first | assumption | omega) hR he9) ((gv_up_n ne4).trans ((gv_up_n ne3).trans ((gv_up_n ne2).trans h_m))) rfl rfl (by simp [Value.category]) ⟨Nat.le_of_ble_eq_true rfl, Nat.le_of_ble_eq_true rfl⟩ ⟨(by decide), (by decide)⟩ dX7_reckonPattern_88 (fun zv zV zh => ?_)
                          obtain ⟨fc1_w18, fr1_w18, rfl, rfl, hR1_w18, hk1_w18⟩ := zh
                          refine k_pc (pc' := 91) (st' := []) rfl rfl ?_
                          refine k_view (V1 := gv_up (gv_up (gv_up (gv_up V wr (.inl (cI, 57600, .inl fr1_w18))) wc (.inl (cI, 120, .inl fc1))) wn (.inl (cI, 6, .inl fw1_w14))) wc (.inl (cI, 120, .inl fc1_w18))) (congrArg (fun W => gv_up W wc (.inl (cI, 120, .inl fc1_w18))) ((gv_uc ne16).trans (congrArg (fun W => gv_up W wn (.inl (cI, 6, .inl fw1_w14))) ((gv_uc ne15).trans (congrArg (fun W => gv_up W wc (.inl (cI, 120, .inl fc1))) gv_uu))))) ?_
                          refine k_view (V1 := gv_up (gv_up (gv_up V wr (.inl (cI, 57600, .inl fr1_w18))) wc (.inl (cI, 120, .inl fc1_w18))) wn (.inl (cI, 6, .inl fw1_w14))) ((gv_uc ne17).trans (congrArg (fun W => gv_up W wn (.inl (cI, 6, .inl fw1_w14))) gv_uu)) ?_
                          refine k_iinc (v := nI ((4 * k) + 4)) (lv' := [(4, .int (nI ((4 * k) + 4))), (6, .int (nI 4)), (5, .int (bI (fitB po ((trAt T k).2.2.2) fw1_w13))), (0, .ref m), (1, .int (nI to)), (2, .int (nI g)), (3, .int (nI (6 * i)))]) C dX7_reckonPattern_91 (k := 2) rfl (nI_add (4 * k) 4) (by decide) rfl ?_
                          refine k_goto (tgt := 3) C dX7_reckonPattern_94 (by decide) ?_
                          refine k_lve (lv' := [(4, .int (nI (4 * (k + 1)))), (6, .int (nI 4)), (5, .int (bI (fitB po ((trAt T k).2.2.2) fw1_w13))), (0, .ref m), (1, .int (nI to)), (2, .int (nI g)), (3, .int (nI (6 * i)))]) (by rw [show (4 * k) + 4 = 4 * (k + 1) by omega]) ?_
                          refine k_sub [0, 3, 4, 5, 6] (lv' := [(4, .int (nI (4 * (k + 1)))), (0, .ref m), (1, .int (nI to)), (2, .int (nI g)), (3, .int (nI (6 * i)))]) rfl ?_
                          exact ih3 (k + 1) fr1_w18 fc1_w18 fw1_w14 (by omega)  (by omega) (by rw [pat_y (by omega) hr1]; exact hR1_w18) (hK.tr hk1_w18)
                      · exact absurd c42 (by decide)
  refine k_lve (lv' := [(4, .int (nI (4 * 0))), (0, .ref m), (1, .int (nI to)), (2, .int (nI g)), (3, .int (nI (6 * i)))]) (by rw [show 0 = 4 * 0 by omega]) ?_
  refine k_view (V1 := gv_up V wr (.inl (cI, 57600, .inl fr))) (gv_id h_wr).symm ?_
  have ne19 : nq wc wr := gv_ne h_wr h_wc (by simp)
  refine k_view (V1 := gv_up (gv_up V wr (.inl (cI, 57600, .inl fr))) wc (.inl (cI, 120, .inl fc))) (gv_id ((gv_up_n ne19).trans h_wc)).symm ?_
  have ne20 : nq wn wr := gv_ne h_wr h_wn (by simp)
  have ne21 : nq wn wc := gv_ne h_wc h_wn (by simp)
  refine k_view (V1 := gv_up (gv_up (gv_up V wr (.inl (cI, 57600, .inl fr))) wc (.inl (cI, 120, .inl fc))) wn (.inl (cI, 6, .inl fw))) (gv_id ((gv_up_n ne21).trans ((gv_up_n ne20).trans h_wn))).symm ?_
  exact L3 _ 0 fr fc fw (Nat.lt_succ_self _)  (by omega) (MRep.nil hc0) Kp.rf
set_option maxHeartbeats 4000000 in
set_option maxRecDepth 100000 in
theorem c_X7_reckonMinus {zl : Launch} {D : va_G} {cI cN cR : ClassId} {base : Nat} {V : gv_V} {m wt wa wv wm wr wc wn ws wk wp nt ne nn sh : Nat} {kn : Int32} {fr fc fw : Nat → Int32} {to t n : Nat} {A : List Row} {u n2 : Nat} {B : List Row}  (h_m : V m = some (.inr (7, [.int (nI nt), .ref wt, .int (nI ne), .ref wa, .ref wv, .int (nI nn), .ref wm, .int kn, .ref wr, .ref wc, .ref wn, .int (nI sh), .ref ws, .ref wk, .ref wp]))) (h_wr : V wr = some (.inl (cI, 57600, .inl fr))) (h_wc : V wc = some (.inl (cI, 120, .inl fc))) (h_wn : V wn = some (.inl (cI, 6, .inl fw))) (hto : to < 120) (hA : Tab A n (tbl fr t)) (hcA : fc t = nI n) (hta : ¬ t = to) (ht : t < 120) (hB : Tab B n2 (tbl fr u)) (hcB : fc u = nI n2) (htu : ¬ u = to) (hu : u < 120) (hc0 : fc to = 0) : ct zl D [(cI, .int), (cN, .object "AlgebraTree$Node"), (cR, .object "AlgebraTree$Rows")] base yX7_reckonMinus cX7_reckonMinus 7 none 2 0 0 [.ref m, .int (nI to), .int (nI t), .int (nI u)] V (fun zv zV => ∃ fr1 : Nat → Int32, ∃ fc1 : Nat → Int32, ∃ fw1 : Nat → Int32, zv = none ∧ zV = gv_up (gv_up (gv_up V wr (.inl (cI, 57600, .inl fr1))) wc (.inl (cI, 120, .inl fc1))) wn (.inl (cI, 6, .inl fw1)) ∧ (MRep (minusL A B) (fc1 to) (tbl fr1 to)) ∧ (Kp to fc fr fc1 fr1)) := by
  refine ct_of "AlgebraTreeModel" rfl (by decide) (Nat.le_of_ble_eq_true rfl) ?_
  intro zp ze zs zm zargs zbelow zmeth zc C zr zlk znm
  refine k_pc (pc' := 0) (st' := []) rfl rfl ?_
  show K zp zl ze (gv_rm 2 0 0) zs zm zargs zbelow zmeth zc D base 7 (gv_E D [(cI, .int), (cN, .object "AlgebraTree$Node"), (cR, .object "AlgebraTree$Rows")] base zbelow zargs zs 0 0 (fun zv zV => ∃ fr1 : Nat → Int32, ∃ fc1 : Nat → Int32, ∃ fw1 : Nat → Int32, zv = none ∧ zV = gv_up (gv_up (gv_up V wr (.inl (cI, 57600, .inl fr1))) wc (.inl (cI, 120, .inl fc1))) wn (.inl (cI, 6, .inl fw1)) ∧ (MRep (minusL A B) (fc1 to) (tbl fr1 to)) ∧ (Kp to fc fr fc1 fr1))) V 0 0 [(0, .ref m), (1, .int (nI to)), (2, .int (nI t)), (3, .int (nI u))] 0 []
  refine k_iconst (v := nI 0) C dX7_reckonMinus_0 rfl ?_
  refine k_istore (lv' := [(4, .int (nI 0)), (0, .ref m), (1, .int (nI to)), (2, .int (nI t)), (3, .int (nI u))]) C dX7_reckonMinus_1 (by decide) rfl ?_
  have L3 : ∀ (zn1 : Nat) (i : Nat) (fr1 : Nat → Int32) (fc1 : Nat → Int32) (fw1 : Nat → Int32), n - i < zn1 → (i ≤ n) → (MRep (minusL (A.take i) B) (fc1 to) (tbl fr1 to)) → (Kp to fc fr fc1 fr1) → K zp zl ze (gv_rm 2 0 0) zs zm zargs zbelow zmeth zc D base 7 (gv_E D [(cI, .int), (cN, .object "AlgebraTree$Node"), (cR, .object "AlgebraTree$Rows")] base zbelow zargs zs 0 0 (fun zv zV => ∃ fr1 : Nat → Int32, ∃ fc1 : Nat → Int32, ∃ fw1 : Nat → Int32, zv = none ∧ zV = gv_up (gv_up (gv_up V wr (.inl (cI, 57600, .inl fr1))) wc (.inl (cI, 120, .inl fc1))) wn (.inl (cI, 6, .inl fw1)) ∧ (MRep (minusL A B) (fc1 to) (tbl fr1 to)) ∧ (Kp to fc fr fc1 fr1))) (gv_up (gv_up (gv_up V wr (.inl (cI, 57600, .inl fr1))) wc (.inl (cI, 120, .inl fc1))) wn (.inl (cI, 6, .inl fw1))) 0 0 [(4, .int (nI i)), (0, .ref m), (1, .int (nI to)), (2, .int (nI t)), (3, .int (nI u))] 3 [] := by
    intro zn1
    induction zn1 with
    | zero => intro i fr1 fc1 fw1 hlt; exact absurd hlt (Nat.not_lt_zero _)
    | succ zn1 ih3 =>
      intro i fr1 fc1 fw1 hlt3  hi hR hK
      have hA2 := hA.2.1
      have hA3 := hA.1
      have hA1 := hA.kp hK hta
      have hc1 : fc1 t = nI n := (hK t hta).1.trans hcA
      have hB2 := hB.2.1
      have hB3 := hB.1
      have hB1 := hB.kp hK htu
      have hc2 : fc1 u = nI n2 := (hK u htu).1.trans hcB
      refine k_iload C dX7_reckonMinus_3 0 rfl ?_
      refine k_aload_n C dX7_reckonMinus_5 rfl 1 rfl ?_
      have ne2 : nq m wr := gv_ne h_wr h_m (by simp)
      have ne3 : nq m wc := gv_ne h_wc h_m (by simp)
      have ne4 : nq m wn := gv_ne h_wn h_m (by simp)
      refine k_get (ci := 7) (k := 9) C fl_7_26 ((gv_up_n ne4).trans ((gv_up_n ne3).trans ((gv_up_n ne2).trans h_m))) rfl dX7_reckonMinus_6 ?_
      refine k_iload_n C dX7_reckonMinus_9 rfl 3 rfl ?_
      have ne5 : nq wc wn := gv_ne h_wn h_wc (by simp)
      refine k_iald (v := fc1 t) C 0 ((gv_up_n ne5).trans gv_up_s) rfl (vp_in_nI (by omega) (by omega)) (by rw [nI_clamp (by omega)]) dX7_reckonMinus_10 ?_
      refine k_val (y := nI n) hc1 ?_
      refine k_icmp_ge (tgt := 98) C dX7_reckonMinus_11 (by decide) (fun c11 => ?_) (fun c11 => ?_)
      · skip
        have b11 : n ≤ i := (nI_leI (a := n) (b := i) (by omega) (by omega)).mp c11
        exact k_vret C zr zlk ⟨fr1, fc1, fw1, rfl, rfl, (by rw [take_all (M := A) hA3 (by omega)] at hR; exact hR), hK⟩ (Nat.le_refl _) (Nat.le_refl _) dX7_reckonMinus_98
      · skip
        have b11 : ¬ n ≤ i := fun z => c11 ((nI_leI (a := n) (b := i) (by omega) (by omega)).mpr z)
        refine k_iconst (v := nI 1) C dX7_reckonMinus_14 rfl ?_
        refine k_istore (lv' := [(5, .int (nI 1)), (4, .int (nI i)), (0, .ref m), (1, .int (nI to)), (2, .int (nI t)), (3, .int (nI u))]) C dX7_reckonMinus_15 (by decide) rfl ?_
        refine k_iconst (v := nI 0) C dX7_reckonMinus_17 rfl ?_
        refine k_istore (lv' := [(6, .int (nI 0)), (5, .int (nI 1)), (4, .int (nI i)), (0, .ref m), (1, .int (nI to)), (2, .int (nI t)), (3, .int (nI u))]) C dX7_reckonMinus_18 (by decide) rfl ?_
        have L20 : ∀ (zn6 : Nat) (j : Nat) (sb : Bool), n2 - j < zn6 → (j ≤ n2) → (sb = !(B.take j).any (fun y => agr (rowAt A i) y && shr (rowAt A i) y)) → K zp zl ze (gv_rm 2 0 0) zs zm zargs zbelow zmeth zc D base 7 (gv_E D [(cI, .int), (cN, .object "AlgebraTree$Node"), (cR, .object "AlgebraTree$Rows")] base zbelow zargs zs 0 0 (fun zv zV => ∃ fr1 : Nat → Int32, ∃ fc1 : Nat → Int32, ∃ fw1 : Nat → Int32, zv = none ∧ zV = gv_up (gv_up (gv_up V wr (.inl (cI, 57600, .inl fr1))) wc (.inl (cI, 120, .inl fc1))) wn (.inl (cI, 6, .inl fw1)) ∧ (MRep (minusL A B) (fc1 to) (tbl fr1 to)) ∧ (Kp to fc fr fc1 fr1))) (gv_up (gv_up (gv_up V wr (.inl (cI, 57600, .inl fr1))) wc (.inl (cI, 120, .inl fc1))) wn (.inl (cI, 6, .inl fw1))) 0 0 [(6, .int (nI j)), (5, .int (bI sb)), (4, .int (nI i)), (0, .ref m), (1, .int (nI to)), (2, .int (nI t)), (3, .int (nI u))] 20 [] := by
          intro zn6
          induction zn6 with
          | zero => intro j sb hlt; exact absurd hlt (Nat.not_lt_zero _)
          | succ zn6 ih20 =>
            intro j sb hlt20  hj hsb
            refine k_iload C dX7_reckonMinus_20 0 rfl ?_
            refine k_aload_n C dX7_reckonMinus_22 rfl 3 rfl ?_
            refine k_get (ci := 7) (k := 9) C fl_7_26 ((gv_up_n ne4).trans ((gv_up_n ne3).trans ((gv_up_n ne2).trans h_m))) rfl dX7_reckonMinus_23 ?_
            refine k_iload_n C dX7_reckonMinus_26 rfl 6 rfl ?_
            refine k_iald (v := fc1 u) C 0 ((gv_up_n ne5).trans gv_up_s) rfl (vp_in_nI (by omega) (by omega)) (by rw [nI_clamp (by omega)]) dX7_reckonMinus_27 ?_
            refine k_val (y := nI n2) hc2 ?_
            refine k_icmp_ge (tgt := 75) C dX7_reckonMinus_28 (by decide) (fun c28 => ?_) (fun c28 => ?_)
            · skip
              have b28 : n2 ≤ j := (nI_leI (a := n2) (b := j) (by omega) (by omega)).mp c28
              refine k_iload C dX7_reckonMinus_75 1 rfl ?_
              refine k_if_eq (tgt := 92) C dX7_reckonMinus_77 (by decide) (fun c77 => ?_) (fun c77 => ?_)
              · skip
                have b77 : sb = false := bI_0.mp c77
                have hst : (!tknA B (rowAt A i)) = false := by unfold tknA; rw [← take_all (M := B) hB3 (show n2 ≤ j by omega), ← hsb, b77]
                refine k_iinc (v := nI (i + 1)) (lv' := [(4, .int (nI (i + 1))), (6, .int (nI j)), (5, .int (bI sb)), (0, .ref m), (1, .int (nI to)), (2, .int (nI t)), (3, .int (nI u))]) C dX7_reckonMinus_92 (k := 2) rfl (nI_add i 1) (by decide) rfl ?_
                refine k_goto (tgt := 3) C dX7_reckonMinus_95 (by decide) ?_
                refine k_sub [0, 3, 4, 5, 6] (lv' := [(4, .int (nI (i + 1))), (0, .ref m), (1, .int (nI to)), (2, .int (nI t)), (3, .int (nI u))]) rfl ?_
                exact ih3 (i + 1) fr1 fc1 fw1 (by omega)  (by omega) (by unfold minusL; rw [filt_s (by omega), if_neg (by rw [hst]; decide), List.append_nil]; exact hR) hK
              · skip
                have b77 : sb = true := bI_n.mp c77
                have hst : (!tknA B (rowAt A i)) = true := by unfold tknA; rw [← take_all (M := B) hB3 (show n2 ≤ j by omega), ← hsb, b77]
                refine k_aload_n C dX7_reckonMinus_80 rfl 3 rfl ?_
                refine k_iload_n C dX7_reckonMinus_81 rfl 5 rfl ?_
                refine k_iload C dX7_reckonMinus_82 2 rfl ?_
                have ne7 : nq wr wc := gv_ne h_wc h_wr (by simp)
                have ne8 : nq wr wn := gv_ne h_wn h_wr (by simp)
                refine k_callV C mv_7_101 (c_X7_take  ((gv_up_n ne4).trans ((gv_up_n ne3).trans ((gv_up_n ne2).trans h_m))) ((gv_up_n ne8).trans ((gv_up_n ne7).trans gv_up_s)) gv_up_s (by first | assumption | omega) (by omega)) ((gv_up_n ne4).trans ((gv_up_n ne3).trans ((gv_up_n ne2).trans h_m))) rfl rfl (by simp [Value.category]) ⟨Nat.le_of_ble_eq_true rfl, Nat.le_of_ble_eq_true rfl⟩ ⟨(by decide), (by decide)⟩ dX7_reckonMinus_84 (fun zv zV zh => ?_)
                obtain ⟨fw1_w9, rfl, rfl, hw1_w9⟩ := zh
                refine k_pc (pc' := 87) (st' := []) rfl rfl ?_
                refine k_view (V1 := gv_up (gv_up (gv_up V wr (.inl (cI, 57600, .inl fr1))) wc (.inl (cI, 120, .inl fc1))) wn (.inl (cI, 6, .inl fw1_w9))) gv_uu ?_
                refine k_aload_n C dX7_reckonMinus_87 rfl 3 rfl ?_
                refine k_iload_n C dX7_reckonMinus_88 rfl 4 rfl ?_
                refine k_callV C mv_7_112 (c_X7_add  ((gv_up_n ne4).trans ((gv_up_n ne3).trans ((gv_up_n ne2).trans h_m))) ((gv_up_n ne8).trans ((gv_up_n ne7).trans gv_up_s)) ((gv_up_n ne5).trans gv_up_s) gv_up_s (by first | assumption | omega) hR (by exact hw1_w9.tr (hA1.at (by omega)))) ((gv_up_n ne4).trans ((gv_up_n ne3).trans ((gv_up_n ne2).trans h_m))) rfl rfl (by simp [Value.category]) ⟨Nat.le_of_ble_eq_true rfl, Nat.le_of_ble_eq_true rfl⟩ ⟨(by decide), (by decide)⟩ dX7_reckonMinus_89 (fun zv zV zh => ?_)
                obtain ⟨fc1_w10, fr1_w10, rfl, rfl, hR1_w10, hk1_w10⟩ := zh
                refine k_pc (pc' := 92) (st' := []) rfl rfl ?_
                refine k_view (V1 := gv_up (gv_up (gv_up (gv_up V wr (.inl (cI, 57600, .inl fr1_w10))) wc (.inl (cI, 120, .inl fc1))) wn (.inl (cI, 6, .inl fw1_w9))) wc (.inl (cI, 120, .inl fc1_w10))) (congrArg (fun W => gv_up W wc (.inl (cI, 120, .inl fc1_w10))) ((gv_uc ne8).trans (congrArg (fun W => gv_up W wn (.inl (cI, 6, .inl fw1_w9))) ((gv_uc ne7).trans (congrArg (fun W => gv_up W wc (.inl (cI, 120, .inl fc1))) gv_uu))))) ?_
                refine k_view (V1 := gv_up (gv_up (gv_up V wr (.inl (cI, 57600, .inl fr1_w10))) wc (.inl (cI, 120, .inl fc1_w10))) wn (.inl (cI, 6, .inl fw1_w9))) ((gv_uc ne5).trans (congrArg (fun W => gv_up W wn (.inl (cI, 6, .inl fw1_w9))) gv_uu)) ?_
                refine k_iinc (v := nI (i + 1)) (lv' := [(4, .int (nI (i + 1))), (6, .int (nI j)), (5, .int (bI sb)), (0, .ref m), (1, .int (nI to)), (2, .int (nI t)), (3, .int (nI u))]) C dX7_reckonMinus_92 (k := 2) rfl (nI_add i 1) (by decide) rfl ?_
                refine k_goto (tgt := 3) C dX7_reckonMinus_95 (by decide) ?_
                refine k_sub [0, 3, 4, 5, 6] (lv' := [(4, .int (nI (i + 1))), (0, .ref m), (1, .int (nI to)), (2, .int (nI t)), (3, .int (nI u))]) rfl ?_
                exact ih3 (i + 1) fr1_w10 fc1_w10 fw1_w9 (by omega)  (by omega) (by unfold minusL; rw [filt_s (by omega), if_pos hst]; exact hR1_w10) (hK.tr hk1_w10)
            · skip
              have b28 : ¬ n2 ≤ j := fun z => c28 ((nI_leI (a := n2) (b := j) (by omega) (by omega)).mpr z)
              refine k_iload C dX7_reckonMinus_31 1 rfl ?_
              refine k_if_eq (tgt := 66) C dX7_reckonMinus_33 (by decide) (fun c33 => ?_) (fun c33 => ?_)
              · skip
                have b33 : sb = false := bI_0.mp c33
                refine k_iconst (v := nI 0) C dX7_reckonMinus_66 rfl ?_
                refine k_istore (lv' := [(5, .int (nI 0)), (6, .int (nI j)), (4, .int (nI i)), (0, .ref m), (1, .int (nI to)), (2, .int (nI t)), (3, .int (nI u))]) C dX7_reckonMinus_67 (by decide) rfl ?_
                refine k_iinc (v := nI (j + 1)) (lv' := [(6, .int (nI (j + 1))), (5, .int (nI 0)), (4, .int (nI i)), (0, .ref m), (1, .int (nI to)), (2, .int (nI t)), (3, .int (nI u))]) C dX7_reckonMinus_69 (k := 1) rfl (nI_add j 1) (by decide) rfl ?_
                refine k_goto (tgt := 20) C dX7_reckonMinus_72 (by decide) ?_
                refine k_lve (lv' := [(6, .int (nI (j + 1))), (5, .int (bI false)), (4, .int (nI i)), (0, .ref m), (1, .int (nI to)), (2, .int (nI t)), (3, .int (nI u))]) rfl ?_
                exact ih20 (j + 1) false (by omega)  (by omega) (by rw [← any_f (p := fun y => agr (rowAt A i) y && shr (rowAt A i) y) (by omega) hsb]; first | (rw [b33]; rfl) | (rw [← agr_c (hA1.at (by omega)) (hB1.at (by omega)), ← shr_c (hA1.at (by omega)) (hB1.at (by omega)), b46, b59]; simp))
              · skip
                have b33 : sb = true := bI_n.mp c33
                refine k_aload_n C dX7_reckonMinus_36 rfl 3 rfl ?_
                refine k_iload_n C dX7_reckonMinus_37 rfl 5 rfl ?_
                refine k_iload C dX7_reckonMinus_38 2 rfl ?_
                refine k_iload_n C dX7_reckonMinus_40 rfl 6 rfl ?_
                refine k_iload C dX7_reckonMinus_41 0 rfl ?_
                have ne11 : nq wr wc := gv_ne h_wc h_wr (by simp)
                have ne12 : nq wr wn := gv_ne h_wn h_wr (by simp)
                refine k_callV_pi C mv_7_116 (c_X7_agree  ((gv_up_n ne4).trans ((gv_up_n ne3).trans ((gv_up_n ne2).trans h_m))) ((gv_up_n ne12).trans ((gv_up_n ne11).trans gv_up_s)) (by first | assumption | omega) (by first | assumption | omega) (by first | assumption | omega) (by first | assumption | omega)) ((gv_up_n ne4).trans ((gv_up_n ne3).trans ((gv_up_n ne2).trans h_m))) rfl rfl (by simp [Value.category]) ⟨Nat.le_of_ble_eq_true rfl, Nat.le_of_ble_eq_true rfl⟩ ⟨(by decide), (by decide)⟩ dX7_reckonMinus_43 ?_
                refine k_if_eq (tgt := 62) C dX7_reckonMinus_46 (by decide) (fun c46 => ?_) (fun c46 => ?_)
                · skip
                  have b46 : (agr (rwf (tbl fr1 t) i) (rwf (tbl fr1 u) j)) = false := bI_0.mp c46
                  refine k_iconst (v := nI 1) C dX7_reckonMinus_62 rfl ?_
                  refine k_goto (tgt := 67) C dX7_reckonMinus_63 (by decide) ?_
                  refine k_istore (lv' := [(5, .int (nI 1)), (6, .int (nI j)), (4, .int (nI i)), (0, .ref m), (1, .int (nI to)), (2, .int (nI t)), (3, .int (nI u))]) C dX7_reckonMinus_67 (by decide) rfl ?_
                  refine k_iinc (v := nI (j + 1)) (lv' := [(6, .int (nI (j + 1))), (5, .int (nI 1)), (4, .int (nI i)), (0, .ref m), (1, .int (nI to)), (2, .int (nI t)), (3, .int (nI u))]) C dX7_reckonMinus_69 (k := 1) rfl (nI_add j 1) (by decide) rfl ?_
                  refine k_goto (tgt := 20) C dX7_reckonMinus_72 (by decide) ?_
                  refine k_lve (lv' := [(6, .int (nI (j + 1))), (5, .int (bI true)), (4, .int (nI i)), (0, .ref m), (1, .int (nI to)), (2, .int (nI t)), (3, .int (nI u))]) rfl ?_
                  exact ih20 (j + 1) true (by omega)  (by omega) (by rw [← any_f (p := fun y => agr (rowAt A i) y && shr (rowAt A i) y) (by omega) hsb, b33]; first | (rw [← agr_c (hA1.at (by omega)) (hB1.at (by omega)), b46]; rfl) | (rw [← shr_c (hA1.at (by omega)) (hB1.at (by omega)), b59]; simp))
                · skip
                  have b46 : (agr (rwf (tbl fr1 t) i) (rwf (tbl fr1 u) j)) = true := bI_n.mp c46
                  refine k_aload_n C dX7_reckonMinus_49 rfl 3 rfl ?_
                  refine k_iload_n C dX7_reckonMinus_50 rfl 5 rfl ?_
                  refine k_iload C dX7_reckonMinus_51 2 rfl ?_
                  refine k_iload_n C dX7_reckonMinus_53 rfl 6 rfl ?_
                  refine k_iload C dX7_reckonMinus_54 0 rfl ?_
                  refine k_callV_pi C mv_7_127 (c_X7_share  ((gv_up_n ne4).trans ((gv_up_n ne3).trans ((gv_up_n ne2).trans h_m))) ((gv_up_n ne12).trans ((gv_up_n ne11).trans gv_up_s)) (by first | assumption | omega) (by first | assumption | omega) (by first | assumption | omega) (by first | assumption | omega)) ((gv_up_n ne4).trans ((gv_up_n ne3).trans ((gv_up_n ne2).trans h_m))) rfl rfl (by simp [Value.category]) ⟨Nat.le_of_ble_eq_true rfl, Nat.le_of_ble_eq_true rfl⟩ ⟨(by decide), (by decide)⟩ dX7_reckonMinus_56 ?_
                  refine k_if_ne (tgt := 66) C dX7_reckonMinus_59 (by decide) (fun c59 => ?_) (fun c59 => ?_)
                  · skip
                    have b59 : (shr (rwf (tbl fr1 t) i) (rwf (tbl fr1 u) j)) = true := bI_n.mp c59
                    refine k_iconst (v := nI 0) C dX7_reckonMinus_66 rfl ?_
                    refine k_istore (lv' := [(5, .int (nI 0)), (6, .int (nI j)), (4, .int (nI i)), (0, .ref m), (1, .int (nI to)), (2, .int (nI t)), (3, .int (nI u))]) C dX7_reckonMinus_67 (by decide) rfl ?_
                    refine k_iinc (v := nI (j + 1)) (lv' := [(6, .int (nI (j + 1))), (5, .int (nI 0)), (4, .int (nI i)), (0, .ref m), (1, .int (nI to)), (2, .int (nI t)), (3, .int (nI u))]) C dX7_reckonMinus_69 (k := 1) rfl (nI_add j 1) (by decide) rfl ?_
                    refine k_goto (tgt := 20) C dX7_reckonMinus_72 (by decide) ?_
                    refine k_lve (lv' := [(6, .int (nI (j + 1))), (5, .int (bI false)), (4, .int (nI i)), (0, .ref m), (1, .int (nI to)), (2, .int (nI t)), (3, .int (nI u))]) rfl ?_
                    exact ih20 (j + 1) false (by omega)  (by omega) (by rw [← any_f (p := fun y => agr (rowAt A i) y && shr (rowAt A i) y) (by omega) hsb]; first | (rw [b33]; rfl) | (rw [← agr_c (hA1.at (by omega)) (hB1.at (by omega)), ← shr_c (hA1.at (by omega)) (hB1.at (by omega)), b46, b59]; simp))
                  · skip
                    have b59 : (shr (rwf (tbl fr1 t) i) (rwf (tbl fr1 u) j)) = false := bI_0.mp c59
                    refine k_iconst (v := nI 1) C dX7_reckonMinus_62 rfl ?_
                    refine k_goto (tgt := 67) C dX7_reckonMinus_63 (by decide) ?_
                    refine k_istore (lv' := [(5, .int (nI 1)), (6, .int (nI j)), (4, .int (nI i)), (0, .ref m), (1, .int (nI to)), (2, .int (nI t)), (3, .int (nI u))]) C dX7_reckonMinus_67 (by decide) rfl ?_
                    refine k_iinc (v := nI (j + 1)) (lv' := [(6, .int (nI (j + 1))), (5, .int (nI 1)), (4, .int (nI i)), (0, .ref m), (1, .int (nI to)), (2, .int (nI t)), (3, .int (nI u))]) C dX7_reckonMinus_69 (k := 1) rfl (nI_add j 1) (by decide) rfl ?_
                    refine k_goto (tgt := 20) C dX7_reckonMinus_72 (by decide) ?_
                    refine k_lve (lv' := [(6, .int (nI (j + 1))), (5, .int (bI true)), (4, .int (nI i)), (0, .ref m), (1, .int (nI to)), (2, .int (nI t)), (3, .int (nI u))]) rfl ?_
                    exact ih20 (j + 1) true (by omega)  (by omega) (by rw [← any_f (p := fun y => agr (rowAt A i) y && shr (rowAt A i) y) (by omega) hsb, b33]; first | (rw [← agr_c (hA1.at (by omega)) (hB1.at (by omega)), b46]; rfl) | (rw [← shr_c (hA1.at (by omega)) (hB1.at (by omega)), b59]; simp))
        refine k_lve (lv' := [(6, .int (nI 0)), (5, .int (bI true)), (4, .int (nI i)), (0, .ref m), (1, .int (nI to)), (2, .int (nI t)), (3, .int (nI u))]) rfl ?_
        exact L20 _ 0 true (Nat.lt_succ_self _)  (by omega) rfl
  refine k_view (V1 := gv_up V wr (.inl (cI, 57600, .inl fr))) (gv_id h_wr).symm ?_
  have ne13 : nq wc wr := gv_ne h_wr h_wc (by simp)
  refine k_view (V1 := gv_up (gv_up V wr (.inl (cI, 57600, .inl fr))) wc (.inl (cI, 120, .inl fc))) (gv_id ((gv_up_n ne13).trans h_wc)).symm ?_
  have ne14 : nq wn wr := gv_ne h_wr h_wn (by simp)
  have ne15 : nq wn wc := gv_ne h_wc h_wn (by simp)
  refine k_view (V1 := gv_up (gv_up (gv_up V wr (.inl (cI, 57600, .inl fr))) wc (.inl (cI, 120, .inl fc))) wn (.inl (cI, 6, .inl fw))) (gv_id ((gv_up_n ne15).trans ((gv_up_n ne14).trans h_wn))).symm ?_
  exact L3 _ 0 fr fc fw (Nat.lt_succ_self _)  (by omega) (MRep.nil hc0) Kp.rf
set_option maxHeartbeats 4000000 in
set_option maxRecDepth 100000 in
theorem c_pairsJ {zl : Launch} {D : va_G} {cI cN cR : ClassId} {base : Nat} {V : gv_V} {m wt wa wv wm wr wc wn ws wk wp nt ne nn sh : Nat} {kn : Int32} {fr fc fw : Nat → Int32} {to t n : Nat} {A : List Row} {u n2 : Nat} {B : List Row}  (h_m : V m = some (.inr (7, [.int (nI nt), .ref wt, .int (nI ne), .ref wa, .ref wv, .int (nI nn), .ref wm, .int kn, .ref wr, .ref wc, .ref wn, .int (nI sh), .ref ws, .ref wk, .ref wp]))) (h_wr : V wr = some (.inl (cI, 57600, .inl fr))) (h_wc : V wc = some (.inl (cI, 120, .inl fc))) (h_wn : V wn = some (.inl (cI, 6, .inl fw))) (hto : to < 120) (hA : Tab A n (tbl fr t)) (hcA : fc t = nI n) (hta : ¬ t = to) (ht : t < 120) (hB : Tab B n2 (tbl fr u)) (hcB : fc u = nI n2) (htu : ¬ u = to) (hu : u < 120) (hc0 : fc to = 0) : ct zl D [(cI, .int), (cN, .object "AlgebraTree$Node"), (cR, .object "AlgebraTree$Rows")] base yX7_reckonPairs cX7_reckonPairs 9 none 4 0 0 [.ref m, .int (nI to), .int (nI t), .int (nI u), .int (nI 0), .int (-1 : Int32)] V (fun zv zV => ∃ fr1 : Nat → Int32, ∃ fc1 : Nat → Int32, ∃ fw1 : Nat → Int32, zv = none ∧ zV = gv_up (gv_up (gv_up V wr (.inl (cI, 57600, .inl fr1))) wc (.inl (cI, 120, .inl fc1))) wn (.inl (cI, 6, .inl fw1)) ∧ (MRep (joinL A B) (fc1 to) (tbl fr1 to)) ∧ (Kp to fc fr fc1 fr1)) := by
  refine ct_of "AlgebraTreeModel" rfl (by decide) (Nat.le_of_ble_eq_true rfl) ?_
  intro zp ze zs zm zargs zbelow zmeth zc C zr zlk znm
  refine k_pc (pc' := 0) (st' := []) rfl rfl ?_
  show K zp zl ze (gv_rm 4 0 0) zs zm zargs zbelow zmeth zc D base 9 (gv_E D [(cI, .int), (cN, .object "AlgebraTree$Node"), (cR, .object "AlgebraTree$Rows")] base zbelow zargs zs 0 0 (fun zv zV => ∃ fr1 : Nat → Int32, ∃ fc1 : Nat → Int32, ∃ fw1 : Nat → Int32, zv = none ∧ zV = gv_up (gv_up (gv_up V wr (.inl (cI, 57600, .inl fr1))) wc (.inl (cI, 120, .inl fc1))) wn (.inl (cI, 6, .inl fw1)) ∧ (MRep (joinL A B) (fc1 to) (tbl fr1 to)) ∧ (Kp to fc fr fc1 fr1))) V 0 0 [(0, .ref m), (1, .int (nI to)), (2, .int (nI t)), (3, .int (nI u)), (4, .int (nI 0)), (5, .int (-1 : Int32))] 0 []
  refine k_iconst (v := nI 0) C dX7_reckonPairs_0 rfl ?_
  refine k_istore (lv' := [(6, .int (nI 0)), (0, .ref m), (1, .int (nI to)), (2, .int (nI t)), (3, .int (nI u)), (4, .int (nI 0)), (5, .int (-1 : Int32))]) C dX7_reckonPairs_1 (by decide) rfl ?_
  have L3 : ∀ (zn1 : Nat) (i : Nat) (fr1 : Nat → Int32) (fc1 : Nat → Int32) (fw1 : Nat → Int32), n - i < zn1 → (i ≤ n) → (MRep (joinL (A.take i) B) (fc1 to) (tbl fr1 to)) → (Kp to fc fr fc1 fr1) → K zp zl ze (gv_rm 4 0 0) zs zm zargs zbelow zmeth zc D base 9 (gv_E D [(cI, .int), (cN, .object "AlgebraTree$Node"), (cR, .object "AlgebraTree$Rows")] base zbelow zargs zs 0 0 (fun zv zV => ∃ fr1 : Nat → Int32, ∃ fc1 : Nat → Int32, ∃ fw1 : Nat → Int32, zv = none ∧ zV = gv_up (gv_up (gv_up V wr (.inl (cI, 57600, .inl fr1))) wc (.inl (cI, 120, .inl fc1))) wn (.inl (cI, 6, .inl fw1)) ∧ (MRep (joinL A B) (fc1 to) (tbl fr1 to)) ∧ (Kp to fc fr fc1 fr1))) (gv_up (gv_up (gv_up V wr (.inl (cI, 57600, .inl fr1))) wc (.inl (cI, 120, .inl fc1))) wn (.inl (cI, 6, .inl fw1))) 0 0 [(6, .int (nI i)), (0, .ref m), (1, .int (nI to)), (2, .int (nI t)), (3, .int (nI u)), (4, .int (nI 0)), (5, .int (-1 : Int32))] 3 [] := by
    intro zn1
    induction zn1 with
    | zero => intro i fr1 fc1 fw1 hlt; exact absurd hlt (Nat.not_lt_zero _)
    | succ zn1 ih3 =>
      intro i fr1 fc1 fw1 hlt3  hi hR hK
      have hA2 := hA.2.1
      have hA3 := hA.1
      have hA1 := hA.kp hK hta
      have hc1 : fc1 t = nI n := (hK t hta).1.trans hcA
      have hB2 := hB.2.1
      have hB3 := hB.1
      have hB1 := hB.kp hK htu
      have hc2 : fc1 u = nI n2 := (hK u htu).1.trans hcB
      refine k_iload C dX7_reckonPairs_3 0 rfl ?_
      refine k_aload_n C dX7_reckonPairs_5 rfl 1 rfl ?_
      have ne2 : nq m wr := gv_ne h_wr h_m (by simp)
      have ne3 : nq m wc := gv_ne h_wc h_m (by simp)
      have ne4 : nq m wn := gv_ne h_wn h_m (by simp)
      refine k_get (ci := 7) (k := 9) C fl_7_26 ((gv_up_n ne4).trans ((gv_up_n ne3).trans ((gv_up_n ne2).trans h_m))) rfl dX7_reckonPairs_6 ?_
      refine k_iload_n C dX7_reckonPairs_9 rfl 3 rfl ?_
      have ne5 : nq wc wn := gv_ne h_wn h_wc (by simp)
      refine k_iald (v := fc1 t) C 0 ((gv_up_n ne5).trans gv_up_s) rfl (vp_in_nI (by omega) (by omega)) (by rw [nI_clamp (by omega)]) dX7_reckonPairs_10 ?_
      refine k_val (y := nI n) hc1 ?_
      refine k_icmp_ge (tgt := 111) C dX7_reckonPairs_11 (by decide) (fun c11 => ?_) (fun c11 => ?_)
      · skip
        have b11 : n ≤ i := (nI_leI (a := n) (b := i) (by omega) (by omega)).mp c11
        exact k_vret C zr zlk ⟨fr1, fc1, fw1, rfl, rfl, (by rw [take_all (M := A) hA3 (by omega)] at hR; exact hR), hK⟩ (Nat.le_refl _) (Nat.le_refl _) dX7_reckonPairs_111
      · skip
        have b11 : ¬ n ≤ i := fun z => c11 ((nI_leI (a := n) (b := i) (by omega) (by omega)).mpr z)
        refine k_iconst (v := nI 0) C dX7_reckonPairs_14 rfl ?_
        refine k_istore (lv' := [(7, .int (nI 0)), (6, .int (nI i)), (0, .ref m), (1, .int (nI to)), (2, .int (nI t)), (3, .int (nI u)), (4, .int (nI 0)), (5, .int (-1 : Int32))]) C dX7_reckonPairs_15 (by decide) rfl ?_
        refine k_iconst (v := nI 0) C dX7_reckonPairs_17 rfl ?_
        refine k_istore (lv' := [(8, .int (nI 0)), (7, .int (nI 0)), (6, .int (nI i)), (0, .ref m), (1, .int (nI to)), (2, .int (nI t)), (3, .int (nI u)), (4, .int (nI 0)), (5, .int (-1 : Int32))]) C dX7_reckonPairs_18 (by decide) rfl ?_
        have L20 : ∀ (zn6 : Nat) (j : Nat) (sm : Bool) (fr1 : Nat → Int32) (fc1 : Nat → Int32) (fw1 : Nat → Int32), n2 - j < zn6 → (j ≤ n2) → (sm = !(left1 (fun _ => true) (rowAt A i) (B.take j)).isEmpty) → (MRep (joinL (A.take i) B ++ left1 (fun _ => true) (rowAt A i) (B.take j)) (fc1 to) (tbl fr1 to)) → (Kp to fc fr fc1 fr1) → K zp zl ze (gv_rm 4 0 0) zs zm zargs zbelow zmeth zc D base 9 (gv_E D [(cI, .int), (cN, .object "AlgebraTree$Node"), (cR, .object "AlgebraTree$Rows")] base zbelow zargs zs 0 0 (fun zv zV => ∃ fr1 : Nat → Int32, ∃ fc1 : Nat → Int32, ∃ fw1 : Nat → Int32, zv = none ∧ zV = gv_up (gv_up (gv_up V wr (.inl (cI, 57600, .inl fr1))) wc (.inl (cI, 120, .inl fc1))) wn (.inl (cI, 6, .inl fw1)) ∧ (MRep (joinL A B) (fc1 to) (tbl fr1 to)) ∧ (Kp to fc fr fc1 fr1))) (gv_up (gv_up (gv_up V wr (.inl (cI, 57600, .inl fr1))) wc (.inl (cI, 120, .inl fc1))) wn (.inl (cI, 6, .inl fw1))) 0 0 [(8, .int (nI j)), (7, .int (bI sm)), (6, .int (nI i)), (0, .ref m), (1, .int (nI to)), (2, .int (nI t)), (3, .int (nI u)), (4, .int (nI 0)), (5, .int (-1 : Int32))] 20 [] := by
          intro zn6
          induction zn6 with
          | zero => intro j sm fr1 fc1 fw1 hlt; exact absurd hlt (Nat.not_lt_zero _)
          | succ zn6 ih20 =>
            intro j sm fr1 fc1 fw1 hlt20  hj hsm hR hK
            have hA2 := hA.2.1
            have hA3 := hA.1
            have hA1 := hA.kp hK hta
            have hc1 : fc1 t = nI n := (hK t hta).1.trans hcA
            have hB2 := hB.2.1
            have hB3 := hB.1
            have hB1 := hB.kp hK htu
            have hc2 : fc1 u = nI n2 := (hK u htu).1.trans hcB
            refine k_iload C dX7_reckonPairs_20 0 rfl ?_
            refine k_aload_n C dX7_reckonPairs_22 rfl 3 rfl ?_
            refine k_get (ci := 7) (k := 9) C fl_7_26 ((gv_up_n ne4).trans ((gv_up_n ne3).trans ((gv_up_n ne2).trans h_m))) rfl dX7_reckonPairs_23 ?_
            refine k_iload_n C dX7_reckonPairs_26 rfl 6 rfl ?_
            refine k_iald (v := fc1 u) C 0 ((gv_up_n ne5).trans gv_up_s) rfl (vp_in_nI (by omega) (by omega)) (by rw [nI_clamp (by omega)]) dX7_reckonPairs_27 ?_
            refine k_val (y := nI n2) hc2 ?_
            refine k_icmp_ge (tgt := 83) C dX7_reckonPairs_28 (by decide) (fun c28 => ?_) (fun c28 => ?_)
            · skip
              have b28 : n2 ≤ j := (nI_leI (a := n2) (b := j) (by omega) (by omega)).mp c28
              refine k_iload C dX7_reckonPairs_83 7 rfl ?_
              refine k_if_eq (tgt := 105) C dX7_reckonPairs_85 (by decide) (fun c85 => ?_) (fun c85 => ?_)
              · skip
                have b85 : 0 = 0 := (nI_eq (a := 0) (b := 0) (by omega) (by omega)).mp c85
                refine k_iinc (v := nI (i + 1)) (lv' := [(6, .int (nI (i + 1))), (8, .int (nI j)), (7, .int (bI sm)), (0, .ref m), (1, .int (nI to)), (2, .int (nI t)), (3, .int (nI u)), (4, .int (nI 0)), (5, .int (-1 : Int32))]) C dX7_reckonPairs_105 (k := 2) rfl (nI_add i 1) (by decide) rfl ?_
                refine k_goto (tgt := 3) C dX7_reckonPairs_108 (by decide) ?_
                refine k_sub [0, 3, 4, 5, 6, 7, 8] (lv' := [(6, .int (nI (i + 1))), (0, .ref m), (1, .int (nI to)), (2, .int (nI t)), (3, .int (nI u)), (4, .int (nI 0)), (5, .int (-1 : Int32))]) rfl ?_
                exact ih3 (i + 1) fr1 fc1 fw1 (by omega)  (by omega) (by rw [joinL_s (by omega), ← left1_t, ← take_all (M := B) hB3 (show n2 ≤ j by omega)]; exact (by rw [take_all (M := B) hB3 (show n2 ≤ j by omega)] at hR ⊢; exact hR)) hK
              · exact absurd c85 (by decide)
            · skip
              have b28 : ¬ n2 ≤ j := fun z => c28 ((nI_leI (a := n2) (b := j) (by omega) (by omega)).mpr z)
              refine k_aload_n C dX7_reckonPairs_31 rfl 3 rfl ?_
              refine k_iload_n C dX7_reckonPairs_32 rfl 5 rfl ?_
              refine k_iload C dX7_reckonPairs_33 2 rfl ?_
              refine k_iload_n C dX7_reckonPairs_35 rfl 6 rfl ?_
              refine k_iload C dX7_reckonPairs_36 0 rfl ?_
              have ne7 : nq wr wc := gv_ne h_wc h_wr (by simp)
              have ne8 : nq wr wn := gv_ne h_wn h_wr (by simp)
              refine k_callV_pi C mv_7_116 (c_X7_agree  ((gv_up_n ne4).trans ((gv_up_n ne3).trans ((gv_up_n ne2).trans h_m))) ((gv_up_n ne8).trans ((gv_up_n ne7).trans gv_up_s)) (by first | assumption | omega) (by omega) (by first | assumption | omega) (by omega)) ((gv_up_n ne4).trans ((gv_up_n ne3).trans ((gv_up_n ne2).trans h_m))) rfl rfl (by simp [Value.category]) ⟨Nat.le_of_ble_eq_true rfl, Nat.le_of_ble_eq_true rfl⟩ ⟨(by decide), (by decide)⟩ dX7_reckonPairs_38 ?_
              refine k_if_eq (tgt := 77) C dX7_reckonPairs_41 (by decide) (fun c41 => ?_) (fun c41 => ?_)
              · skip
                have b41 : (agr (rwf (tbl fr1 t) i) (rwf (tbl fr1 u) j)) = false := bI_0.mp c41
                have hcn : (agr (rowAt A i) (rowAt B j) && (fun _ => true) (tog (rowAt A i) (rowAt B j))) = false := by rw [← agr_c (hA1.at (by omega)) (hB1.at (by omega)), b41]; rfl
                refine k_iinc (v := nI (j + 1)) (lv' := [(8, .int (nI (j + 1))), (7, .int (bI sm)), (6, .int (nI i)), (0, .ref m), (1, .int (nI to)), (2, .int (nI t)), (3, .int (nI u)), (4, .int (nI 0)), (5, .int (-1 : Int32))]) C dX7_reckonPairs_77 (k := 0) rfl (nI_add j 1) (by decide) rfl ?_
                refine k_goto (tgt := 20) C dX7_reckonPairs_80 (by decide) ?_
                exact ih20 (j + 1) sm fr1 fc1 fw1 (by omega)  (by omega) (by rw [left1_s (by omega), if_neg (by rw [hcn]; decide), List.append_nil]; exact hsm) (by rw [left1_s (by omega), if_neg (by rw [hcn]; decide), List.append_nil]; exact hR) hK
              · skip
                have b41 : (agr (rwf (tbl fr1 t) i) (rwf (tbl fr1 u) j)) = true := bI_n.mp c41
                refine k_aload_n C dX7_reckonPairs_44 rfl 3 rfl ?_
                refine k_iload_n C dX7_reckonPairs_45 rfl 5 rfl ?_
                refine k_iload C dX7_reckonPairs_46 2 rfl ?_
                refine k_iload_n C dX7_reckonPairs_48 rfl 6 rfl ?_
                refine k_iload C dX7_reckonPairs_49 0 rfl ?_
                refine k_callV C mv_7_120 (c_X7_together  ((gv_up_n ne4).trans ((gv_up_n ne3).trans ((gv_up_n ne2).trans h_m))) ((gv_up_n ne8).trans ((gv_up_n ne7).trans gv_up_s)) gv_up_s (by first | assumption | omega) (by omega) (by first | assumption | omega) (by omega)) ((gv_up_n ne4).trans ((gv_up_n ne3).trans ((gv_up_n ne2).trans h_m))) rfl rfl (by simp [Value.category]) ⟨Nat.le_of_ble_eq_true rfl, Nat.le_of_ble_eq_true rfl⟩ ⟨(by decide), (by decide)⟩ dX7_reckonPairs_51 (fun zv zV zh => ?_)
                obtain ⟨fw1_w9, rfl, rfl, hw1_w9⟩ := zh
                refine k_pc (pc' := 54) (st' := []) rfl rfl ?_
                refine k_view (V1 := gv_up (gv_up (gv_up V wr (.inl (cI, 57600, .inl fr1))) wc (.inl (cI, 120, .inl fc1))) wn (.inl (cI, 6, .inl fw1_w9))) gv_uu ?_
                have hwt := hw1_w9
                refine k_iload C dX7_reckonPairs_54 8 rfl ?_
                refine k_iconst (v := (-1 : Int32)) C dX7_reckonPairs_56 (by decide) ?_
                refine k_icmp_eq (tgt := 69) C dX7_reckonPairs_57 (by decide) (fun c57 => ?_) (fun c57 => ?_)
                · skip
                  refine k_aload_n C dX7_reckonPairs_69 rfl 3 rfl ?_
                  refine k_iload_n C dX7_reckonPairs_70 rfl 4 rfl ?_
                  have hco : (agr (rowAt A i) (rowAt B j) && (fun _ => true) (tog (rowAt A i) (rowAt B j))) = true := by rw [← agr_c (hA1.at (by omega)) (hB1.at (by omega)), b41, show (fun _ => true) (tog (rowAt A i) (rowAt B j)) = true from rfl]; rfl
                  refine k_callV C mv_7_112 (c_X7_add  ((gv_up_n ne4).trans ((gv_up_n ne3).trans ((gv_up_n ne2).trans h_m))) ((gv_up_n ne8).trans ((gv_up_n ne7).trans gv_up_s)) ((gv_up_n ne5).trans gv_up_s) gv_up_s (by first | assumption | omega) hR (hwt.tr (tog_c (hA1.at (by omega)) (hB1.at (by omega))))) ((gv_up_n ne4).trans ((gv_up_n ne3).trans ((gv_up_n ne2).trans h_m))) rfl rfl (by simp [Value.category]) ⟨Nat.le_of_ble_eq_true rfl, Nat.le_of_ble_eq_true rfl⟩ ⟨(by decide), (by decide)⟩ dX7_reckonPairs_71 (fun zv zV zh => ?_)
                  obtain ⟨fc1_w10, fr1_w10, rfl, rfl, hR1_w10, hk1_w10⟩ := zh
                  refine k_pc (pc' := 74) (st' := []) rfl rfl ?_
                  refine k_view (V1 := gv_up (gv_up (gv_up (gv_up V wr (.inl (cI, 57600, .inl fr1_w10))) wc (.inl (cI, 120, .inl fc1))) wn (.inl (cI, 6, .inl fw1_w9))) wc (.inl (cI, 120, .inl fc1_w10))) (congrArg (fun W => gv_up W wc (.inl (cI, 120, .inl fc1_w10))) ((gv_uc ne8).trans (congrArg (fun W => gv_up W wn (.inl (cI, 6, .inl fw1_w9))) ((gv_uc ne7).trans (congrArg (fun W => gv_up W wc (.inl (cI, 120, .inl fc1))) gv_uu))))) ?_
                  refine k_view (V1 := gv_up (gv_up (gv_up V wr (.inl (cI, 57600, .inl fr1_w10))) wc (.inl (cI, 120, .inl fc1_w10))) wn (.inl (cI, 6, .inl fw1_w9))) ((gv_uc ne5).trans (congrArg (fun W => gv_up W wn (.inl (cI, 6, .inl fw1_w9))) gv_uu)) ?_
                  refine k_iconst (v := nI 1) C dX7_reckonPairs_74 rfl ?_
                  refine k_istore (lv' := [(7, .int (nI 1)), (8, .int (nI j)), (6, .int (nI i)), (0, .ref m), (1, .int (nI to)), (2, .int (nI t)), (3, .int (nI u)), (4, .int (nI 0)), (5, .int (-1 : Int32))]) C dX7_reckonPairs_75 (by decide) rfl ?_
                  refine k_iinc (v := nI (j + 1)) (lv' := [(8, .int (nI (j + 1))), (7, .int (nI 1)), (6, .int (nI i)), (0, .ref m), (1, .int (nI to)), (2, .int (nI t)), (3, .int (nI u)), (4, .int (nI 0)), (5, .int (-1 : Int32))]) C dX7_reckonPairs_77 (k := 1) rfl (nI_add j 1) (by decide) rfl ?_
                  refine k_goto (tgt := 20) C dX7_reckonPairs_80 (by decide) ?_
                  refine k_lve (lv' := [(8, .int (nI (j + 1))), (7, .int (bI true)), (6, .int (nI i)), (0, .ref m), (1, .int (nI to)), (2, .int (nI t)), (3, .int (nI u)), (4, .int (nI 0)), (5, .int (-1 : Int32))]) rfl ?_
                  exact ih20 (j + 1) true fr1_w10 fc1_w10 fw1_w9 (by omega)  (by omega) (by rw [left1_s (by omega), if_pos hco, emp_app]) (by rw [left1_s (by omega), if_pos hco, ← List.append_assoc]; exact hR1_w10) (hK.tr hk1_w10)
                · skip
                  exact absurd rfl c57
        refine k_lve (lv' := [(8, .int (nI 0)), (7, .int (bI false)), (6, .int (nI i)), (0, .ref m), (1, .int (nI to)), (2, .int (nI t)), (3, .int (nI u)), (4, .int (nI 0)), (5, .int (-1 : Int32))]) rfl ?_
        exact L20 _ 0 false fr1 fc1 fw1 (Nat.lt_succ_self _)  (by omega) (by simp [left1]) (by simpa [left1] using hR) hK
  refine k_view (V1 := gv_up V wr (.inl (cI, 57600, .inl fr))) (gv_id h_wr).symm ?_
  have ne11 : nq wc wr := gv_ne h_wr h_wc (by simp)
  refine k_view (V1 := gv_up (gv_up V wr (.inl (cI, 57600, .inl fr))) wc (.inl (cI, 120, .inl fc))) (gv_id ((gv_up_n ne11).trans h_wc)).symm ?_
  have ne12 : nq wn wr := gv_ne h_wr h_wn (by simp)
  have ne13 : nq wn wc := gv_ne h_wc h_wn (by simp)
  refine k_view (V1 := gv_up (gv_up (gv_up V wr (.inl (cI, 57600, .inl fr))) wc (.inl (cI, 120, .inl fc))) wn (.inl (cI, 6, .inl fw))) (gv_id ((gv_up_n ne13).trans ((gv_up_n ne12).trans h_wn))).symm ?_
  exact L3 _ 0 fr fc fw (Nat.lt_succ_self _)  (by omega) (MRep.nil hc0) Kp.rf
set_option maxHeartbeats 4000000 in
set_option maxRecDepth 100000 in
theorem c_pairsL {zl : Launch} {D : va_G} {cI cN cR : ClassId} {base : Nat} {V : gv_V} {m wt wa wv wm wr wc wn ws wk wp nt ne nn sh : Nat} {kn : Int32} {fr fc fw : Nat → Int32} {to t n : Nat} {A : List Row} {u n2 : Nat} {B : List Row} {E : Nat → Ex}  (h_m : V m = some (.inr (7, [.int (nI nt), .ref wt, .int (nI ne), .ref wa, .ref wv, .int (nI nn), .ref wm, .int kn, .ref wr, .ref wc, .ref wn, .int (nI sh), .ref ws, .ref wk, .ref wp]))) (h_wr : V wr = some (.inl (cI, 57600, .inl fr))) (h_wc : V wc = some (.inl (cI, 120, .inl fc))) (h_wn : V wn = some (.inl (cI, 6, .inl fw))) (hto : to < 120) (hA : Tab A n (tbl fr t)) (hcA : fc t = nI n) (hta : ¬ t = to) (ht : t < 120) (hB : Tab B n2 (tbl fr u)) (hcB : fc u = nI n2) (htu : ¬ u = to) (hu : u < 120) (hc0 : fc to = 0) : ct zl D [(cI, .int), (cN, .object "AlgebraTree$Node"), (cR, .object "AlgebraTree$Rows")] base yX7_reckonPairs cX7_reckonPairs 9 none 4 0 0 [.ref m, .int (nI to), .int (nI t), .int (nI u), .int (nI 1), .int (-1 : Int32)] V (fun zv zV => ∃ fr1 : Nat → Int32, ∃ fc1 : Nat → Int32, ∃ fw1 : Nat → Int32, zv = none ∧ zV = gv_up (gv_up (gv_up V wr (.inl (cI, 57600, .inl fr1))) wc (.inl (cI, 120, .inl fc1))) wn (.inl (cI, 6, .inl fw1)) ∧ (MRep (leftL (lcnd E (-1)) A B) (fc1 to) (tbl fr1 to)) ∧ (Kp to fc fr fc1 fr1)) := by
  refine ct_of "AlgebraTreeModel" rfl (by decide) (Nat.le_of_ble_eq_true rfl) ?_
  intro zp ze zs zm zargs zbelow zmeth zc C zr zlk znm
  refine k_pc (pc' := 0) (st' := []) rfl rfl ?_
  show K zp zl ze (gv_rm 4 0 0) zs zm zargs zbelow zmeth zc D base 9 (gv_E D [(cI, .int), (cN, .object "AlgebraTree$Node"), (cR, .object "AlgebraTree$Rows")] base zbelow zargs zs 0 0 (fun zv zV => ∃ fr1 : Nat → Int32, ∃ fc1 : Nat → Int32, ∃ fw1 : Nat → Int32, zv = none ∧ zV = gv_up (gv_up (gv_up V wr (.inl (cI, 57600, .inl fr1))) wc (.inl (cI, 120, .inl fc1))) wn (.inl (cI, 6, .inl fw1)) ∧ (MRep (leftL (lcnd E (-1)) A B) (fc1 to) (tbl fr1 to)) ∧ (Kp to fc fr fc1 fr1))) V 0 0 [(0, .ref m), (1, .int (nI to)), (2, .int (nI t)), (3, .int (nI u)), (4, .int (nI 1)), (5, .int (-1 : Int32))] 0 []
  refine k_iconst (v := nI 0) C dX7_reckonPairs_0 rfl ?_
  refine k_istore (lv' := [(6, .int (nI 0)), (0, .ref m), (1, .int (nI to)), (2, .int (nI t)), (3, .int (nI u)), (4, .int (nI 1)), (5, .int (-1 : Int32))]) C dX7_reckonPairs_1 (by decide) rfl ?_
  have L3 : ∀ (zn1 : Nat) (i : Nat) (fr1 : Nat → Int32) (fc1 : Nat → Int32) (fw1 : Nat → Int32), n - i < zn1 → (i ≤ n) → (MRep (leftL (lcnd E (-1)) (A.take i) B) (fc1 to) (tbl fr1 to)) → (Kp to fc fr fc1 fr1) → K zp zl ze (gv_rm 4 0 0) zs zm zargs zbelow zmeth zc D base 9 (gv_E D [(cI, .int), (cN, .object "AlgebraTree$Node"), (cR, .object "AlgebraTree$Rows")] base zbelow zargs zs 0 0 (fun zv zV => ∃ fr1 : Nat → Int32, ∃ fc1 : Nat → Int32, ∃ fw1 : Nat → Int32, zv = none ∧ zV = gv_up (gv_up (gv_up V wr (.inl (cI, 57600, .inl fr1))) wc (.inl (cI, 120, .inl fc1))) wn (.inl (cI, 6, .inl fw1)) ∧ (MRep (leftL (lcnd E (-1)) A B) (fc1 to) (tbl fr1 to)) ∧ (Kp to fc fr fc1 fr1))) (gv_up (gv_up (gv_up V wr (.inl (cI, 57600, .inl fr1))) wc (.inl (cI, 120, .inl fc1))) wn (.inl (cI, 6, .inl fw1))) 0 0 [(6, .int (nI i)), (0, .ref m), (1, .int (nI to)), (2, .int (nI t)), (3, .int (nI u)), (4, .int (nI 1)), (5, .int (-1 : Int32))] 3 [] := by
    intro zn1
    induction zn1 with
    | zero => intro i fr1 fc1 fw1 hlt; exact absurd hlt (Nat.not_lt_zero _)
    | succ zn1 ih3 =>
      intro i fr1 fc1 fw1 hlt3  hi hR hK
      have hA2 := hA.2.1
      have hA3 := hA.1
      have hA1 := hA.kp hK hta
      have hc1 : fc1 t = nI n := (hK t hta).1.trans hcA
      have hB2 := hB.2.1
      have hB3 := hB.1
      have hB1 := hB.kp hK htu
      have hc2 : fc1 u = nI n2 := (hK u htu).1.trans hcB
      refine k_iload C dX7_reckonPairs_3 0 rfl ?_
      refine k_aload_n C dX7_reckonPairs_5 rfl 1 rfl ?_
      have ne2 : nq m wr := gv_ne h_wr h_m (by simp)
      have ne3 : nq m wc := gv_ne h_wc h_m (by simp)
      have ne4 : nq m wn := gv_ne h_wn h_m (by simp)
      refine k_get (ci := 7) (k := 9) C fl_7_26 ((gv_up_n ne4).trans ((gv_up_n ne3).trans ((gv_up_n ne2).trans h_m))) rfl dX7_reckonPairs_6 ?_
      refine k_iload_n C dX7_reckonPairs_9 rfl 3 rfl ?_
      have ne5 : nq wc wn := gv_ne h_wn h_wc (by simp)
      refine k_iald (v := fc1 t) C 0 ((gv_up_n ne5).trans gv_up_s) rfl (vp_in_nI (by omega) (by omega)) (by rw [nI_clamp (by omega)]) dX7_reckonPairs_10 ?_
      refine k_val (y := nI n) hc1 ?_
      refine k_icmp_ge (tgt := 111) C dX7_reckonPairs_11 (by decide) (fun c11 => ?_) (fun c11 => ?_)
      · skip
        have b11 : n ≤ i := (nI_leI (a := n) (b := i) (by omega) (by omega)).mp c11
        exact k_vret C zr zlk ⟨fr1, fc1, fw1, rfl, rfl, (by rw [take_all (M := A) hA3 (by omega)] at hR; exact hR), hK⟩ (Nat.le_refl _) (Nat.le_refl _) dX7_reckonPairs_111
      · skip
        have b11 : ¬ n ≤ i := fun z => c11 ((nI_leI (a := n) (b := i) (by omega) (by omega)).mpr z)
        refine k_iconst (v := nI 0) C dX7_reckonPairs_14 rfl ?_
        refine k_istore (lv' := [(7, .int (nI 0)), (6, .int (nI i)), (0, .ref m), (1, .int (nI to)), (2, .int (nI t)), (3, .int (nI u)), (4, .int (nI 1)), (5, .int (-1 : Int32))]) C dX7_reckonPairs_15 (by decide) rfl ?_
        refine k_iconst (v := nI 0) C dX7_reckonPairs_17 rfl ?_
        refine k_istore (lv' := [(8, .int (nI 0)), (7, .int (nI 0)), (6, .int (nI i)), (0, .ref m), (1, .int (nI to)), (2, .int (nI t)), (3, .int (nI u)), (4, .int (nI 1)), (5, .int (-1 : Int32))]) C dX7_reckonPairs_18 (by decide) rfl ?_
        have L20 : ∀ (zn6 : Nat) (j : Nat) (sm : Bool) (fr1 : Nat → Int32) (fc1 : Nat → Int32) (fw1 : Nat → Int32), n2 - j < zn6 → (j ≤ n2) → (sm = !(left1 (lcnd E (-1)) (rowAt A i) (B.take j)).isEmpty) → (MRep (leftL (lcnd E (-1)) (A.take i) B ++ left1 (lcnd E (-1)) (rowAt A i) (B.take j)) (fc1 to) (tbl fr1 to)) → (Kp to fc fr fc1 fr1) → K zp zl ze (gv_rm 4 0 0) zs zm zargs zbelow zmeth zc D base 9 (gv_E D [(cI, .int), (cN, .object "AlgebraTree$Node"), (cR, .object "AlgebraTree$Rows")] base zbelow zargs zs 0 0 (fun zv zV => ∃ fr1 : Nat → Int32, ∃ fc1 : Nat → Int32, ∃ fw1 : Nat → Int32, zv = none ∧ zV = gv_up (gv_up (gv_up V wr (.inl (cI, 57600, .inl fr1))) wc (.inl (cI, 120, .inl fc1))) wn (.inl (cI, 6, .inl fw1)) ∧ (MRep (leftL (lcnd E (-1)) A B) (fc1 to) (tbl fr1 to)) ∧ (Kp to fc fr fc1 fr1))) (gv_up (gv_up (gv_up V wr (.inl (cI, 57600, .inl fr1))) wc (.inl (cI, 120, .inl fc1))) wn (.inl (cI, 6, .inl fw1))) 0 0 [(8, .int (nI j)), (7, .int (bI sm)), (6, .int (nI i)), (0, .ref m), (1, .int (nI to)), (2, .int (nI t)), (3, .int (nI u)), (4, .int (nI 1)), (5, .int (-1 : Int32))] 20 [] := by
          intro zn6
          induction zn6 with
          | zero => intro j sm fr1 fc1 fw1 hlt; exact absurd hlt (Nat.not_lt_zero _)
          | succ zn6 ih20 =>
            intro j sm fr1 fc1 fw1 hlt20  hj hsm hR hK
            have hA2 := hA.2.1
            have hA3 := hA.1
            have hA1 := hA.kp hK hta
            have hc1 : fc1 t = nI n := (hK t hta).1.trans hcA
            have hB2 := hB.2.1
            have hB3 := hB.1
            have hB1 := hB.kp hK htu
            have hc2 : fc1 u = nI n2 := (hK u htu).1.trans hcB
            refine k_iload C dX7_reckonPairs_20 0 rfl ?_
            refine k_aload_n C dX7_reckonPairs_22 rfl 3 rfl ?_
            refine k_get (ci := 7) (k := 9) C fl_7_26 ((gv_up_n ne4).trans ((gv_up_n ne3).trans ((gv_up_n ne2).trans h_m))) rfl dX7_reckonPairs_23 ?_
            refine k_iload_n C dX7_reckonPairs_26 rfl 6 rfl ?_
            refine k_iald (v := fc1 u) C 0 ((gv_up_n ne5).trans gv_up_s) rfl (vp_in_nI (by omega) (by omega)) (by rw [nI_clamp (by omega)]) dX7_reckonPairs_27 ?_
            refine k_val (y := nI n2) hc2 ?_
            refine k_icmp_ge (tgt := 83) C dX7_reckonPairs_28 (by decide) (fun c28 => ?_) (fun c28 => ?_)
            · skip
              have b28 : n2 ≤ j := (nI_leI (a := n2) (b := j) (by omega) (by omega)).mp c28
              refine k_iload C dX7_reckonPairs_83 7 rfl ?_
              refine k_if_eq (tgt := 105) C dX7_reckonPairs_85 (by decide) (fun c85 => ?_) (fun c85 => ?_)
              · exact absurd c85 (by decide)
              · skip
                have b85 : ¬ 1 = 0 := fun z => c85 ((nI_eq (a := 1) (b := 0) (by omega) (by omega)).mpr z)
                refine k_iload C dX7_reckonPairs_88 1 rfl ?_
                refine k_if_ne (tgt := 105) C dX7_reckonPairs_90 (by decide) (fun c90 => ?_) (fun c90 => ?_)
                · skip
                  have b90 : sm = true := bI_n.mp c90
                  have hem : (left1 (lcnd E (-1)) (rowAt A i) B).isEmpty = false := by rw [take_all (M := B) hB3 (show n2 ≤ j by omega), b90] at hsm; cases hz : (left1 (lcnd E (-1)) (rowAt A i) B).isEmpty with | false => rfl | true => rw [hz] at hsm; cases hsm
                  refine k_iinc (v := nI (i + 1)) (lv' := [(6, .int (nI (i + 1))), (8, .int (nI j)), (7, .int (bI sm)), (0, .ref m), (1, .int (nI to)), (2, .int (nI t)), (3, .int (nI u)), (4, .int (nI 1)), (5, .int (-1 : Int32))]) C dX7_reckonPairs_105 (k := 2) rfl (nI_add i 1) (by decide) rfl ?_
                  refine k_goto (tgt := 3) C dX7_reckonPairs_108 (by decide) ?_
                  refine k_sub [0, 3, 4, 5, 6, 7, 8] (lv' := [(6, .int (nI (i + 1))), (0, .ref m), (1, .int (nI to)), (2, .int (nI t)), (3, .int (nI u)), (4, .int (nI 1)), (5, .int (-1 : Int32))]) rfl ?_
                  exact ih3 (i + 1) fr1 fc1 fw1 (by omega)  (by omega) (by rw [leftL_s (by omega)]; unfold leftX; rw [if_neg (by rw [hem]; decide)]; rw [take_all (M := B) hB3 (show n2 ≤ j by omega)] at hR; exact hR) hK
                · skip
                  have b90 : sm = false := bI_0.mp c90
                  refine k_aload_n C dX7_reckonPairs_93 rfl 3 rfl ?_
                  refine k_iload_n C dX7_reckonPairs_94 rfl 5 rfl ?_
                  refine k_iload C dX7_reckonPairs_95 2 rfl ?_
                  rw [take_all (M := B) hB3 (show n2 ≤ j by omega)] at hR hsm
                  have hem : (left1 (lcnd E (-1)) (rowAt A i) B).isEmpty = true := by rw [b90] at hsm; cases hz : (left1 (lcnd E (-1)) (rowAt A i) B).isEmpty with | true => rfl | false => rw [hz] at hsm; cases hsm
                  have hR9 : MRep (leftL (lcnd E (-1)) (A.take i) B) (fc1 to) (tbl fr1 to) := by rw [List.isEmpty_iff.mp hem, List.append_nil] at hR; exact hR
                  have ne7 : nq wr wc := gv_ne h_wc h_wr (by simp)
                  have ne8 : nq wr wn := gv_ne h_wn h_wr (by simp)
                  refine k_callV C mv_7_101 (c_X7_take  ((gv_up_n ne4).trans ((gv_up_n ne3).trans ((gv_up_n ne2).trans h_m))) ((gv_up_n ne8).trans ((gv_up_n ne7).trans gv_up_s)) gv_up_s (by first | assumption | omega) (by omega)) ((gv_up_n ne4).trans ((gv_up_n ne3).trans ((gv_up_n ne2).trans h_m))) rfl rfl (by simp [Value.category]) ⟨Nat.le_of_ble_eq_true rfl, Nat.le_of_ble_eq_true rfl⟩ ⟨(by decide), (by decide)⟩ dX7_reckonPairs_97 (fun zv zV zh => ?_)
                  obtain ⟨fw1_w9, rfl, rfl, hw1_w9⟩ := zh
                  refine k_pc (pc' := 100) (st' := []) rfl rfl ?_
                  refine k_view (V1 := gv_up (gv_up (gv_up V wr (.inl (cI, 57600, .inl fr1))) wc (.inl (cI, 120, .inl fc1))) wn (.inl (cI, 6, .inl fw1_w9))) gv_uu ?_
                  refine k_aload_n C dX7_reckonPairs_100 rfl 3 rfl ?_
                  refine k_iload_n C dX7_reckonPairs_101 rfl 4 rfl ?_
                  refine k_callV C mv_7_112 (c_X7_add  ((gv_up_n ne4).trans ((gv_up_n ne3).trans ((gv_up_n ne2).trans h_m))) ((gv_up_n ne8).trans ((gv_up_n ne7).trans gv_up_s)) ((gv_up_n ne5).trans gv_up_s) gv_up_s (by first | assumption | omega) hR9 (hw1_w9.tr (hA1.at (by omega)))) ((gv_up_n ne4).trans ((gv_up_n ne3).trans ((gv_up_n ne2).trans h_m))) rfl rfl (by simp [Value.category]) ⟨Nat.le_of_ble_eq_true rfl, Nat.le_of_ble_eq_true rfl⟩ ⟨(by decide), (by decide)⟩ dX7_reckonPairs_102 (fun zv zV zh => ?_)
                  obtain ⟨fc1_w10, fr1_w10, rfl, rfl, hR1_w10, hk1_w10⟩ := zh
                  refine k_pc (pc' := 105) (st' := []) rfl rfl ?_
                  refine k_view (V1 := gv_up (gv_up (gv_up (gv_up V wr (.inl (cI, 57600, .inl fr1_w10))) wc (.inl (cI, 120, .inl fc1))) wn (.inl (cI, 6, .inl fw1_w9))) wc (.inl (cI, 120, .inl fc1_w10))) (congrArg (fun W => gv_up W wc (.inl (cI, 120, .inl fc1_w10))) ((gv_uc ne8).trans (congrArg (fun W => gv_up W wn (.inl (cI, 6, .inl fw1_w9))) ((gv_uc ne7).trans (congrArg (fun W => gv_up W wc (.inl (cI, 120, .inl fc1))) gv_uu))))) ?_
                  refine k_view (V1 := gv_up (gv_up (gv_up V wr (.inl (cI, 57600, .inl fr1_w10))) wc (.inl (cI, 120, .inl fc1_w10))) wn (.inl (cI, 6, .inl fw1_w9))) ((gv_uc ne5).trans (congrArg (fun W => gv_up W wn (.inl (cI, 6, .inl fw1_w9))) gv_uu)) ?_
                  refine k_iinc (v := nI (i + 1)) (lv' := [(6, .int (nI (i + 1))), (8, .int (nI j)), (7, .int (bI sm)), (0, .ref m), (1, .int (nI to)), (2, .int (nI t)), (3, .int (nI u)), (4, .int (nI 1)), (5, .int (-1 : Int32))]) C dX7_reckonPairs_105 (k := 2) rfl (nI_add i 1) (by decide) rfl ?_
                  refine k_goto (tgt := 3) C dX7_reckonPairs_108 (by decide) ?_
                  refine k_sub [0, 3, 4, 5, 6, 7, 8] (lv' := [(6, .int (nI (i + 1))), (0, .ref m), (1, .int (nI to)), (2, .int (nI t)), (3, .int (nI u)), (4, .int (nI 1)), (5, .int (-1 : Int32))]) rfl ?_
                  exact ih3 (i + 1) fr1_w10 fc1_w10 fw1_w9 (by omega)  (by omega) (by rw [leftL_s (by omega)]; unfold leftX; rw [if_pos hem]; exact hR1_w10) (hK.tr hk1_w10)
            · skip
              have b28 : ¬ n2 ≤ j := fun z => c28 ((nI_leI (a := n2) (b := j) (by omega) (by omega)).mpr z)
              refine k_aload_n C dX7_reckonPairs_31 rfl 3 rfl ?_
              refine k_iload_n C dX7_reckonPairs_32 rfl 5 rfl ?_
              refine k_iload C dX7_reckonPairs_33 2 rfl ?_
              refine k_iload_n C dX7_reckonPairs_35 rfl 6 rfl ?_
              refine k_iload C dX7_reckonPairs_36 0 rfl ?_
              have ne11 : nq wr wc := gv_ne h_wc h_wr (by simp)
              have ne12 : nq wr wn := gv_ne h_wn h_wr (by simp)
              refine k_callV_pi C mv_7_116 (c_X7_agree  ((gv_up_n ne4).trans ((gv_up_n ne3).trans ((gv_up_n ne2).trans h_m))) ((gv_up_n ne12).trans ((gv_up_n ne11).trans gv_up_s)) (by first | assumption | omega) (by omega) (by first | assumption | omega) (by omega)) ((gv_up_n ne4).trans ((gv_up_n ne3).trans ((gv_up_n ne2).trans h_m))) rfl rfl (by simp [Value.category]) ⟨Nat.le_of_ble_eq_true rfl, Nat.le_of_ble_eq_true rfl⟩ ⟨(by decide), (by decide)⟩ dX7_reckonPairs_38 ?_
              refine k_if_eq (tgt := 77) C dX7_reckonPairs_41 (by decide) (fun c41 => ?_) (fun c41 => ?_)
              · skip
                have b41 : (agr (rwf (tbl fr1 t) i) (rwf (tbl fr1 u) j)) = false := bI_0.mp c41
                have hcn : (agr (rowAt A i) (rowAt B j) && (lcnd E (-1)) (tog (rowAt A i) (rowAt B j))) = false := by rw [← agr_c (hA1.at (by omega)) (hB1.at (by omega)), b41]; rfl
                refine k_iinc (v := nI (j + 1)) (lv' := [(8, .int (nI (j + 1))), (7, .int (bI sm)), (6, .int (nI i)), (0, .ref m), (1, .int (nI to)), (2, .int (nI t)), (3, .int (nI u)), (4, .int (nI 1)), (5, .int (-1 : Int32))]) C dX7_reckonPairs_77 (k := 0) rfl (nI_add j 1) (by decide) rfl ?_
                refine k_goto (tgt := 20) C dX7_reckonPairs_80 (by decide) ?_
                exact ih20 (j + 1) sm fr1 fc1 fw1 (by omega)  (by omega) (by rw [left1_s (by omega), if_neg (by rw [hcn]; decide), List.append_nil]; exact hsm) (by rw [left1_s (by omega), if_neg (by rw [hcn]; decide), List.append_nil]; exact hR) hK
              · skip
                have b41 : (agr (rwf (tbl fr1 t) i) (rwf (tbl fr1 u) j)) = true := bI_n.mp c41
                refine k_aload_n C dX7_reckonPairs_44 rfl 3 rfl ?_
                refine k_iload_n C dX7_reckonPairs_45 rfl 5 rfl ?_
                refine k_iload C dX7_reckonPairs_46 2 rfl ?_
                refine k_iload_n C dX7_reckonPairs_48 rfl 6 rfl ?_
                refine k_iload C dX7_reckonPairs_49 0 rfl ?_
                refine k_callV C mv_7_120 (c_X7_together  ((gv_up_n ne4).trans ((gv_up_n ne3).trans ((gv_up_n ne2).trans h_m))) ((gv_up_n ne12).trans ((gv_up_n ne11).trans gv_up_s)) gv_up_s (by first | assumption | omega) (by omega) (by first | assumption | omega) (by omega)) ((gv_up_n ne4).trans ((gv_up_n ne3).trans ((gv_up_n ne2).trans h_m))) rfl rfl (by simp [Value.category]) ⟨Nat.le_of_ble_eq_true rfl, Nat.le_of_ble_eq_true rfl⟩ ⟨(by decide), (by decide)⟩ dX7_reckonPairs_51 (fun zv zV zh => ?_)
                obtain ⟨fw1_w13, rfl, rfl, hw1_w13⟩ := zh
                refine k_pc (pc' := 54) (st' := []) rfl rfl ?_
                refine k_view (V1 := gv_up (gv_up (gv_up V wr (.inl (cI, 57600, .inl fr1))) wc (.inl (cI, 120, .inl fc1))) wn (.inl (cI, 6, .inl fw1_w13))) gv_uu ?_
                have hwt := hw1_w13
                refine k_iload C dX7_reckonPairs_54 8 rfl ?_
                refine k_iconst (v := (-1 : Int32)) C dX7_reckonPairs_56 (by decide) ?_
                refine k_icmp_eq (tgt := 69) C dX7_reckonPairs_57 (by decide) (fun c57 => ?_) (fun c57 => ?_)
                · skip
                  refine k_aload_n C dX7_reckonPairs_69 rfl 3 rfl ?_
                  refine k_iload_n C dX7_reckonPairs_70 rfl 4 rfl ?_
                  have hco : (agr (rowAt A i) (rowAt B j) && (lcnd E (-1)) (tog (rowAt A i) (rowAt B j))) = true := by rw [← agr_c (hA1.at (by omega)) (hB1.at (by omega)), b41, show (lcnd E (-1)) (tog (rowAt A i) (rowAt B j)) = true from (by rw [lcnd_m])]; rfl
                  refine k_callV C mv_7_112 (c_X7_add  ((gv_up_n ne4).trans ((gv_up_n ne3).trans ((gv_up_n ne2).trans h_m))) ((gv_up_n ne12).trans ((gv_up_n ne11).trans gv_up_s)) ((gv_up_n ne5).trans gv_up_s) gv_up_s (by first | assumption | omega) hR (hwt.tr (tog_c (hA1.at (by omega)) (hB1.at (by omega))))) ((gv_up_n ne4).trans ((gv_up_n ne3).trans ((gv_up_n ne2).trans h_m))) rfl rfl (by simp [Value.category]) ⟨Nat.le_of_ble_eq_true rfl, Nat.le_of_ble_eq_true rfl⟩ ⟨(by decide), (by decide)⟩ dX7_reckonPairs_71 (fun zv zV zh => ?_)
                  obtain ⟨fc1_w14, fr1_w14, rfl, rfl, hR1_w14, hk1_w14⟩ := zh
                  refine k_pc (pc' := 74) (st' := []) rfl rfl ?_
                  refine k_view (V1 := gv_up (gv_up (gv_up (gv_up V wr (.inl (cI, 57600, .inl fr1_w14))) wc (.inl (cI, 120, .inl fc1))) wn (.inl (cI, 6, .inl fw1_w13))) wc (.inl (cI, 120, .inl fc1_w14))) (congrArg (fun W => gv_up W wc (.inl (cI, 120, .inl fc1_w14))) ((gv_uc ne12).trans (congrArg (fun W => gv_up W wn (.inl (cI, 6, .inl fw1_w13))) ((gv_uc ne11).trans (congrArg (fun W => gv_up W wc (.inl (cI, 120, .inl fc1))) gv_uu))))) ?_
                  refine k_view (V1 := gv_up (gv_up (gv_up V wr (.inl (cI, 57600, .inl fr1_w14))) wc (.inl (cI, 120, .inl fc1_w14))) wn (.inl (cI, 6, .inl fw1_w13))) ((gv_uc ne5).trans (congrArg (fun W => gv_up W wn (.inl (cI, 6, .inl fw1_w13))) gv_uu)) ?_
                  refine k_iconst (v := nI 1) C dX7_reckonPairs_74 rfl ?_
                  refine k_istore (lv' := [(7, .int (nI 1)), (8, .int (nI j)), (6, .int (nI i)), (0, .ref m), (1, .int (nI to)), (2, .int (nI t)), (3, .int (nI u)), (4, .int (nI 1)), (5, .int (-1 : Int32))]) C dX7_reckonPairs_75 (by decide) rfl ?_
                  refine k_iinc (v := nI (j + 1)) (lv' := [(8, .int (nI (j + 1))), (7, .int (nI 1)), (6, .int (nI i)), (0, .ref m), (1, .int (nI to)), (2, .int (nI t)), (3, .int (nI u)), (4, .int (nI 1)), (5, .int (-1 : Int32))]) C dX7_reckonPairs_77 (k := 1) rfl (nI_add j 1) (by decide) rfl ?_
                  refine k_goto (tgt := 20) C dX7_reckonPairs_80 (by decide) ?_
                  refine k_lve (lv' := [(8, .int (nI (j + 1))), (7, .int (bI true)), (6, .int (nI i)), (0, .ref m), (1, .int (nI to)), (2, .int (nI t)), (3, .int (nI u)), (4, .int (nI 1)), (5, .int (-1 : Int32))]) rfl ?_
                  exact ih20 (j + 1) true fr1_w14 fc1_w14 fw1_w13 (by omega)  (by omega) (by rw [left1_s (by omega), if_pos hco, emp_app]) (by rw [left1_s (by omega), if_pos hco, ← List.append_assoc]; exact hR1_w14) (hK.tr hk1_w14)
                · skip
                  exact absurd rfl c57
        refine k_lve (lv' := [(8, .int (nI 0)), (7, .int (bI false)), (6, .int (nI i)), (0, .ref m), (1, .int (nI to)), (2, .int (nI t)), (3, .int (nI u)), (4, .int (nI 1)), (5, .int (-1 : Int32))]) rfl ?_
        exact L20 _ 0 false fr1 fc1 fw1 (Nat.lt_succ_self _)  (by omega) (by simp [left1]) (by simpa [left1] using hR) hK
  refine k_view (V1 := gv_up V wr (.inl (cI, 57600, .inl fr))) (gv_id h_wr).symm ?_
  have ne15 : nq wc wr := gv_ne h_wr h_wc (by simp)
  refine k_view (V1 := gv_up (gv_up V wr (.inl (cI, 57600, .inl fr))) wc (.inl (cI, 120, .inl fc))) (gv_id ((gv_up_n ne15).trans h_wc)).symm ?_
  have ne16 : nq wn wr := gv_ne h_wr h_wn (by simp)
  have ne17 : nq wn wc := gv_ne h_wc h_wn (by simp)
  refine k_view (V1 := gv_up (gv_up (gv_up V wr (.inl (cI, 57600, .inl fr))) wc (.inl (cI, 120, .inl fc))) wn (.inl (cI, 6, .inl fw))) (gv_id ((gv_up_n ne17).trans ((gv_up_n ne16).trans h_wn))).symm ?_
  exact L3 _ 0 fr fc fw (Nat.lt_succ_self _)  (by omega) (MRep.nil hc0) Kp.rf
set_option maxHeartbeats 4000000 in
set_option maxRecDepth 100000 in
theorem c_pairsE {zl : Launch} {D : va_G} {cI cN cR : ClassId} {base : Nat} {V : gv_V} {m wt wa wv wm wr wc wn ws wk wp nt ne nn sh : Nat} {kn : Int32} {fa fv fr fc fw : Nat → Int32} {to t n : Nat} {A : List Row} {u n2 : Nat} {B : List Row} {E : Nat → Ex} {e : Nat}  (h_m : V m = some (.inr (7, [.int (nI nt), .ref wt, .int (nI ne), .ref wa, .ref wv, .int (nI nn), .ref wm, .int kn, .ref wr, .ref wc, .ref wn, .int (nI sh), .ref ws, .ref wk, .ref wp]))) (h_wr : V wr = some (.inl (cI, 57600, .inl fr))) (h_wc : V wc = some (.inl (cI, 120, .inl fc))) (h_wn : V wn = some (.inl (cI, 6, .inl fw))) (h_wv : V wv = some (.inl (cI, 30, .inl fv))) (h_wa : V wa = some (.inl (cI, 90, .inl fa))) (hto : to < 120) (hA : Tab A n (tbl fr t)) (hcA : fc t = nI n) (hta : ¬ t = to) (ht : t < 120) (hB : Tab B n2 (tbl fr u)) (hcB : fc u = nI n2) (htu : ¬ u = to) (hu : u < 120) (hc0 : fc to = 0) (hM : MA E ne fa) (he : e < ne) : ct zl D [(cI, .int), (cN, .object "AlgebraTree$Node"), (cR, .object "AlgebraTree$Rows")] base yX7_reckonPairs cX7_reckonPairs 9 none 4 0 0 [.ref m, .int (nI to), .int (nI t), .int (nI u), .int (nI 1), .int (nI e)] V (fun zv zV => ∃ fr1 : Nat → Int32, ∃ fc1 : Nat → Int32, ∃ fw1 : Nat → Int32, ∃ fv1 : Nat → Int32, zv = none ∧ zV = gv_up (gv_up (gv_up (gv_up V wr (.inl (cI, 57600, .inl fr1))) wc (.inl (cI, 120, .inl fc1))) wn (.inl (cI, 6, .inl fw1))) wv (.inl (cI, 30, .inl fv1)) ∧ (MRep (leftL (lcnd E (nI e)) A B) (fc1 to) (tbl fr1 to)) ∧ (Kp to fc fr fc1 fr1)) := by
  refine ct_of "AlgebraTreeModel" rfl (by decide) (Nat.le_of_ble_eq_true rfl) ?_
  intro zp ze zs zm zargs zbelow zmeth zc C zr zlk znm
  refine k_pc (pc' := 0) (st' := []) rfl rfl ?_
  show K zp zl ze (gv_rm 4 0 0) zs zm zargs zbelow zmeth zc D base 9 (gv_E D [(cI, .int), (cN, .object "AlgebraTree$Node"), (cR, .object "AlgebraTree$Rows")] base zbelow zargs zs 0 0 (fun zv zV => ∃ fr1 : Nat → Int32, ∃ fc1 : Nat → Int32, ∃ fw1 : Nat → Int32, ∃ fv1 : Nat → Int32, zv = none ∧ zV = gv_up (gv_up (gv_up (gv_up V wr (.inl (cI, 57600, .inl fr1))) wc (.inl (cI, 120, .inl fc1))) wn (.inl (cI, 6, .inl fw1))) wv (.inl (cI, 30, .inl fv1)) ∧ (MRep (leftL (lcnd E (nI e)) A B) (fc1 to) (tbl fr1 to)) ∧ (Kp to fc fr fc1 fr1))) V 0 0 [(0, .ref m), (1, .int (nI to)), (2, .int (nI t)), (3, .int (nI u)), (4, .int (nI 1)), (5, .int (nI e))] 0 []
  refine k_iconst (v := nI 0) C dX7_reckonPairs_0 rfl ?_
  refine k_istore (lv' := [(6, .int (nI 0)), (0, .ref m), (1, .int (nI to)), (2, .int (nI t)), (3, .int (nI u)), (4, .int (nI 1)), (5, .int (nI e))]) C dX7_reckonPairs_1 (by decide) rfl ?_
  have L3 : ∀ (zn1 : Nat) (i : Nat) (fr1 : Nat → Int32) (fc1 : Nat → Int32) (fw1 : Nat → Int32) (fv1 : Nat → Int32), n - i < zn1 → (i ≤ n) → (MRep (leftL (lcnd E (nI e)) (A.take i) B) (fc1 to) (tbl fr1 to)) → (Kp to fc fr fc1 fr1) → K zp zl ze (gv_rm 4 0 0) zs zm zargs zbelow zmeth zc D base 9 (gv_E D [(cI, .int), (cN, .object "AlgebraTree$Node"), (cR, .object "AlgebraTree$Rows")] base zbelow zargs zs 0 0 (fun zv zV => ∃ fr1 : Nat → Int32, ∃ fc1 : Nat → Int32, ∃ fw1 : Nat → Int32, ∃ fv1 : Nat → Int32, zv = none ∧ zV = gv_up (gv_up (gv_up (gv_up V wr (.inl (cI, 57600, .inl fr1))) wc (.inl (cI, 120, .inl fc1))) wn (.inl (cI, 6, .inl fw1))) wv (.inl (cI, 30, .inl fv1)) ∧ (MRep (leftL (lcnd E (nI e)) A B) (fc1 to) (tbl fr1 to)) ∧ (Kp to fc fr fc1 fr1))) (gv_up (gv_up (gv_up (gv_up V wr (.inl (cI, 57600, .inl fr1))) wc (.inl (cI, 120, .inl fc1))) wn (.inl (cI, 6, .inl fw1))) wv (.inl (cI, 30, .inl fv1))) 0 0 [(6, .int (nI i)), (0, .ref m), (1, .int (nI to)), (2, .int (nI t)), (3, .int (nI u)), (4, .int (nI 1)), (5, .int (nI e))] 3 [] := by
    intro zn1
    induction zn1 with
    | zero => intro i fr1 fc1 fw1 fv1 hlt; exact absurd hlt (Nat.not_lt_zero _)
    | succ zn1 ih3 =>
      intro i fr1 fc1 fw1 fv1 hlt3  hi hR hK
      have hA2 := hA.2.1
      have hA3 := hA.1
      have hA1 := hA.kp hK hta
      have hc1 : fc1 t = nI n := (hK t hta).1.trans hcA
      have hB2 := hB.2.1
      have hB3 := hB.1
      have hB1 := hB.kp hK htu
      have hc2 : fc1 u = nI n2 := (hK u htu).1.trans hcB
      have hne30 := hM.1
      refine k_iload C dX7_reckonPairs_3 0 rfl ?_
      refine k_aload_n C dX7_reckonPairs_5 rfl 1 rfl ?_
      have ne2 : nq m wr := gv_ne h_wr h_m (by simp)
      have ne3 : nq m wc := gv_ne h_wc h_m (by simp)
      have ne4 : nq m wn := gv_ne h_wn h_m (by simp)
      have ne5 : nq m wv := gv_ne h_wv h_m (by simp)
      refine k_get (ci := 7) (k := 9) C fl_7_26 ((gv_up_n ne5).trans ((gv_up_n ne4).trans ((gv_up_n ne3).trans ((gv_up_n ne2).trans h_m)))) rfl dX7_reckonPairs_6 ?_
      refine k_iload_n C dX7_reckonPairs_9 rfl 3 rfl ?_
      have ne6 : nq wc wn := gv_ne h_wn h_wc (by simp)
      have ne7 : nq wc wv := gv_ne h_wv h_wc (by simp)
      refine k_iald (v := fc1 t) C 0 ((gv_up_n ne7).trans ((gv_up_n ne6).trans gv_up_s)) rfl (vp_in_nI (by omega) (by omega)) (by rw [nI_clamp (by omega)]) dX7_reckonPairs_10 ?_
      refine k_val (y := nI n) hc1 ?_
      refine k_icmp_ge (tgt := 111) C dX7_reckonPairs_11 (by decide) (fun c11 => ?_) (fun c11 => ?_)
      · skip
        have b11 : n ≤ i := (nI_leI (a := n) (b := i) (by omega) (by omega)).mp c11
        exact k_vret C zr zlk ⟨fr1, fc1, fw1, fv1, rfl, rfl, (by rw [take_all (M := A) hA3 (by omega)] at hR; exact hR), hK⟩ (Nat.le_refl _) (Nat.le_refl _) dX7_reckonPairs_111
      · skip
        have b11 : ¬ n ≤ i := fun z => c11 ((nI_leI (a := n) (b := i) (by omega) (by omega)).mpr z)
        refine k_iconst (v := nI 0) C dX7_reckonPairs_14 rfl ?_
        refine k_istore (lv' := [(7, .int (nI 0)), (6, .int (nI i)), (0, .ref m), (1, .int (nI to)), (2, .int (nI t)), (3, .int (nI u)), (4, .int (nI 1)), (5, .int (nI e))]) C dX7_reckonPairs_15 (by decide) rfl ?_
        refine k_iconst (v := nI 0) C dX7_reckonPairs_17 rfl ?_
        refine k_istore (lv' := [(8, .int (nI 0)), (7, .int (nI 0)), (6, .int (nI i)), (0, .ref m), (1, .int (nI to)), (2, .int (nI t)), (3, .int (nI u)), (4, .int (nI 1)), (5, .int (nI e))]) C dX7_reckonPairs_18 (by decide) rfl ?_
        have L20 : ∀ (zn8 : Nat) (j : Nat) (sm : Bool) (fr1 : Nat → Int32) (fc1 : Nat → Int32) (fw1 : Nat → Int32) (fv1 : Nat → Int32), n2 - j < zn8 → (j ≤ n2) → (sm = !(left1 (lcnd E (nI e)) (rowAt A i) (B.take j)).isEmpty) → (MRep (leftL (lcnd E (nI e)) (A.take i) B ++ left1 (lcnd E (nI e)) (rowAt A i) (B.take j)) (fc1 to) (tbl fr1 to)) → (Kp to fc fr fc1 fr1) → K zp zl ze (gv_rm 4 0 0) zs zm zargs zbelow zmeth zc D base 9 (gv_E D [(cI, .int), (cN, .object "AlgebraTree$Node"), (cR, .object "AlgebraTree$Rows")] base zbelow zargs zs 0 0 (fun zv zV => ∃ fr1 : Nat → Int32, ∃ fc1 : Nat → Int32, ∃ fw1 : Nat → Int32, ∃ fv1 : Nat → Int32, zv = none ∧ zV = gv_up (gv_up (gv_up (gv_up V wr (.inl (cI, 57600, .inl fr1))) wc (.inl (cI, 120, .inl fc1))) wn (.inl (cI, 6, .inl fw1))) wv (.inl (cI, 30, .inl fv1)) ∧ (MRep (leftL (lcnd E (nI e)) A B) (fc1 to) (tbl fr1 to)) ∧ (Kp to fc fr fc1 fr1))) (gv_up (gv_up (gv_up (gv_up V wr (.inl (cI, 57600, .inl fr1))) wc (.inl (cI, 120, .inl fc1))) wn (.inl (cI, 6, .inl fw1))) wv (.inl (cI, 30, .inl fv1))) 0 0 [(8, .int (nI j)), (7, .int (bI sm)), (6, .int (nI i)), (0, .ref m), (1, .int (nI to)), (2, .int (nI t)), (3, .int (nI u)), (4, .int (nI 1)), (5, .int (nI e))] 20 [] := by
          intro zn8
          induction zn8 with
          | zero => intro j sm fr1 fc1 fw1 fv1 hlt; exact absurd hlt (Nat.not_lt_zero _)
          | succ zn8 ih20 =>
            intro j sm fr1 fc1 fw1 fv1 hlt20  hj hsm hR hK
            have hA2 := hA.2.1
            have hA3 := hA.1
            have hA1 := hA.kp hK hta
            have hc1 : fc1 t = nI n := (hK t hta).1.trans hcA
            have hB2 := hB.2.1
            have hB3 := hB.1
            have hB1 := hB.kp hK htu
            have hc2 : fc1 u = nI n2 := (hK u htu).1.trans hcB
            have hne30 := hM.1
            refine k_iload C dX7_reckonPairs_20 0 rfl ?_
            refine k_aload_n C dX7_reckonPairs_22 rfl 3 rfl ?_
            refine k_get (ci := 7) (k := 9) C fl_7_26 ((gv_up_n ne5).trans ((gv_up_n ne4).trans ((gv_up_n ne3).trans ((gv_up_n ne2).trans h_m)))) rfl dX7_reckonPairs_23 ?_
            refine k_iload_n C dX7_reckonPairs_26 rfl 6 rfl ?_
            refine k_iald (v := fc1 u) C 0 ((gv_up_n ne7).trans ((gv_up_n ne6).trans gv_up_s)) rfl (vp_in_nI (by omega) (by omega)) (by rw [nI_clamp (by omega)]) dX7_reckonPairs_27 ?_
            refine k_val (y := nI n2) hc2 ?_
            refine k_icmp_ge (tgt := 83) C dX7_reckonPairs_28 (by decide) (fun c28 => ?_) (fun c28 => ?_)
            · skip
              have b28 : n2 ≤ j := (nI_leI (a := n2) (b := j) (by omega) (by omega)).mp c28
              refine k_iload C dX7_reckonPairs_83 7 rfl ?_
              refine k_if_eq (tgt := 105) C dX7_reckonPairs_85 (by decide) (fun c85 => ?_) (fun c85 => ?_)
              · exact absurd c85 (by decide)
              · skip
                have b85 : ¬ 1 = 0 := fun z => c85 ((nI_eq (a := 1) (b := 0) (by omega) (by omega)).mpr z)
                refine k_iload C dX7_reckonPairs_88 1 rfl ?_
                refine k_if_ne (tgt := 105) C dX7_reckonPairs_90 (by decide) (fun c90 => ?_) (fun c90 => ?_)
                · skip
                  have b90 : sm = true := bI_n.mp c90
                  have hem : (left1 (lcnd E (nI e)) (rowAt A i) B).isEmpty = false := by rw [take_all (M := B) hB3 (show n2 ≤ j by omega), b90] at hsm; cases hz : (left1 (lcnd E (nI e)) (rowAt A i) B).isEmpty with | false => rfl | true => rw [hz] at hsm; cases hsm
                  refine k_iinc (v := nI (i + 1)) (lv' := [(6, .int (nI (i + 1))), (8, .int (nI j)), (7, .int (bI sm)), (0, .ref m), (1, .int (nI to)), (2, .int (nI t)), (3, .int (nI u)), (4, .int (nI 1)), (5, .int (nI e))]) C dX7_reckonPairs_105 (k := 2) rfl (nI_add i 1) (by decide) rfl ?_
                  refine k_goto (tgt := 3) C dX7_reckonPairs_108 (by decide) ?_
                  refine k_sub [0, 3, 4, 5, 6, 7, 8] (lv' := [(6, .int (nI (i + 1))), (0, .ref m), (1, .int (nI to)), (2, .int (nI t)), (3, .int (nI u)), (4, .int (nI 1)), (5, .int (nI e))]) rfl ?_
                  exact ih3 (i + 1) fr1 fc1 fw1 fv1 (by omega)  (by omega) (by rw [leftL_s (by omega)]; unfold leftX; rw [if_neg (by rw [hem]; decide)]; rw [take_all (M := B) hB3 (show n2 ≤ j by omega)] at hR; exact hR) hK
                · skip
                  have b90 : sm = false := bI_0.mp c90
                  refine k_aload_n C dX7_reckonPairs_93 rfl 3 rfl ?_
                  refine k_iload_n C dX7_reckonPairs_94 rfl 5 rfl ?_
                  refine k_iload C dX7_reckonPairs_95 2 rfl ?_
                  rw [take_all (M := B) hB3 (show n2 ≤ j by omega)] at hR hsm
                  have hem : (left1 (lcnd E (nI e)) (rowAt A i) B).isEmpty = true := by rw [b90] at hsm; cases hz : (left1 (lcnd E (nI e)) (rowAt A i) B).isEmpty with | true => rfl | false => rw [hz] at hsm; cases hsm
                  have hR9 : MRep (leftL (lcnd E (nI e)) (A.take i) B) (fc1 to) (tbl fr1 to) := by rw [List.isEmpty_iff.mp hem, List.append_nil] at hR; exact hR
                  have ne9 : nq wr wc := gv_ne h_wc h_wr (by simp)
                  have ne10 : nq wr wn := gv_ne h_wn h_wr (by simp)
                  have ne11 : nq wr wv := gv_ne h_wv h_wr (by simp)
                  have ne12 : nq wn wv := gv_ne h_wv h_wn (by simp)
                  refine k_callV C mv_7_101 (c_X7_take  ((gv_up_n ne5).trans ((gv_up_n ne4).trans ((gv_up_n ne3).trans ((gv_up_n ne2).trans h_m)))) ((gv_up_n ne11).trans ((gv_up_n ne10).trans ((gv_up_n ne9).trans gv_up_s))) ((gv_up_n ne12).trans gv_up_s) (by first | assumption | omega) (by omega)) ((gv_up_n ne5).trans ((gv_up_n ne4).trans ((gv_up_n ne3).trans ((gv_up_n ne2).trans h_m)))) rfl rfl (by simp [Value.category]) ⟨Nat.le_of_ble_eq_true rfl, Nat.le_of_ble_eq_true rfl⟩ ⟨(by decide), (by decide)⟩ dX7_reckonPairs_97 (fun zv zV zh => ?_)
                  obtain ⟨fw1_w13, rfl, rfl, hw1_w13⟩ := zh
                  refine k_pc (pc' := 100) (st' := []) rfl rfl ?_
                  refine k_view (V1 := gv_up (gv_up (gv_up (gv_up V wr (.inl (cI, 57600, .inl fr1))) wc (.inl (cI, 120, .inl fc1))) wn (.inl (cI, 6, .inl fw1_w13))) wv (.inl (cI, 30, .inl fv1))) ((gv_uc ne12).trans (congrArg (fun W => gv_up W wv (.inl (cI, 30, .inl fv1))) gv_uu)) ?_
                  refine k_aload_n C dX7_reckonPairs_100 rfl 3 rfl ?_
                  refine k_iload_n C dX7_reckonPairs_101 rfl 4 rfl ?_
                  refine k_callV C mv_7_112 (c_X7_add  ((gv_up_n ne5).trans ((gv_up_n ne4).trans ((gv_up_n ne3).trans ((gv_up_n ne2).trans h_m)))) ((gv_up_n ne11).trans ((gv_up_n ne10).trans ((gv_up_n ne9).trans gv_up_s))) ((gv_up_n ne7).trans ((gv_up_n ne6).trans gv_up_s)) ((gv_up_n ne12).trans gv_up_s) (by first | assumption | omega) hR9 (hw1_w13.tr (hA1.at (by omega)))) ((gv_up_n ne5).trans ((gv_up_n ne4).trans ((gv_up_n ne3).trans ((gv_up_n ne2).trans h_m)))) rfl rfl (by simp [Value.category]) ⟨Nat.le_of_ble_eq_true rfl, Nat.le_of_ble_eq_true rfl⟩ ⟨(by decide), (by decide)⟩ dX7_reckonPairs_102 (fun zv zV zh => ?_)
                  obtain ⟨fc1_w14, fr1_w14, rfl, rfl, hR1_w14, hk1_w14⟩ := zh
                  refine k_pc (pc' := 105) (st' := []) rfl rfl ?_
                  refine k_view (V1 := gv_up (gv_up (gv_up (gv_up (gv_up V wr (.inl (cI, 57600, .inl fr1_w14))) wc (.inl (cI, 120, .inl fc1))) wn (.inl (cI, 6, .inl fw1_w13))) wv (.inl (cI, 30, .inl fv1))) wc (.inl (cI, 120, .inl fc1_w14))) (congrArg (fun W => gv_up W wc (.inl (cI, 120, .inl fc1_w14))) ((gv_uc ne11).trans (congrArg (fun W => gv_up W wv (.inl (cI, 30, .inl fv1))) ((gv_uc ne10).trans (congrArg (fun W => gv_up W wn (.inl (cI, 6, .inl fw1_w13))) ((gv_uc ne9).trans (congrArg (fun W => gv_up W wc (.inl (cI, 120, .inl fc1))) gv_uu))))))) ?_
                  refine k_view (V1 := gv_up (gv_up (gv_up (gv_up V wr (.inl (cI, 57600, .inl fr1_w14))) wc (.inl (cI, 120, .inl fc1_w14))) wn (.inl (cI, 6, .inl fw1_w13))) wv (.inl (cI, 30, .inl fv1))) ((gv_uc ne7).trans (congrArg (fun W => gv_up W wv (.inl (cI, 30, .inl fv1))) ((gv_uc ne6).trans (congrArg (fun W => gv_up W wn (.inl (cI, 6, .inl fw1_w13))) gv_uu)))) ?_
                  refine k_iinc (v := nI (i + 1)) (lv' := [(6, .int (nI (i + 1))), (8, .int (nI j)), (7, .int (bI sm)), (0, .ref m), (1, .int (nI to)), (2, .int (nI t)), (3, .int (nI u)), (4, .int (nI 1)), (5, .int (nI e))]) C dX7_reckonPairs_105 (k := 2) rfl (nI_add i 1) (by decide) rfl ?_
                  refine k_goto (tgt := 3) C dX7_reckonPairs_108 (by decide) ?_
                  refine k_sub [0, 3, 4, 5, 6, 7, 8] (lv' := [(6, .int (nI (i + 1))), (0, .ref m), (1, .int (nI to)), (2, .int (nI t)), (3, .int (nI u)), (4, .int (nI 1)), (5, .int (nI e))]) rfl ?_
                  exact ih3 (i + 1) fr1_w14 fc1_w14 fw1_w13 fv1 (by omega)  (by omega) (by rw [leftL_s (by omega)]; unfold leftX; rw [if_pos hem]; exact hR1_w14) (hK.tr hk1_w14)
            · skip
              have b28 : ¬ n2 ≤ j := fun z => c28 ((nI_leI (a := n2) (b := j) (by omega) (by omega)).mpr z)
              refine k_aload_n C dX7_reckonPairs_31 rfl 3 rfl ?_
              refine k_iload_n C dX7_reckonPairs_32 rfl 5 rfl ?_
              refine k_iload C dX7_reckonPairs_33 2 rfl ?_
              refine k_iload_n C dX7_reckonPairs_35 rfl 6 rfl ?_
              refine k_iload C dX7_reckonPairs_36 0 rfl ?_
              have ne15 : nq wr wc := gv_ne h_wc h_wr (by simp)
              have ne16 : nq wr wn := gv_ne h_wn h_wr (by simp)
              have ne17 : nq wr wv := gv_ne h_wv h_wr (by simp)
              refine k_callV_pi C mv_7_116 (c_X7_agree  ((gv_up_n ne5).trans ((gv_up_n ne4).trans ((gv_up_n ne3).trans ((gv_up_n ne2).trans h_m)))) ((gv_up_n ne17).trans ((gv_up_n ne16).trans ((gv_up_n ne15).trans gv_up_s))) (by first | assumption | omega) (by omega) (by first | assumption | omega) (by omega)) ((gv_up_n ne5).trans ((gv_up_n ne4).trans ((gv_up_n ne3).trans ((gv_up_n ne2).trans h_m)))) rfl rfl (by simp [Value.category]) ⟨Nat.le_of_ble_eq_true rfl, Nat.le_of_ble_eq_true rfl⟩ ⟨(by decide), (by decide)⟩ dX7_reckonPairs_38 ?_
              refine k_if_eq (tgt := 77) C dX7_reckonPairs_41 (by decide) (fun c41 => ?_) (fun c41 => ?_)
              · skip
                have b41 : (agr (rwf (tbl fr1 t) i) (rwf (tbl fr1 u) j)) = false := bI_0.mp c41
                have hcn : (agr (rowAt A i) (rowAt B j) && (lcnd E (nI e)) (tog (rowAt A i) (rowAt B j))) = false := by rw [← agr_c (hA1.at (by omega)) (hB1.at (by omega)), b41]; rfl
                refine k_iinc (v := nI (j + 1)) (lv' := [(8, .int (nI (j + 1))), (7, .int (bI sm)), (6, .int (nI i)), (0, .ref m), (1, .int (nI to)), (2, .int (nI t)), (3, .int (nI u)), (4, .int (nI 1)), (5, .int (nI e))]) C dX7_reckonPairs_77 (k := 0) rfl (nI_add j 1) (by decide) rfl ?_
                refine k_goto (tgt := 20) C dX7_reckonPairs_80 (by decide) ?_
                exact ih20 (j + 1) sm fr1 fc1 fw1 fv1 (by omega)  (by omega) (by rw [left1_s (by omega), if_neg (by rw [hcn]; decide), List.append_nil]; exact hsm) (by rw [left1_s (by omega), if_neg (by rw [hcn]; decide), List.append_nil]; exact hR) hK
              · skip
                have b41 : (agr (rwf (tbl fr1 t) i) (rwf (tbl fr1 u) j)) = true := bI_n.mp c41
                refine k_aload_n C dX7_reckonPairs_44 rfl 3 rfl ?_
                refine k_iload_n C dX7_reckonPairs_45 rfl 5 rfl ?_
                refine k_iload C dX7_reckonPairs_46 2 rfl ?_
                refine k_iload_n C dX7_reckonPairs_48 rfl 6 rfl ?_
                refine k_iload C dX7_reckonPairs_49 0 rfl ?_
                have ne18 : nq wn wv := gv_ne h_wv h_wn (by simp)
                refine k_callV C mv_7_120 (c_X7_together  ((gv_up_n ne5).trans ((gv_up_n ne4).trans ((gv_up_n ne3).trans ((gv_up_n ne2).trans h_m)))) ((gv_up_n ne17).trans ((gv_up_n ne16).trans ((gv_up_n ne15).trans gv_up_s))) ((gv_up_n ne18).trans gv_up_s) (by first | assumption | omega) (by omega) (by first | assumption | omega) (by omega)) ((gv_up_n ne5).trans ((gv_up_n ne4).trans ((gv_up_n ne3).trans ((gv_up_n ne2).trans h_m)))) rfl rfl (by simp [Value.category]) ⟨Nat.le_of_ble_eq_true rfl, Nat.le_of_ble_eq_true rfl⟩ ⟨(by decide), (by decide)⟩ dX7_reckonPairs_51 (fun zv zV zh => ?_)
                obtain ⟨fw1_w19, rfl, rfl, hw1_w19⟩ := zh
                refine k_pc (pc' := 54) (st' := []) rfl rfl ?_
                refine k_view (V1 := gv_up (gv_up (gv_up (gv_up V wr (.inl (cI, 57600, .inl fr1))) wc (.inl (cI, 120, .inl fc1))) wn (.inl (cI, 6, .inl fw1_w19))) wv (.inl (cI, 30, .inl fv1))) ((gv_uc ne18).trans (congrArg (fun W => gv_up W wv (.inl (cI, 30, .inl fv1))) gv_uu)) ?_
                have hwt := hw1_w19
                refine k_iload C dX7_reckonPairs_54 8 rfl ?_
                refine k_iconst (v := (-1 : Int32)) C dX7_reckonPairs_56 (by decide) ?_
                refine k_icmp_eq (tgt := 69) C dX7_reckonPairs_57 (by decide) (fun c57 => ?_) (fun c57 => ?_)
                · skip
                  exact absurd c57 (nI_n1 (by omega))
                · skip
                  refine k_aload_n C dX7_reckonPairs_60 rfl 3 rfl ?_
                  refine k_iload C dX7_reckonPairs_61 8 rfl ?_
                  have ne20 : nq wa wr := gv_ne h_wr h_wa (by simp)
                  have ne21 : nq wa wc := gv_ne h_wc h_wa (by simp)
                  have ne22 : nq wa wn := gv_ne h_wn h_wa (by simp)
                  have ne23 : nq wa wv := gv_ne h_wv h_wa (by simp)
                  refine k_callV C mv_7_124 (c_X7_isTrue  ((gv_up_n ne5).trans ((gv_up_n ne4).trans ((gv_up_n ne3).trans ((gv_up_n ne2).trans h_m)))) ((gv_up_n ne23).trans ((gv_up_n ne22).trans ((gv_up_n ne21).trans ((gv_up_n ne20).trans h_wa)))) gv_up_s ((gv_up_n ne18).trans gv_up_s) (by first | assumption | omega) (by first | assumption | omega)) ((gv_up_n ne5).trans ((gv_up_n ne4).trans ((gv_up_n ne3).trans ((gv_up_n ne2).trans h_m)))) rfl rfl (by simp [Value.category]) ⟨Nat.le_of_ble_eq_true rfl, Nat.le_of_ble_eq_true rfl⟩ ⟨(by decide), (by decide)⟩ dX7_reckonPairs_63 (fun zv zV zh => ?_)
                  obtain ⟨fv1_w24, rfl, rfl⟩ := zh
                  refine k_pc (pc' := 66) (st' := .int (bI (isT (ev E fw1_w19 e))) :: []) rfl rfl ?_
                  refine k_view (V1 := gv_up (gv_up (gv_up (gv_up V wr (.inl (cI, 57600, .inl fr1))) wc (.inl (cI, 120, .inl fc1))) wn (.inl (cI, 6, .inl fw1_w19))) wv (.inl (cI, 30, .inl fv1_w24))) gv_uu ?_
                  refine k_if_eq (tgt := 77) C dX7_reckonPairs_66 (by decide) (fun c66 => ?_) (fun c66 => ?_)
                  · skip
                    have b66 : (isT (ev E fw1_w19 e)) = false := bI_0.mp c66
                    have hcn : (agr (rowAt A i) (rowAt B j) && (lcnd E (nI e)) (tog (rowAt A i) (rowAt B j))) = false := by rw [show (lcnd E (nI e)) (tog (rowAt A i) (rowAt B j)) = false from (by unfold lcnd; rw [if_neg (nI_n1 (by omega)), tn_nI (by omega), ← hM.c he (hwt.tr (tog_c (hA1.at (by omega)) (hB1.at (by omega)))), b66])]; simp
                    refine k_iinc (v := nI (j + 1)) (lv' := [(8, .int (nI (j + 1))), (7, .int (bI sm)), (6, .int (nI i)), (0, .ref m), (1, .int (nI to)), (2, .int (nI t)), (3, .int (nI u)), (4, .int (nI 1)), (5, .int (nI e))]) C dX7_reckonPairs_77 (k := 0) rfl (nI_add j 1) (by decide) rfl ?_
                    refine k_goto (tgt := 20) C dX7_reckonPairs_80 (by decide) ?_
                    exact ih20 (j + 1) sm fr1 fc1 fw1_w19 fv1_w24 (by omega)  (by omega) (by rw [left1_s (by omega), if_neg (by rw [hcn]; decide), List.append_nil]; exact hsm) (by rw [left1_s (by omega), if_neg (by rw [hcn]; decide), List.append_nil]; exact hR) hK
                  · skip
                    have b66 : (isT (ev E fw1_w19 e)) = true := bI_n.mp c66
                    refine k_aload_n C dX7_reckonPairs_69 rfl 3 rfl ?_
                    refine k_iload_n C dX7_reckonPairs_70 rfl 4 rfl ?_
                    have hco : (agr (rowAt A i) (rowAt B j) && (lcnd E (nI e)) (tog (rowAt A i) (rowAt B j))) = true := by rw [← agr_c (hA1.at (by omega)) (hB1.at (by omega)), b41, show (lcnd E (nI e)) (tog (rowAt A i) (rowAt B j)) = true from (by unfold lcnd; rw [if_neg (nI_n1 (by omega)), tn_nI (by omega), ← hM.c he (hwt.tr (tog_c (hA1.at (by omega)) (hB1.at (by omega)))), b66])]; rfl
                    refine k_callV C mv_7_112 (c_X7_add  ((gv_up_n ne5).trans ((gv_up_n ne4).trans ((gv_up_n ne3).trans ((gv_up_n ne2).trans h_m)))) ((gv_up_n ne17).trans ((gv_up_n ne16).trans ((gv_up_n ne15).trans gv_up_s))) ((gv_up_n ne7).trans ((gv_up_n ne6).trans gv_up_s)) ((gv_up_n ne18).trans gv_up_s) (by first | assumption | omega) hR (hwt.tr (tog_c (hA1.at (by omega)) (hB1.at (by omega))))) ((gv_up_n ne5).trans ((gv_up_n ne4).trans ((gv_up_n ne3).trans ((gv_up_n ne2).trans h_m)))) rfl rfl (by simp [Value.category]) ⟨Nat.le_of_ble_eq_true rfl, Nat.le_of_ble_eq_true rfl⟩ ⟨(by decide), (by decide)⟩ dX7_reckonPairs_71 (fun zv zV zh => ?_)
                    obtain ⟨fc1_w25, fr1_w25, rfl, rfl, hR1_w25, hk1_w25⟩ := zh
                    refine k_pc (pc' := 74) (st' := []) rfl rfl ?_
                    refine k_view (V1 := gv_up (gv_up (gv_up (gv_up (gv_up V wr (.inl (cI, 57600, .inl fr1_w25))) wc (.inl (cI, 120, .inl fc1))) wn (.inl (cI, 6, .inl fw1_w19))) wv (.inl (cI, 30, .inl fv1_w24))) wc (.inl (cI, 120, .inl fc1_w25))) (congrArg (fun W => gv_up W wc (.inl (cI, 120, .inl fc1_w25))) ((gv_uc ne17).trans (congrArg (fun W => gv_up W wv (.inl (cI, 30, .inl fv1_w24))) ((gv_uc ne16).trans (congrArg (fun W => gv_up W wn (.inl (cI, 6, .inl fw1_w19))) ((gv_uc ne15).trans (congrArg (fun W => gv_up W wc (.inl (cI, 120, .inl fc1))) gv_uu))))))) ?_
                    refine k_view (V1 := gv_up (gv_up (gv_up (gv_up V wr (.inl (cI, 57600, .inl fr1_w25))) wc (.inl (cI, 120, .inl fc1_w25))) wn (.inl (cI, 6, .inl fw1_w19))) wv (.inl (cI, 30, .inl fv1_w24))) ((gv_uc ne7).trans (congrArg (fun W => gv_up W wv (.inl (cI, 30, .inl fv1_w24))) ((gv_uc ne6).trans (congrArg (fun W => gv_up W wn (.inl (cI, 6, .inl fw1_w19))) gv_uu)))) ?_
                    refine k_iconst (v := nI 1) C dX7_reckonPairs_74 rfl ?_
                    refine k_istore (lv' := [(7, .int (nI 1)), (8, .int (nI j)), (6, .int (nI i)), (0, .ref m), (1, .int (nI to)), (2, .int (nI t)), (3, .int (nI u)), (4, .int (nI 1)), (5, .int (nI e))]) C dX7_reckonPairs_75 (by decide) rfl ?_
                    refine k_iinc (v := nI (j + 1)) (lv' := [(8, .int (nI (j + 1))), (7, .int (nI 1)), (6, .int (nI i)), (0, .ref m), (1, .int (nI to)), (2, .int (nI t)), (3, .int (nI u)), (4, .int (nI 1)), (5, .int (nI e))]) C dX7_reckonPairs_77 (k := 1) rfl (nI_add j 1) (by decide) rfl ?_
                    refine k_goto (tgt := 20) C dX7_reckonPairs_80 (by decide) ?_
                    refine k_lve (lv' := [(8, .int (nI (j + 1))), (7, .int (bI true)), (6, .int (nI i)), (0, .ref m), (1, .int (nI to)), (2, .int (nI t)), (3, .int (nI u)), (4, .int (nI 1)), (5, .int (nI e))]) rfl ?_
                    exact ih20 (j + 1) true fr1_w25 fc1_w25 fw1_w19 fv1_w24 (by omega)  (by omega) (by rw [left1_s (by omega), if_pos hco, emp_app]) (by rw [left1_s (by omega), if_pos hco, ← List.append_assoc]; exact hR1_w25) (hK.tr hk1_w25)
        refine k_lve (lv' := [(8, .int (nI 0)), (7, .int (bI false)), (6, .int (nI i)), (0, .ref m), (1, .int (nI to)), (2, .int (nI t)), (3, .int (nI u)), (4, .int (nI 1)), (5, .int (nI e))]) rfl ?_
        exact L20 _ 0 false fr1 fc1 fw1 fv1 (Nat.lt_succ_self _)  (by omega) (by simp [left1]) (by simpa [left1] using hR) hK
  refine k_view (V1 := gv_up V wr (.inl (cI, 57600, .inl fr))) (gv_id h_wr).symm ?_
  have ne26 : nq wc wr := gv_ne h_wr h_wc (by simp)
  refine k_view (V1 := gv_up (gv_up V wr (.inl (cI, 57600, .inl fr))) wc (.inl (cI, 120, .inl fc))) (gv_id ((gv_up_n ne26).trans h_wc)).symm ?_
  have ne27 : nq wn wr := gv_ne h_wr h_wn (by simp)
  have ne28 : nq wn wc := gv_ne h_wc h_wn (by simp)
  refine k_view (V1 := gv_up (gv_up (gv_up V wr (.inl (cI, 57600, .inl fr))) wc (.inl (cI, 120, .inl fc))) wn (.inl (cI, 6, .inl fw))) (gv_id ((gv_up_n ne28).trans ((gv_up_n ne27).trans h_wn))).symm ?_
  have ne29 : nq wv wr := gv_ne h_wr h_wv (by simp)
  have ne30 : nq wv wc := gv_ne h_wc h_wv (by simp)
  have ne31 : nq wv wn := gv_ne h_wn h_wv (by simp)
  refine k_view (V1 := gv_up (gv_up (gv_up (gv_up V wr (.inl (cI, 57600, .inl fr))) wc (.inl (cI, 120, .inl fc))) wn (.inl (cI, 6, .inl fw))) wv (.inl (cI, 30, .inl fv))) (gv_id ((gv_up_n ne31).trans ((gv_up_n ne30).trans ((gv_up_n ne29).trans h_wv)))).symm ?_
  exact L3 _ 0 fr fc fw fv (Nat.lt_succ_self _)  (by omega) (MRep.nil hc0) Kp.rf
