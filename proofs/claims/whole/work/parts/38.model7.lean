/-! a node of the reference -/
theorem isN {S : Option (List Row)} (h : S.isNone = false) : ∃ A, S = some A := by
  cases S with
  | none => cases h
  | some A => exact ⟨A, rfl⟩
theorem isN0 {S : Option (List Row)} (h : S.isNone = true) : S = none := Option.isNone_iff_eq_none.mp h
theorem MTb.sm {S : Option (List Row)} {c : Int32} {f : Nat → Int32} {A : List Row} (h : MTb S c f) (e : S = some A) : c = nI A.length ∧ Tab A A.length f := by
  rw [e] at h; exact h
theorem MTb.no {S : Option (List Row)} {c : Int32} {f : Nat → Int32} (e : S = none) (h : c = -2) : MTb S c f := by
  rw [e]; exact h
theorem MTb.le {S : Option (List Row)} {c : Int32} {f : Nat → Int32} {A : List Row} (h : MTb S c f) (e : S = some A) : A.length ≤ 80 := (h.sm e).2.2.1
theorem MTb.lg {S : Option (List Row)} {c : Int32} {f : Nat → Int32} (h : MTb S c f) : S.isNone = true ↔ c = -2 := by
  cases S with
  | none => exact ⟨fun _ => h, fun _ => rfl⟩
  | some A =>
    have h2 := h.sm rfl
    have h80 := h2.2.2.1
    exact ⟨fun q => (by cases q), fun q => absurd (h2.1.symm.trans q) (nI_n2 (by omega))⟩
theorem MTb.up {S : Option (List Row)} {fc : Nat → Int32} {f : Nat → Int32} {t to : Nat} {x : Int32} (h : MTb S (fc t) f) (ht : ¬ t = to) : MTb S (upd fc to x t) f := by
  have e : upd fc to x t = fc t := if_neg ht
  rw [e]; exact h
theorem Kp.up {fc fr : Nat → Int32} {to : Nat} {x : Int32} : Kp to fc fr (upd fc to x) fr := fun t ht => ⟨if_neg ht, fun _ _ => rfl⟩
theorem upd_at {f : Nat → Int32} {i : Nat} {x : Int32} : upd f i x i = x := if_pos rfl
theorem MTb.kp {S : Option (List Row)} {fc fr fc1 fr1 : Nat → Int32} {t to : Nat} (h : MTb S (fc t) (tbl fr t)) (hk : Kp to fc fr fc1 fr1) (ht : ¬ t = to) : MTb S (fc1 t) (tbl fr1 t) := by
  cases S with
  | none => exact (hk t ht).1.trans h
  | some A =>
    have h2 := h.sm rfl
    exact ⟨(hk t ht).1.trans h2.1, h2.2.kp hk ht⟩
theorem eachS_no {S : Nat → Option (List Row)} {v : Nat} (h : (S 1).isNone = true ∨ (S 2).isNone = true ∨ (S 3).isNone = true) : eachS S v = none := if_pos h
theorem eachS_so {S : Nat → Option (List Row)} {v : Nat} (h1 : (S 1).isNone = false) (h2 : (S 2).isNone = false) (h3 : (S 3).isNone = false) : eachS S v = cap (grP S v 4) := if_neg (fun q => by
  rcases q with q | q | q
  · rw [h1] at q; cases q
  · rw [h2] at q; cases q
  · rw [h3] at q; cases q)
set_option maxHeartbeats 4000000 in
set_option maxRecDepth 100000 in
theorem c_X7_isLong {zl : Launch} {D : va_G} {cI cN cR : ClassId} {base : Nat} {V : gv_V} {m wt wa wv wm wr wc wn ws wk wp nt ne nn sh : Nat} {kn : Int32} {fc : Nat → Int32} {i g : Nat} {S : Option (List Row)} {f : Nat → Int32}  (h_m : V m = some (.inr (7, [.int (nI nt), .ref wt, .int (nI ne), .ref wa, .ref wv, .int (nI nn), .ref wm, .int kn, .ref wr, .ref wc, .ref wn, .int (nI sh), .ref ws, .ref wk, .ref wp]))) (h_wc : V wc = some (.inl (cI, 120, .inl fc))) (hi : i < 30) (hg : g < 4) (hS : MTb S (fc (4 * i + g)) f) : ct zl D [(cI, .int), (cN, .object "AlgebraTree$Node"), (cR, .object "AlgebraTree$Rows")] base yX7_isLong cX7_isLong 3 (some .boolean) 1 0 0 [.ref m, .int (nI i), .int (nI g)] V (pi (bI S.isNone) V) := by
  refine ct_of "AlgebraTreeModel" rfl (by decide) (Nat.le_of_ble_eq_true rfl) ?_
  intro zp ze zs zm zargs zbelow zmeth zc C zr zlk znm
  refine k_pc (pc' := 0) (st' := []) rfl rfl ?_
  show K zp zl ze (gv_rm 1 0 0) zs zm zargs zbelow zmeth zc D base 3 (gv_E D [(cI, .int), (cN, .object "AlgebraTree$Node"), (cR, .object "AlgebraTree$Rows")] base zbelow zargs zs 0 0 (pi (bI S.isNone) V)) V 0 0 [(0, .ref m), (1, .int (nI i)), (2, .int (nI g))] 0 []
  refine k_aload_n C dX7_isLong_0 rfl 0 rfl ?_
  refine k_get (ci := 7) (k := 9) C fl_7_26 h_m rfl dX7_isLong_1 ?_
  refine k_iload_n C dX7_isLong_4 rfl 1 rfl ?_
  refine k_iload_n C dX7_isLong_5 rfl 2 rfl ?_
  refine k_callS_pi C ms_7_140 (c_X7_table   ) rfl rfl (by simp [Value.category]) ⟨Nat.le_of_ble_eq_true rfl, Nat.le_of_ble_eq_true rfl⟩ ⟨(by decide), (by decide)⟩ dX7_isLong_6 ?_
  refine k_iald (v := fc (4 * i + g)) C 0 h_wc rfl (vp_in_nI (by omega) (by omega)) (by rw [nI_clamp (by omega)]) dX7_isLong_9 ?_
  refine k_bipush (v := (-2 : Int32)) C dX7_isLong_10 (by decide) ?_
  refine k_icmp_ne (tgt := 19) C dX7_isLong_12 (by decide) (fun c12 => ?_) (fun c12 => ?_)
  · skip
    refine k_iconst (v := nI 0) C dX7_isLong_19 rfl ?_
    exact k_zret C zr zlk rfl (pi_of (by cases hn : S.isNone with
      | true => exact absurd (hS.lg.mp hn) c12
      | false => rfl) rfl) (Nat.le_refl _) (Nat.le_refl _) dX7_isLong_20
  · skip
    refine k_iconst (v := nI 1) C dX7_isLong_15 rfl ?_
    refine k_goto (tgt := 20) C dX7_isLong_16 (by decide) ?_
    exact k_zret C zr zlk rfl (pi_of (by rw [hS.lg.mpr c12]; rfl) rfl) (Nat.le_refl _) (Nat.le_refl _) dX7_isLong_20
set_option maxHeartbeats 4000000 in
set_option maxRecDepth 100000 in
theorem c_reckon0 {zl : Launch} {D : va_G} {cI cN cR : ClassId} {base : Nat} {V : gv_V} {m wt wa wv wm wr wc wn ws wk wp nt ne nn sh : Nat} {kn : Int32} {ft fa fv fm fr fc fw fk fp : Nat → Int32} {i g : Nat} {ps pp po : Int32} {T : List Tr}  (h_m : V m = some (.inr (7, [.int (nI nt), .ref wt, .int (nI ne), .ref wa, .ref wv, .int (nI nn), .ref wm, .int kn, .ref wr, .ref wc, .ref wn, .int (nI sh), .ref ws, .ref wk, .ref wp]))) (h_wr : V wr = some (.inl (cI, 57600, .inl fr))) (h_wc : V wc = some (.inl (cI, 120, .inl fc))) (h_wn : V wn = some (.inl (cI, 6, .inl fw))) (h_wv : V wv = some (.inl (cI, 30, .inl fv))) (h_wk : V wk = some (.inl (cI, 80, .inl fk))) (h_wp : V wp = some (.inl (cI, 80, .inl fp))) (h_wa : V wa = some (.inl (cI, 90, .inl fa))) (h_wm : V wm = some (.inl (cI, 180, .inl fm))) (h_wt : V wt = some (.inl (cI, 240, .inl ft))) (hi : i < 30) (hg : g < 4) (hm0 : fm (6 * i) = nI 0) (hwkp : nq wk wp) (hT : MT T nt ft) (hm1 : fm (6 * i + 1) = ps) (hm2 : fm (6 * i + 2) = pp) (hm3 : fm (6 * i + 3) = po) (hps : plc ps = true) (hpp : plc pp = true) (hpo : plc po = true) : ct zl D [(cI, .int), (cN, .object "AlgebraTree$Node"), (cR, .object "AlgebraTree$Rows")] base yX7_reckon cX7_reckon 11 none 5 0 0 [.ref m, .int (nI i), .int (nI g)] V (fun zv zV => ∃ fr1 : Nat → Int32, ∃ fc1 : Nat → Int32, ∃ fw1 : Nat → Int32, ∃ fv1 : Nat → Int32, ∃ fk1 : Nat → Int32, ∃ fp1 : Nat → Int32, zv = none ∧ zV = gv_up (gv_up (gv_up (gv_up (gv_up (gv_up V wr (.inl (cI, 57600, .inl fr1))) wc (.inl (cI, 120, .inl fc1))) wn (.inl (cI, 6, .inl fw1))) wv (.inl (cI, 30, .inl fv1))) wk (.inl (cI, 80, .inl fk1))) wp (.inl (cI, 80, .inl fp1)) ∧ (MTb (cap (patL T (nI g) ps pp po)) (fc1 (4 * i + g)) (tbl fr1 (4 * i + g))) ∧ (Kp (4 * i + g) fc fr fc1 fr1)) := by
  refine ct_of "AlgebraTreeModel" rfl (by decide) (Nat.le_of_ble_eq_true rfl) ?_
  intro zp ze zs zm zargs zbelow zmeth zc C zr zlk znm
  refine k_pc (pc' := 0) (st' := []) rfl rfl ?_
  show K zp zl ze (gv_rm 5 0 0) zs zm zargs zbelow zmeth zc D base 11 (gv_E D [(cI, .int), (cN, .object "AlgebraTree$Node"), (cR, .object "AlgebraTree$Rows")] base zbelow zargs zs 0 0 (fun zv zV => ∃ fr1 : Nat → Int32, ∃ fc1 : Nat → Int32, ∃ fw1 : Nat → Int32, ∃ fv1 : Nat → Int32, ∃ fk1 : Nat → Int32, ∃ fp1 : Nat → Int32, zv = none ∧ zV = gv_up (gv_up (gv_up (gv_up (gv_up (gv_up V wr (.inl (cI, 57600, .inl fr1))) wc (.inl (cI, 120, .inl fc1))) wn (.inl (cI, 6, .inl fw1))) wv (.inl (cI, 30, .inl fv1))) wk (.inl (cI, 80, .inl fk1))) wp (.inl (cI, 80, .inl fp1)) ∧ (MTb (cap (patL T (nI g) ps pp po)) (fc1 (4 * i + g)) (tbl fr1 (4 * i + g))) ∧ (Kp (4 * i + g) fc fr fc1 fr1))) V 0 0 [(0, .ref m), (1, .int (nI i)), (2, .int (nI g))] 0 []
  refine k_bipush (v := nI 6) C dX7_reckon_0 rfl ?_
  refine k_iload_n C dX7_reckon_2 rfl 1 rfl ?_
  refine k_imul C dX7_reckon_3 ?_
  refine k_val (y := nI (6 * i)) (pk_mul 6 i) ?_
  refine k_istore_n (lv' := [(3, .int (nI (6 * i))), (0, .ref m), (1, .int (nI i)), (2, .int (nI g))]) C dX7_reckon_4 rfl (by decide) rfl ?_
  refine k_aload_n C dX7_reckon_5 rfl 1 rfl ?_
  refine k_get (ci := 7) (k := 6) C fl_7_19 h_m rfl dX7_reckon_6 ?_
  refine k_iload_n C dX7_reckon_9 rfl 0 rfl ?_
  refine k_iald (v := fm (6 * i)) C 0 h_wm rfl (vp_in_nI (by omega) (by omega)) (by rw [nI_clamp (by omega)]) dX7_reckon_10 ?_
  refine k_val (y := nI 0) hm0 ?_
  refine k_istore (lv' := [(4, .int (nI 0)), (3, .int (nI (6 * i))), (0, .ref m), (1, .int (nI i)), (2, .int (nI g))]) C dX7_reckon_11 (by decide) rfl ?_
  refine k_aload_n C dX7_reckon_13 rfl 2 rfl ?_
  refine k_get (ci := 7) (k := 6) C fl_7_19 h_m rfl dX7_reckon_14 ?_
  refine k_iload_n C dX7_reckon_17 rfl 1 rfl ?_
  refine k_iconst (v := nI 1) C dX7_reckon_18 rfl ?_
  refine k_iadd C dX7_reckon_19 ?_
  refine k_val (y := nI ((6 * i) + 1)) (nI_add (6 * i) 1) ?_
  refine k_iald (v := fm ((6 * i) + 1)) C 0 h_wm rfl (vp_in_nI (by omega) (by omega)) (by rw [nI_clamp (by omega)]) dX7_reckon_20 ?_
  refine k_istore (lv' := [(5, .int (fm ((6 * i) + 1))), (4, .int (nI 0)), (3, .int (nI (6 * i))), (0, .ref m), (1, .int (nI i)), (2, .int (nI g))]) C dX7_reckon_21 (by decide) rfl ?_
  refine k_aload_n C dX7_reckon_23 rfl 3 rfl ?_
  refine k_get (ci := 7) (k := 6) C fl_7_19 h_m rfl dX7_reckon_24 ?_
  refine k_iload_n C dX7_reckon_27 rfl 2 rfl ?_
  refine k_iconst (v := nI 2) C dX7_reckon_28 rfl ?_
  refine k_iadd C dX7_reckon_29 ?_
  refine k_val (y := nI ((6 * i) + 2)) (nI_add (6 * i) 2) ?_
  refine k_iald (v := fm ((6 * i) + 2)) C 0 h_wm rfl (vp_in_nI (by omega) (by omega)) (by rw [nI_clamp (by omega)]) dX7_reckon_30 ?_
  refine k_istore (lv' := [(6, .int (fm ((6 * i) + 2))), (5, .int (fm ((6 * i) + 1))), (4, .int (nI 0)), (3, .int (nI (6 * i))), (0, .ref m), (1, .int (nI i)), (2, .int (nI g))]) C dX7_reckon_31 (by decide) rfl ?_
  refine k_iload_n C dX7_reckon_33 rfl 5 rfl ?_
  refine k_iload_n C dX7_reckon_34 rfl 6 rfl ?_
  refine k_callS_pi C ms_7_140 (c_X7_table   ) rfl rfl (by simp [Value.category]) ⟨Nat.le_of_ble_eq_true rfl, Nat.le_of_ble_eq_true rfl⟩ ⟨(by decide), (by decide)⟩ dX7_reckon_35 ?_
  refine k_istore (lv' := [(7, .int (nI (4 * i + g))), (6, .int (fm ((6 * i) + 2))), (5, .int (fm ((6 * i) + 1))), (4, .int (nI 0)), (3, .int (nI (6 * i))), (0, .ref m), (1, .int (nI i)), (2, .int (nI g))]) C dX7_reckon_38 (by decide) rfl ?_
  refine k_aload_n C dX7_reckon_40 rfl 5 rfl ?_
  refine k_get (ci := 7) (k := 9) C fl_7_26 h_m rfl dX7_reckon_41 ?_
  refine k_iload C dX7_reckon_44 0 rfl ?_
  refine k_iconst (v := nI 0) C dX7_reckon_46 rfl ?_
  refine k_iast (f' := upd fc (4 * i + g) (nI 0)) C 0 h_wc rfl (vp_in_nI (by omega) (by omega)) (by rw [nI_clamp (by omega)]) dX7_reckon_47 ?_
  have hc0 : upd fc (4 * i + g) (nI 0) (4 * i + g) = 0 := upd_at
  refine k_iload C dX7_reckon_48 3 rfl ?_
  refine k_if_ne (tgt := 62) C dX7_reckon_50 (by decide) (fun c50 => ?_) (fun c50 => ?_)
  · exact absurd c50 (by decide)
  · skip
    have b50 : 0 = 0 := (nI_eq (a := 0) (b := 0) (by omega) (by omega)).mp c50
    refine k_aload_n C dX7_reckon_53 rfl 5 rfl ?_
    refine k_iload C dX7_reckon_54 0 rfl ?_
    refine k_iload_n C dX7_reckon_56 rfl 7 rfl ?_
    refine k_iload_n C dX7_reckon_57 rfl 4 rfl ?_
    have ne1 : nq m wc := gv_ne h_wc h_m (by simp)
    have ne2 : nq wr wc := gv_ne h_wc h_wr (by simp)
    have ne3 : nq wn wc := gv_ne h_wc h_wn (by simp)
    have ne4 : nq wt wc := gv_ne h_wc h_wt (by simp)
    have ne5 : nq wm wc := gv_ne h_wc h_wm (by simp)
    refine k_callV C mv_7_144 (c_X7_reckonPattern  ((gv_up_n ne1).trans h_m) ((gv_up_n ne2).trans h_wr) gv_up_s ((gv_up_n ne3).trans h_wn) ((gv_up_n ne4).trans h_wt) ((gv_up_n ne5).trans h_wm) (by first | assumption | omega) (by first | assumption | omega) (by first | assumption | omega) (by first | assumption | omega) (by first | assumption | omega) (by first | assumption | omega) (by first | assumption | omega) (by first | assumption | omega) (by first | assumption | omega) (by first | assumption | omega)) ((gv_up_n ne1).trans h_m) rfl rfl (by simp [Value.category]) ⟨Nat.le_of_ble_eq_true rfl, Nat.le_of_ble_eq_true rfl⟩ ⟨(by decide), (by decide)⟩ dX7_reckon_58 (fun zv zV zh => ?_)
    obtain ⟨fr1_w6, fc1_w6, fw1_w6, rfl, rfl, hR1_w6, hK1_w6⟩ := zh
    refine k_pc (pc' := 61) (st' := []) rfl rfl ?_
    refine k_view (V1 := gv_up (gv_up (gv_up V wc (.inl (cI, 120, .inl fc1_w6))) wr (.inl (cI, 57600, .inl fr1_w6))) wn (.inl (cI, 6, .inl fw1_w6))) (congrArg (fun W => gv_up W wn (.inl (cI, 6, .inl fw1_w6))) ((gv_uc (Ne.symm ne2)).trans (congrArg (fun W => gv_up W wr (.inl (cI, 57600, .inl fr1_w6))) gv_uu))) ?_
    have ne7 : nq wv wc := gv_ne h_wc h_wv (by simp)
    have ne8 : nq wv wr := gv_ne h_wr h_wv (by simp)
    have ne9 : nq wv wn := gv_ne h_wn h_wv (by simp)
    refine k_view (V1 := gv_up (gv_up (gv_up (gv_up V wc (.inl (cI, 120, .inl fc1_w6))) wr (.inl (cI, 57600, .inl fr1_w6))) wn (.inl (cI, 6, .inl fw1_w6))) wv (.inl (cI, 30, .inl fv))) (gv_id ((gv_up_n ne9).trans ((gv_up_n ne8).trans ((gv_up_n ne7).trans h_wv)))).symm ?_
    have ne10 : nq wk wc := gv_ne h_wc h_wk (by simp)
    have ne11 : nq wk wr := gv_ne h_wr h_wk (by simp)
    have ne12 : nq wk wn := gv_ne h_wn h_wk (by simp)
    have ne13 : nq wk wv := gv_ne h_wv h_wk (by simp)
    refine k_view (V1 := gv_up (gv_up (gv_up (gv_up (gv_up V wc (.inl (cI, 120, .inl fc1_w6))) wr (.inl (cI, 57600, .inl fr1_w6))) wn (.inl (cI, 6, .inl fw1_w6))) wv (.inl (cI, 30, .inl fv))) wk (.inl (cI, 80, .inl fk))) (gv_id ((gv_up_n ne13).trans ((gv_up_n ne12).trans ((gv_up_n ne11).trans ((gv_up_n ne10).trans h_wk))))).symm ?_
    have ne14 : nq wp wc := gv_ne h_wc h_wp (by simp)
    have ne15 : nq wp wr := gv_ne h_wr h_wp (by simp)
    have ne16 : nq wp wn := gv_ne h_wn h_wp (by simp)
    have ne17 : nq wp wv := gv_ne h_wv h_wp (by simp)
    refine k_view (V1 := gv_up (gv_up (gv_up (gv_up (gv_up (gv_up V wc (.inl (cI, 120, .inl fc1_w6))) wr (.inl (cI, 57600, .inl fr1_w6))) wn (.inl (cI, 6, .inl fw1_w6))) wv (.inl (cI, 30, .inl fv))) wk (.inl (cI, 80, .inl fk))) wp (.inl (cI, 80, .inl fp))) (gv_id ((gv_up_n (Ne.symm hwkp)).trans ((gv_up_n ne17).trans ((gv_up_n ne16).trans ((gv_up_n ne15).trans ((gv_up_n ne14).trans h_wp)))))).symm ?_
    refine k_view (V1 := gv_up (gv_up (gv_up (gv_up (gv_up (gv_up V wr (.inl (cI, 57600, .inl fr1_w6))) wc (.inl (cI, 120, .inl fc1_w6))) wn (.inl (cI, 6, .inl fw1_w6))) wv (.inl (cI, 30, .inl fv))) wk (.inl (cI, 80, .inl fk))) wp (.inl (cI, 80, .inl fp))) (congrArg (fun W => gv_up W wp (.inl (cI, 80, .inl fp))) (congrArg (fun W => gv_up W wk (.inl (cI, 80, .inl fk))) (congrArg (fun W => gv_up W wv (.inl (cI, 30, .inl fv))) (congrArg (fun W => gv_up W wn (.inl (cI, 6, .inl fw1_w6))) (gv_uc ne2))))) ?_
    exact k_vret C zr zlk ⟨fr1_w6, fc1_w6, fw1_w6, fv, fk, fp, rfl, rfl, (MRep.tb hR1_w6), (Kp.up.tr hK1_w6)⟩ (Nat.le_refl _) (Nat.le_refl _) dX7_reckon_61
set_option maxHeartbeats 4000000 in
set_option maxRecDepth 100000 in
theorem c_reckon1 {zl : Launch} {D : va_G} {cI cN cR : ClassId} {base : Nat} {V : gv_V} {m wt wa wv wm wr wc wn ws wk wp nt ne nn sh : Nat} {kn : Int32} {ft fa fv fm fr fc fw fk fp : Nat → Int32} {i g a b : Nat} {S : Nat → Nat → Option (List Row)}  (h_m : V m = some (.inr (7, [.int (nI nt), .ref wt, .int (nI ne), .ref wa, .ref wv, .int (nI nn), .ref wm, .int kn, .ref wr, .ref wc, .ref wn, .int (nI sh), .ref ws, .ref wk, .ref wp]))) (h_wr : V wr = some (.inl (cI, 57600, .inl fr))) (h_wc : V wc = some (.inl (cI, 120, .inl fc))) (h_wn : V wn = some (.inl (cI, 6, .inl fw))) (h_wv : V wv = some (.inl (cI, 30, .inl fv))) (h_wk : V wk = some (.inl (cI, 80, .inl fk))) (h_wp : V wp = some (.inl (cI, 80, .inl fp))) (h_wa : V wa = some (.inl (cI, 90, .inl fa))) (h_wm : V wm = some (.inl (cI, 180, .inl fm))) (h_wt : V wt = some (.inl (cI, 240, .inl ft))) (hi : i < 30) (hg : g < 4) (hm0 : fm (6 * i) = nI 1) (hwkp : nq wk wp) (hm1 : fm (6 * i + 1) = nI a) (ha : a < i) (hm2 : fm (6 * i + 2) = nI b) (hb : b < i) (hS : ∀ j z1, j < i → z1 < 4 → MTb (S j z1) (fc (4 * j + z1)) (tbl fr (4 * j + z1))) : ct zl D [(cI, .int), (cN, .object "AlgebraTree$Node"), (cR, .object "AlgebraTree$Rows")] base yX7_reckon cX7_reckon 11 none 5 0 0 [.ref m, .int (nI i), .int (nI g)] V (fun zv zV => ∃ fr1 : Nat → Int32, ∃ fc1 : Nat → Int32, ∃ fw1 : Nat → Int32, ∃ fv1 : Nat → Int32, ∃ fk1 : Nat → Int32, ∃ fp1 : Nat → Int32, zv = none ∧ zV = gv_up (gv_up (gv_up (gv_up (gv_up (gv_up V wr (.inl (cI, 57600, .inl fr1))) wc (.inl (cI, 120, .inl fc1))) wn (.inl (cI, 6, .inl fw1))) wv (.inl (cI, 30, .inl fv1))) wk (.inl (cI, 80, .inl fk1))) wp (.inl (cI, 80, .inl fp1)) ∧ (MTb ((S a g).bind (fun A => (S b g).bind (fun B => cap (joinL A B)))) (fc1 (4 * i + g)) (tbl fr1 (4 * i + g))) ∧ (Kp (4 * i + g) fc fr fc1 fr1)) := by
  refine ct_of "AlgebraTreeModel" rfl (by decide) (Nat.le_of_ble_eq_true rfl) ?_
  intro zp ze zs zm zargs zbelow zmeth zc C zr zlk znm
  refine k_pc (pc' := 0) (st' := []) rfl rfl ?_
  show K zp zl ze (gv_rm 5 0 0) zs zm zargs zbelow zmeth zc D base 11 (gv_E D [(cI, .int), (cN, .object "AlgebraTree$Node"), (cR, .object "AlgebraTree$Rows")] base zbelow zargs zs 0 0 (fun zv zV => ∃ fr1 : Nat → Int32, ∃ fc1 : Nat → Int32, ∃ fw1 : Nat → Int32, ∃ fv1 : Nat → Int32, ∃ fk1 : Nat → Int32, ∃ fp1 : Nat → Int32, zv = none ∧ zV = gv_up (gv_up (gv_up (gv_up (gv_up (gv_up V wr (.inl (cI, 57600, .inl fr1))) wc (.inl (cI, 120, .inl fc1))) wn (.inl (cI, 6, .inl fw1))) wv (.inl (cI, 30, .inl fv1))) wk (.inl (cI, 80, .inl fk1))) wp (.inl (cI, 80, .inl fp1)) ∧ (MTb ((S a g).bind (fun A => (S b g).bind (fun B => cap (joinL A B)))) (fc1 (4 * i + g)) (tbl fr1 (4 * i + g))) ∧ (Kp (4 * i + g) fc fr fc1 fr1))) V 0 0 [(0, .ref m), (1, .int (nI i)), (2, .int (nI g))] 0 []
  refine k_bipush (v := nI 6) C dX7_reckon_0 rfl ?_
  refine k_iload_n C dX7_reckon_2 rfl 1 rfl ?_
  refine k_imul C dX7_reckon_3 ?_
  refine k_val (y := nI (6 * i)) (pk_mul 6 i) ?_
  refine k_istore_n (lv' := [(3, .int (nI (6 * i))), (0, .ref m), (1, .int (nI i)), (2, .int (nI g))]) C dX7_reckon_4 rfl (by decide) rfl ?_
  refine k_aload_n C dX7_reckon_5 rfl 1 rfl ?_
  refine k_get (ci := 7) (k := 6) C fl_7_19 h_m rfl dX7_reckon_6 ?_
  refine k_iload_n C dX7_reckon_9 rfl 0 rfl ?_
  refine k_iald (v := fm (6 * i)) C 0 h_wm rfl (vp_in_nI (by omega) (by omega)) (by rw [nI_clamp (by omega)]) dX7_reckon_10 ?_
  refine k_val (y := nI 1) hm0 ?_
  refine k_istore (lv' := [(4, .int (nI 1)), (3, .int (nI (6 * i))), (0, .ref m), (1, .int (nI i)), (2, .int (nI g))]) C dX7_reckon_11 (by decide) rfl ?_
  refine k_aload_n C dX7_reckon_13 rfl 2 rfl ?_
  refine k_get (ci := 7) (k := 6) C fl_7_19 h_m rfl dX7_reckon_14 ?_
  refine k_iload_n C dX7_reckon_17 rfl 1 rfl ?_
  refine k_iconst (v := nI 1) C dX7_reckon_18 rfl ?_
  refine k_iadd C dX7_reckon_19 ?_
  refine k_val (y := nI ((6 * i) + 1)) (nI_add (6 * i) 1) ?_
  refine k_iald (v := fm ((6 * i) + 1)) C 0 h_wm rfl (vp_in_nI (by omega) (by omega)) (by rw [nI_clamp (by omega)]) dX7_reckon_20 ?_
  refine k_val (y := nI a) hm1 ?_
  refine k_istore (lv' := [(5, .int (nI a)), (4, .int (nI 1)), (3, .int (nI (6 * i))), (0, .ref m), (1, .int (nI i)), (2, .int (nI g))]) C dX7_reckon_21 (by decide) rfl ?_
  refine k_aload_n C dX7_reckon_23 rfl 3 rfl ?_
  refine k_get (ci := 7) (k := 6) C fl_7_19 h_m rfl dX7_reckon_24 ?_
  refine k_iload_n C dX7_reckon_27 rfl 2 rfl ?_
  refine k_iconst (v := nI 2) C dX7_reckon_28 rfl ?_
  refine k_iadd C dX7_reckon_29 ?_
  refine k_val (y := nI ((6 * i) + 2)) (nI_add (6 * i) 2) ?_
  refine k_iald (v := fm ((6 * i) + 2)) C 0 h_wm rfl (vp_in_nI (by omega) (by omega)) (by rw [nI_clamp (by omega)]) dX7_reckon_30 ?_
  refine k_val (y := nI b) hm2 ?_
  refine k_istore (lv' := [(6, .int (nI b)), (5, .int (nI a)), (4, .int (nI 1)), (3, .int (nI (6 * i))), (0, .ref m), (1, .int (nI i)), (2, .int (nI g))]) C dX7_reckon_31 (by decide) rfl ?_
  refine k_iload_n C dX7_reckon_33 rfl 5 rfl ?_
  refine k_iload_n C dX7_reckon_34 rfl 6 rfl ?_
  refine k_callS_pi C ms_7_140 (c_X7_table   ) rfl rfl (by simp [Value.category]) ⟨Nat.le_of_ble_eq_true rfl, Nat.le_of_ble_eq_true rfl⟩ ⟨(by decide), (by decide)⟩ dX7_reckon_35 ?_
  refine k_istore (lv' := [(7, .int (nI (4 * i + g))), (6, .int (nI b)), (5, .int (nI a)), (4, .int (nI 1)), (3, .int (nI (6 * i))), (0, .ref m), (1, .int (nI i)), (2, .int (nI g))]) C dX7_reckon_38 (by decide) rfl ?_
  refine k_aload_n C dX7_reckon_40 rfl 5 rfl ?_
  refine k_get (ci := 7) (k := 9) C fl_7_26 h_m rfl dX7_reckon_41 ?_
  refine k_iload C dX7_reckon_44 0 rfl ?_
  refine k_iconst (v := nI 0) C dX7_reckon_46 rfl ?_
  refine k_iast (f' := upd fc (4 * i + g) (nI 0)) C 0 h_wc rfl (vp_in_nI (by omega) (by omega)) (by rw [nI_clamp (by omega)]) dX7_reckon_47 ?_
  have hS0 : ∀ j z, j < i → z < 4 → MTb (S j z) (upd fc (4 * i + g) (nI 0) (4 * j + z)) (tbl fr (4 * j + z)) := fun j z hj hz => (hS j z hj hz).up (by omega)
  have hc0 : upd fc (4 * i + g) (nI 0) (4 * i + g) = 0 := upd_at
  refine k_iload C dX7_reckon_48 3 rfl ?_
  refine k_if_ne (tgt := 62) C dX7_reckon_50 (by decide) (fun c50 => ?_) (fun c50 => ?_)
  · skip
    have b50 : ¬ 1 = 0 := fun z => c50 ((nI_eq (a := 1) (b := 0) (by omega) (by omega)).mpr z)
    refine k_iload C dX7_reckon_62 3 rfl ?_
    refine k_iconst (v := nI 1) C dX7_reckon_64 rfl ?_
    refine k_icmp_lt (tgt := 78) C dX7_reckon_65 (by decide) (fun c65 => ?_) (fun c65 => ?_)
    · exact absurd c65 (by decide)
    · skip
      have b65 : ¬ 1 < 1 := fun z => c65 ((nI_ltI (a := 1) (b := 1) (by omega) (by omega)).mpr z)
      refine k_iload C dX7_reckon_68 3 rfl ?_
      refine k_iconst (v := nI 4) C dX7_reckon_70 rfl ?_
      refine k_icmp_gt (tgt := 78) C dX7_reckon_71 (by decide) (fun c71 => ?_) (fun c71 => ?_)
      · exact absurd c71 (by decide)
      · skip
        have b71 : ¬ 4 < 1 := fun z => c71 ((nI_ltI (a := 4) (b := 1) (by omega) (by omega)).mpr z)
        refine k_iconst (v := nI 1) C dX7_reckon_74 rfl ?_
        refine k_goto (tgt := 79) C dX7_reckon_75 (by decide) ?_
        refine k_istore (lv' := [(8, .int (nI 1)), (7, .int (nI (4 * i + g))), (6, .int (nI b)), (5, .int (nI a)), (4, .int (nI 1)), (3, .int (nI (6 * i))), (0, .ref m), (1, .int (nI i)), (2, .int (nI g))]) C dX7_reckon_79 (by decide) rfl ?_
        refine k_iload C dX7_reckon_81 4 rfl ?_
        refine k_bipush (v := nI 12) C dX7_reckon_83 rfl ?_
        refine k_icmp_ne (tgt := 99) C dX7_reckon_85 (by decide) (fun c85 => ?_) (fun c85 => ?_)
        · skip
          have b85 : ¬ 1 = 12 := fun z => c85 ((nI_eq (a := 1) (b := 12) (by omega) (by omega)).mpr z)
          refine k_iload C dX7_reckon_99 4 rfl ?_
          refine k_bipush (v := nI 13) C dX7_reckon_101 rfl ?_
          refine k_icmp_ne (tgt := 144) C dX7_reckon_103 (by decide) (fun c103 => ?_) (fun c103 => ?_)
          · skip
            have b103 : ¬ 1 = 13 := fun z => c103 ((nI_eq (a := 1) (b := 13) (by omega) (by omega)).mpr z)
            refine k_aload_n C dX7_reckon_144 rfl 6 rfl ?_
            refine k_iload C dX7_reckon_145 3 rfl ?_
            refine k_iload_n C dX7_reckon_147 rfl 8 rfl ?_
            have ne1 : nq m wc := gv_ne h_wc h_m (by simp)
            refine k_callV_pi C mv_7_148 (c_X7_isLong  ((gv_up_n ne1).trans h_m) gv_up_s (by omega) (by omega) (hS0 a g (by omega) (by omega))) ((gv_up_n ne1).trans h_m) rfl rfl (by simp [Value.category]) ⟨Nat.le_of_ble_eq_true rfl, Nat.le_of_ble_eq_true rfl⟩ ⟨(by decide), (by decide)⟩ dX7_reckon_148 ?_
            refine k_if_ne (tgt := 169) C dX7_reckon_151 (by decide) (fun c151 => ?_) (fun c151 => ?_)
            · skip
              have b151 : ((S a g).isNone) = true := bI_n.mp c151
              refine k_iconst (v := nI 1) C dX7_reckon_169 rfl ?_
              refine k_goto (tgt := 174) C dX7_reckon_170 (by decide) ?_
              refine k_istore (lv' := [(9, .int (nI 1)), (8, .int (nI 1)), (7, .int (nI (4 * i + g))), (6, .int (nI b)), (5, .int (nI a)), (4, .int (nI 1)), (3, .int (nI (6 * i))), (0, .ref m), (1, .int (nI i)), (2, .int (nI g))]) C dX7_reckon_174 (by decide) rfl ?_
              refine k_iload C dX7_reckon_176 0 rfl ?_
              refine k_if_eq (tgt := 191) C dX7_reckon_178 (by decide) (fun c178 => ?_) (fun c178 => ?_)
              · exact absurd c178 (by decide)
              · skip
                have b178 : ¬ 1 = 0 := fun z => c178 ((nI_eq (a := 1) (b := 0) (by omega) (by omega)).mpr z)
                refine k_aload_n C dX7_reckon_181 rfl 7 rfl ?_
                refine k_get (ci := 7) (k := 9) C fl_7_26 ((gv_up_n ne1).trans h_m) rfl dX7_reckon_182 ?_
                refine k_iload C dX7_reckon_185 2 rfl ?_
                refine k_bipush (v := (-2 : Int32)) C dX7_reckon_187 (by decide) ?_
                refine k_iast (f' := upd (upd fc (4 * i + g) (nI 0)) (4 * i + g) (-2 : Int32)) C 0 gv_up_s rfl (vp_in_nI (by omega) (by omega)) (by rw [nI_clamp (by omega)]) dX7_reckon_189 ?_
                refine k_view (V1 := gv_up V wc (.inl (cI, 120, .inl (upd (upd fc (4 * i + g) (nI 0)) (4 * i + g) (-2 : Int32))))) gv_uu ?_
                have ne2 : nq wr wc := gv_ne h_wc h_wr (by simp)
                refine k_view (V1 := gv_up (gv_up V wc (.inl (cI, 120, .inl (upd (upd fc (4 * i + g) (nI 0)) (4 * i + g) (-2 : Int32))))) wr (.inl (cI, 57600, .inl fr))) (gv_id ((gv_up_n ne2).trans h_wr)).symm ?_
                have ne3 : nq wn wc := gv_ne h_wc h_wn (by simp)
                have ne4 : nq wn wr := gv_ne h_wr h_wn (by simp)
                refine k_view (V1 := gv_up (gv_up (gv_up V wc (.inl (cI, 120, .inl (upd (upd fc (4 * i + g) (nI 0)) (4 * i + g) (-2 : Int32))))) wr (.inl (cI, 57600, .inl fr))) wn (.inl (cI, 6, .inl fw))) (gv_id ((gv_up_n ne4).trans ((gv_up_n ne3).trans h_wn))).symm ?_
                have ne5 : nq wv wc := gv_ne h_wc h_wv (by simp)
                have ne6 : nq wv wr := gv_ne h_wr h_wv (by simp)
                have ne7 : nq wv wn := gv_ne h_wn h_wv (by simp)
                refine k_view (V1 := gv_up (gv_up (gv_up (gv_up V wc (.inl (cI, 120, .inl (upd (upd fc (4 * i + g) (nI 0)) (4 * i + g) (-2 : Int32))))) wr (.inl (cI, 57600, .inl fr))) wn (.inl (cI, 6, .inl fw))) wv (.inl (cI, 30, .inl fv))) (gv_id ((gv_up_n ne7).trans ((gv_up_n ne6).trans ((gv_up_n ne5).trans h_wv)))).symm ?_
                have ne8 : nq wk wc := gv_ne h_wc h_wk (by simp)
                have ne9 : nq wk wr := gv_ne h_wr h_wk (by simp)
                have ne10 : nq wk wn := gv_ne h_wn h_wk (by simp)
                have ne11 : nq wk wv := gv_ne h_wv h_wk (by simp)
                refine k_view (V1 := gv_up (gv_up (gv_up (gv_up (gv_up V wc (.inl (cI, 120, .inl (upd (upd fc (4 * i + g) (nI 0)) (4 * i + g) (-2 : Int32))))) wr (.inl (cI, 57600, .inl fr))) wn (.inl (cI, 6, .inl fw))) wv (.inl (cI, 30, .inl fv))) wk (.inl (cI, 80, .inl fk))) (gv_id ((gv_up_n ne11).trans ((gv_up_n ne10).trans ((gv_up_n ne9).trans ((gv_up_n ne8).trans h_wk))))).symm ?_
                have ne12 : nq wp wc := gv_ne h_wc h_wp (by simp)
                have ne13 : nq wp wr := gv_ne h_wr h_wp (by simp)
                have ne14 : nq wp wn := gv_ne h_wn h_wp (by simp)
                have ne15 : nq wp wv := gv_ne h_wv h_wp (by simp)
                refine k_view (V1 := gv_up (gv_up (gv_up (gv_up (gv_up (gv_up V wc (.inl (cI, 120, .inl (upd (upd fc (4 * i + g) (nI 0)) (4 * i + g) (-2 : Int32))))) wr (.inl (cI, 57600, .inl fr))) wn (.inl (cI, 6, .inl fw))) wv (.inl (cI, 30, .inl fv))) wk (.inl (cI, 80, .inl fk))) wp (.inl (cI, 80, .inl fp))) (gv_id ((gv_up_n (Ne.symm hwkp)).trans ((gv_up_n ne15).trans ((gv_up_n ne14).trans ((gv_up_n ne13).trans ((gv_up_n ne12).trans h_wp)))))).symm ?_
                refine k_view (V1 := gv_up (gv_up (gv_up (gv_up (gv_up (gv_up V wr (.inl (cI, 57600, .inl fr))) wc (.inl (cI, 120, .inl (upd (upd fc (4 * i + g) (nI 0)) (4 * i + g) (-2 : Int32))))) wn (.inl (cI, 6, .inl fw))) wv (.inl (cI, 30, .inl fv))) wk (.inl (cI, 80, .inl fk))) wp (.inl (cI, 80, .inl fp))) (congrArg (fun W => gv_up W wp (.inl (cI, 80, .inl fp))) (congrArg (fun W => gv_up W wk (.inl (cI, 80, .inl fk))) (congrArg (fun W => gv_up W wv (.inl (cI, 30, .inl fv))) (congrArg (fun W => gv_up W wn (.inl (cI, 6, .inl fw))) (gv_uc ne2))))) ?_
                exact k_vret C zr zlk ⟨fr, upd (upd fc (4 * i + g) (nI 0)) (4 * i + g) (-2 : Int32), fw, fv, fk, fp, rfl, rfl, (MTb.no (by rw [isN0 b151]; rfl) upd_at), (Kp.up.tr Kp.up)⟩ (Nat.le_refl _) (Nat.le_refl _) dX7_reckon_190
            · skip
              have b151 : ((S a g).isNone) = false := bI_0.mp c151
              obtain ⟨A, eA⟩ := isN b151
              obtain ⟨hcA, hA⟩ := (hS0 a g ha (by omega)).sm eA
              refine k_iload C dX7_reckon_154 0 rfl ?_
              refine k_if_eq (tgt := 173) C dX7_reckon_156 (by decide) (fun c156 => ?_) (fun c156 => ?_)
              · exact absurd c156 (by decide)
              · skip
                have b156 : ¬ 1 = 0 := fun z => c156 ((nI_eq (a := 1) (b := 0) (by omega) (by omega)).mpr z)
                refine k_aload_n C dX7_reckon_159 rfl 6 rfl ?_
                refine k_iload C dX7_reckon_160 2 rfl ?_
                refine k_iload_n C dX7_reckon_162 rfl 8 rfl ?_
                refine k_callV_pi C mv_7_148 (c_X7_isLong  ((gv_up_n ne1).trans h_m) gv_up_s (by omega) (by omega) (hS0 b g (by omega) (by omega))) ((gv_up_n ne1).trans h_m) rfl rfl (by simp [Value.category]) ⟨Nat.le_of_ble_eq_true rfl, Nat.le_of_ble_eq_true rfl⟩ ⟨(by decide), (by decide)⟩ dX7_reckon_163 ?_
                refine k_if_eq (tgt := 173) C dX7_reckon_166 (by decide) (fun c166 => ?_) (fun c166 => ?_)
                · skip
                  have b166 : ((S b g).isNone) = false := bI_0.mp c166
                  obtain ⟨B, eB⟩ := isN b166
                  obtain ⟨hcB, hB⟩ := (hS0 b g hb (by omega)).sm eB
                  refine k_iconst (v := nI 0) C dX7_reckon_173 rfl ?_
                  refine k_istore (lv' := [(9, .int (nI 0)), (8, .int (nI 1)), (7, .int (nI (4 * i + g))), (6, .int (nI b)), (5, .int (nI a)), (4, .int (nI 1)), (3, .int (nI (6 * i))), (0, .ref m), (1, .int (nI i)), (2, .int (nI g))]) C dX7_reckon_174 (by decide) rfl ?_
                  refine k_iload C dX7_reckon_176 0 rfl ?_
                  refine k_if_eq (tgt := 191) C dX7_reckon_178 (by decide) (fun c178 => ?_) (fun c178 => ?_)
                  · skip
                    have b178 : 0 = 0 := (nI_eq (a := 0) (b := 0) (by omega) (by omega)).mp c178
                    refine k_iload C dX7_reckon_191 4 rfl ?_
                    refine k_iload_n C dX7_reckon_193 rfl 9 rfl ?_
                    refine k_callS_pi C ms_7_140 (c_X7_table   ) rfl rfl (by simp [Value.category]) ⟨Nat.le_of_ble_eq_true rfl, Nat.le_of_ble_eq_true rfl⟩ ⟨(by decide), (by decide)⟩ dX7_reckon_194 ?_
                    refine k_istore (lv' := [(10, .int (nI (4 * a + g))), (9, .int (nI 0)), (8, .int (nI 1)), (7, .int (nI (4 * i + g))), (6, .int (nI b)), (5, .int (nI a)), (4, .int (nI 1)), (3, .int (nI (6 * i))), (0, .ref m), (1, .int (nI i)), (2, .int (nI g))]) C dX7_reckon_197 (by decide) rfl ?_
                    refine k_iload C dX7_reckon_199 6 rfl ?_
                    refine k_tableIn (tgt := 268) C dX7_reckon_201 (by decide) (by decide) rfl (by decide) ?_
                    refine k_aload_n C dX7_reckon_268 rfl 8 rfl ?_
                    refine k_iload C dX7_reckon_269 3 rfl ?_
                    refine k_iload C dX7_reckon_271 0 rfl ?_
                    refine k_iload C dX7_reckon_273 4 rfl ?_
                    refine k_iload_n C dX7_reckon_275 rfl 10 rfl ?_
                    refine k_callS_pi C ms_7_140 (c_X7_table   ) rfl rfl (by simp [Value.category]) ⟨Nat.le_of_ble_eq_true rfl, Nat.le_of_ble_eq_true rfl⟩ ⟨(by decide), (by decide)⟩ dX7_reckon_276 ?_
                    refine k_iconst (v := nI 0) C dX7_reckon_279 rfl ?_
                    refine k_iconst (v := (-1 : Int32)) C dX7_reckon_280 (by decide) ?_
                    have ne16 : nq wr wc := gv_ne h_wc h_wr (by simp)
                    have ne17 : nq wn wc := gv_ne h_wc h_wn (by simp)
                    refine k_callV C mv_7_151 (c_pairsJ  ((gv_up_n ne1).trans h_m) ((gv_up_n ne16).trans h_wr) gv_up_s ((gv_up_n ne17).trans h_wn) (by first | assumption | omega) (by first | assumption | omega) (by first | assumption | omega) (by first | assumption | omega) (by first | assumption | omega) (by first | assumption | omega) (by first | assumption | omega) (by first | assumption | omega) (by first | assumption | omega) (by first | assumption | omega)) ((gv_up_n ne1).trans h_m) rfl rfl (by simp [Value.category]) ⟨Nat.le_of_ble_eq_true rfl, Nat.le_of_ble_eq_true rfl⟩ ⟨(by decide), (by decide)⟩ dX7_reckon_281 (fun zv zV zh => ?_)
                    obtain ⟨fr1_w18, fc1_w18, fw1_w18, rfl, rfl, hR1_w18, hK1_w18⟩ := zh
                    refine k_pc (pc' := 284) (st' := []) rfl rfl ?_
                    refine k_view (V1 := gv_up (gv_up (gv_up V wc (.inl (cI, 120, .inl fc1_w18))) wr (.inl (cI, 57600, .inl fr1_w18))) wn (.inl (cI, 6, .inl fw1_w18))) (congrArg (fun W => gv_up W wn (.inl (cI, 6, .inl fw1_w18))) ((gv_uc (Ne.symm ne16)).trans (congrArg (fun W => gv_up W wr (.inl (cI, 57600, .inl fr1_w18))) gv_uu))) ?_
                    refine k_goto (tgt := 454) C dX7_reckon_284 (by decide) ?_
                    have ne19 : nq wv wc := gv_ne h_wc h_wv (by simp)
                    have ne20 : nq wv wr := gv_ne h_wr h_wv (by simp)
                    have ne21 : nq wv wn := gv_ne h_wn h_wv (by simp)
                    refine k_view (V1 := gv_up (gv_up (gv_up (gv_up V wc (.inl (cI, 120, .inl fc1_w18))) wr (.inl (cI, 57600, .inl fr1_w18))) wn (.inl (cI, 6, .inl fw1_w18))) wv (.inl (cI, 30, .inl fv))) (gv_id ((gv_up_n ne21).trans ((gv_up_n ne20).trans ((gv_up_n ne19).trans h_wv)))).symm ?_
                    have ne22 : nq wk wc := gv_ne h_wc h_wk (by simp)
                    have ne23 : nq wk wr := gv_ne h_wr h_wk (by simp)
                    have ne24 : nq wk wn := gv_ne h_wn h_wk (by simp)
                    have ne25 : nq wk wv := gv_ne h_wv h_wk (by simp)
                    refine k_view (V1 := gv_up (gv_up (gv_up (gv_up (gv_up V wc (.inl (cI, 120, .inl fc1_w18))) wr (.inl (cI, 57600, .inl fr1_w18))) wn (.inl (cI, 6, .inl fw1_w18))) wv (.inl (cI, 30, .inl fv))) wk (.inl (cI, 80, .inl fk))) (gv_id ((gv_up_n ne25).trans ((gv_up_n ne24).trans ((gv_up_n ne23).trans ((gv_up_n ne22).trans h_wk))))).symm ?_
                    have ne26 : nq wp wc := gv_ne h_wc h_wp (by simp)
                    have ne27 : nq wp wr := gv_ne h_wr h_wp (by simp)
                    have ne28 : nq wp wn := gv_ne h_wn h_wp (by simp)
                    have ne29 : nq wp wv := gv_ne h_wv h_wp (by simp)
                    refine k_view (V1 := gv_up (gv_up (gv_up (gv_up (gv_up (gv_up V wc (.inl (cI, 120, .inl fc1_w18))) wr (.inl (cI, 57600, .inl fr1_w18))) wn (.inl (cI, 6, .inl fw1_w18))) wv (.inl (cI, 30, .inl fv))) wk (.inl (cI, 80, .inl fk))) wp (.inl (cI, 80, .inl fp))) (gv_id ((gv_up_n (Ne.symm hwkp)).trans ((gv_up_n ne29).trans ((gv_up_n ne28).trans ((gv_up_n ne27).trans ((gv_up_n ne26).trans h_wp)))))).symm ?_
                    refine k_view (V1 := gv_up (gv_up (gv_up (gv_up (gv_up (gv_up V wr (.inl (cI, 57600, .inl fr1_w18))) wc (.inl (cI, 120, .inl fc1_w18))) wn (.inl (cI, 6, .inl fw1_w18))) wv (.inl (cI, 30, .inl fv))) wk (.inl (cI, 80, .inl fk))) wp (.inl (cI, 80, .inl fp))) (congrArg (fun W => gv_up W wp (.inl (cI, 80, .inl fp))) (congrArg (fun W => gv_up W wk (.inl (cI, 80, .inl fk))) (congrArg (fun W => gv_up W wv (.inl (cI, 30, .inl fv))) (congrArg (fun W => gv_up W wn (.inl (cI, 6, .inl fw1_w18))) (gv_uc ne16))))) ?_
                    exact k_vret C zr zlk ⟨fr1_w18, fc1_w18, fw1_w18, fv, fk, fp, rfl, rfl, (by rw [eA, eB]; exact (MRep.tb hR1_w18)), (Kp.up.tr hK1_w18)⟩ (Nat.le_refl _) (Nat.le_refl _) dX7_reckon_454
                  · exact absurd c178 (by decide)
                · skip
                  have b166 : ((S b g).isNone) = true := bI_n.mp c166
                  refine k_iconst (v := nI 1) C dX7_reckon_169 rfl ?_
                  refine k_goto (tgt := 174) C dX7_reckon_170 (by decide) ?_
                  refine k_istore (lv' := [(9, .int (nI 1)), (8, .int (nI 1)), (7, .int (nI (4 * i + g))), (6, .int (nI b)), (5, .int (nI a)), (4, .int (nI 1)), (3, .int (nI (6 * i))), (0, .ref m), (1, .int (nI i)), (2, .int (nI g))]) C dX7_reckon_174 (by decide) rfl ?_
                  refine k_iload C dX7_reckon_176 0 rfl ?_
                  refine k_if_eq (tgt := 191) C dX7_reckon_178 (by decide) (fun c178 => ?_) (fun c178 => ?_)
                  · exact absurd c178 (by decide)
                  · skip
                    have b178 : ¬ 1 = 0 := fun z => c178 ((nI_eq (a := 1) (b := 0) (by omega) (by omega)).mpr z)
                    refine k_aload_n C dX7_reckon_181 rfl 7 rfl ?_
                    refine k_get (ci := 7) (k := 9) C fl_7_26 ((gv_up_n ne1).trans h_m) rfl dX7_reckon_182 ?_
                    refine k_iload C dX7_reckon_185 2 rfl ?_
                    refine k_bipush (v := (-2 : Int32)) C dX7_reckon_187 (by decide) ?_
                    refine k_iast (f' := upd (upd fc (4 * i + g) (nI 0)) (4 * i + g) (-2 : Int32)) C 0 gv_up_s rfl (vp_in_nI (by omega) (by omega)) (by rw [nI_clamp (by omega)]) dX7_reckon_189 ?_
                    refine k_view (V1 := gv_up V wc (.inl (cI, 120, .inl (upd (upd fc (4 * i + g) (nI 0)) (4 * i + g) (-2 : Int32))))) gv_uu ?_
                    have ne30 : nq wr wc := gv_ne h_wc h_wr (by simp)
                    refine k_view (V1 := gv_up (gv_up V wc (.inl (cI, 120, .inl (upd (upd fc (4 * i + g) (nI 0)) (4 * i + g) (-2 : Int32))))) wr (.inl (cI, 57600, .inl fr))) (gv_id ((gv_up_n ne30).trans h_wr)).symm ?_
                    have ne31 : nq wn wc := gv_ne h_wc h_wn (by simp)
                    have ne32 : nq wn wr := gv_ne h_wr h_wn (by simp)
                    refine k_view (V1 := gv_up (gv_up (gv_up V wc (.inl (cI, 120, .inl (upd (upd fc (4 * i + g) (nI 0)) (4 * i + g) (-2 : Int32))))) wr (.inl (cI, 57600, .inl fr))) wn (.inl (cI, 6, .inl fw))) (gv_id ((gv_up_n ne32).trans ((gv_up_n ne31).trans h_wn))).symm ?_
                    have ne33 : nq wv wc := gv_ne h_wc h_wv (by simp)
                    have ne34 : nq wv wr := gv_ne h_wr h_wv (by simp)
                    have ne35 : nq wv wn := gv_ne h_wn h_wv (by simp)
                    refine k_view (V1 := gv_up (gv_up (gv_up (gv_up V wc (.inl (cI, 120, .inl (upd (upd fc (4 * i + g) (nI 0)) (4 * i + g) (-2 : Int32))))) wr (.inl (cI, 57600, .inl fr))) wn (.inl (cI, 6, .inl fw))) wv (.inl (cI, 30, .inl fv))) (gv_id ((gv_up_n ne35).trans ((gv_up_n ne34).trans ((gv_up_n ne33).trans h_wv)))).symm ?_
                    have ne36 : nq wk wc := gv_ne h_wc h_wk (by simp)
                    have ne37 : nq wk wr := gv_ne h_wr h_wk (by simp)
                    have ne38 : nq wk wn := gv_ne h_wn h_wk (by simp)
                    have ne39 : nq wk wv := gv_ne h_wv h_wk (by simp)
                    refine k_view (V1 := gv_up (gv_up (gv_up (gv_up (gv_up V wc (.inl (cI, 120, .inl (upd (upd fc (4 * i + g) (nI 0)) (4 * i + g) (-2 : Int32))))) wr (.inl (cI, 57600, .inl fr))) wn (.inl (cI, 6, .inl fw))) wv (.inl (cI, 30, .inl fv))) wk (.inl (cI, 80, .inl fk))) (gv_id ((gv_up_n ne39).trans ((gv_up_n ne38).trans ((gv_up_n ne37).trans ((gv_up_n ne36).trans h_wk))))).symm ?_
                    have ne40 : nq wp wc := gv_ne h_wc h_wp (by simp)
                    have ne41 : nq wp wr := gv_ne h_wr h_wp (by simp)
                    have ne42 : nq wp wn := gv_ne h_wn h_wp (by simp)
                    have ne43 : nq wp wv := gv_ne h_wv h_wp (by simp)
                    refine k_view (V1 := gv_up (gv_up (gv_up (gv_up (gv_up (gv_up V wc (.inl (cI, 120, .inl (upd (upd fc (4 * i + g) (nI 0)) (4 * i + g) (-2 : Int32))))) wr (.inl (cI, 57600, .inl fr))) wn (.inl (cI, 6, .inl fw))) wv (.inl (cI, 30, .inl fv))) wk (.inl (cI, 80, .inl fk))) wp (.inl (cI, 80, .inl fp))) (gv_id ((gv_up_n (Ne.symm hwkp)).trans ((gv_up_n ne43).trans ((gv_up_n ne42).trans ((gv_up_n ne41).trans ((gv_up_n ne40).trans h_wp)))))).symm ?_
                    refine k_view (V1 := gv_up (gv_up (gv_up (gv_up (gv_up (gv_up V wr (.inl (cI, 57600, .inl fr))) wc (.inl (cI, 120, .inl (upd (upd fc (4 * i + g) (nI 0)) (4 * i + g) (-2 : Int32))))) wn (.inl (cI, 6, .inl fw))) wv (.inl (cI, 30, .inl fv))) wk (.inl (cI, 80, .inl fk))) wp (.inl (cI, 80, .inl fp))) (congrArg (fun W => gv_up W wp (.inl (cI, 80, .inl fp))) (congrArg (fun W => gv_up W wk (.inl (cI, 80, .inl fk))) (congrArg (fun W => gv_up W wv (.inl (cI, 30, .inl fv))) (congrArg (fun W => gv_up W wn (.inl (cI, 6, .inl fw))) (gv_uc ne30))))) ?_
                    exact k_vret C zr zlk ⟨fr, upd (upd fc (4 * i + g) (nI 0)) (4 * i + g) (-2 : Int32), fw, fv, fk, fp, rfl, rfl, (MTb.no (by rw [isN0 b166]; cases S a g <;> rfl) upd_at), (Kp.up.tr Kp.up)⟩ (Nat.le_refl _) (Nat.le_refl _) dX7_reckon_190
          · exact absurd c103 (by decide)
        · exact absurd c85 (by decide)
  · exact absurd c50 (by decide)
set_option maxHeartbeats 4000000 in
set_option maxRecDepth 100000 in
theorem c_reckon2 {zl : Launch} {D : va_G} {cI cN cR : ClassId} {base : Nat} {V : gv_V} {m wt wa wv wm wr wc wn ws wk wp nt ne nn sh : Nat} {kn : Int32} {ft fa fv fm fr fc fw fk fp : Nat → Int32} {i g a b : Nat} {S : Nat → Nat → Option (List Row)}  (h_m : V m = some (.inr (7, [.int (nI nt), .ref wt, .int (nI ne), .ref wa, .ref wv, .int (nI nn), .ref wm, .int kn, .ref wr, .ref wc, .ref wn, .int (nI sh), .ref ws, .ref wk, .ref wp]))) (h_wr : V wr = some (.inl (cI, 57600, .inl fr))) (h_wc : V wc = some (.inl (cI, 120, .inl fc))) (h_wn : V wn = some (.inl (cI, 6, .inl fw))) (h_wv : V wv = some (.inl (cI, 30, .inl fv))) (h_wk : V wk = some (.inl (cI, 80, .inl fk))) (h_wp : V wp = some (.inl (cI, 80, .inl fp))) (h_wa : V wa = some (.inl (cI, 90, .inl fa))) (h_wm : V wm = some (.inl (cI, 180, .inl fm))) (h_wt : V wt = some (.inl (cI, 240, .inl ft))) (hi : i < 30) (hg : g < 4) (hm0 : fm (6 * i) = nI 2) (hwkp : nq wk wp) (hm1 : fm (6 * i + 1) = nI a) (ha : a < i) (hm2 : fm (6 * i + 2) = nI b) (hb : b < i) (hS : ∀ j z1, j < i → z1 < 4 → MTb (S j z1) (fc (4 * j + z1)) (tbl fr (4 * j + z1))) : ct zl D [(cI, .int), (cN, .object "AlgebraTree$Node"), (cR, .object "AlgebraTree$Rows")] base yX7_reckon cX7_reckon 11 none 5 0 0 [.ref m, .int (nI i), .int (nI g)] V (fun zv zV => ∃ fr1 : Nat → Int32, ∃ fc1 : Nat → Int32, ∃ fw1 : Nat → Int32, ∃ fv1 : Nat → Int32, ∃ fk1 : Nat → Int32, ∃ fp1 : Nat → Int32, zv = none ∧ zV = gv_up (gv_up (gv_up (gv_up (gv_up (gv_up V wr (.inl (cI, 57600, .inl fr1))) wc (.inl (cI, 120, .inl fc1))) wn (.inl (cI, 6, .inl fw1))) wv (.inl (cI, 30, .inl fv1))) wk (.inl (cI, 80, .inl fk1))) wp (.inl (cI, 80, .inl fp1)) ∧ (MTb ((S a g).bind (fun A => (S b g).bind (fun B => cap (A ++ B)))) (fc1 (4 * i + g)) (tbl fr1 (4 * i + g))) ∧ (Kp (4 * i + g) fc fr fc1 fr1)) := by
  refine ct_of "AlgebraTreeModel" rfl (by decide) (Nat.le_of_ble_eq_true rfl) ?_
  intro zp ze zs zm zargs zbelow zmeth zc C zr zlk znm
  refine k_pc (pc' := 0) (st' := []) rfl rfl ?_
  show K zp zl ze (gv_rm 5 0 0) zs zm zargs zbelow zmeth zc D base 11 (gv_E D [(cI, .int), (cN, .object "AlgebraTree$Node"), (cR, .object "AlgebraTree$Rows")] base zbelow zargs zs 0 0 (fun zv zV => ∃ fr1 : Nat → Int32, ∃ fc1 : Nat → Int32, ∃ fw1 : Nat → Int32, ∃ fv1 : Nat → Int32, ∃ fk1 : Nat → Int32, ∃ fp1 : Nat → Int32, zv = none ∧ zV = gv_up (gv_up (gv_up (gv_up (gv_up (gv_up V wr (.inl (cI, 57600, .inl fr1))) wc (.inl (cI, 120, .inl fc1))) wn (.inl (cI, 6, .inl fw1))) wv (.inl (cI, 30, .inl fv1))) wk (.inl (cI, 80, .inl fk1))) wp (.inl (cI, 80, .inl fp1)) ∧ (MTb ((S a g).bind (fun A => (S b g).bind (fun B => cap (A ++ B)))) (fc1 (4 * i + g)) (tbl fr1 (4 * i + g))) ∧ (Kp (4 * i + g) fc fr fc1 fr1))) V 0 0 [(0, .ref m), (1, .int (nI i)), (2, .int (nI g))] 0 []
  refine k_bipush (v := nI 6) C dX7_reckon_0 rfl ?_
  refine k_iload_n C dX7_reckon_2 rfl 1 rfl ?_
  refine k_imul C dX7_reckon_3 ?_
  refine k_val (y := nI (6 * i)) (pk_mul 6 i) ?_
  refine k_istore_n (lv' := [(3, .int (nI (6 * i))), (0, .ref m), (1, .int (nI i)), (2, .int (nI g))]) C dX7_reckon_4 rfl (by decide) rfl ?_
  refine k_aload_n C dX7_reckon_5 rfl 1 rfl ?_
  refine k_get (ci := 7) (k := 6) C fl_7_19 h_m rfl dX7_reckon_6 ?_
  refine k_iload_n C dX7_reckon_9 rfl 0 rfl ?_
  refine k_iald (v := fm (6 * i)) C 0 h_wm rfl (vp_in_nI (by omega) (by omega)) (by rw [nI_clamp (by omega)]) dX7_reckon_10 ?_
  refine k_val (y := nI 2) hm0 ?_
  refine k_istore (lv' := [(4, .int (nI 2)), (3, .int (nI (6 * i))), (0, .ref m), (1, .int (nI i)), (2, .int (nI g))]) C dX7_reckon_11 (by decide) rfl ?_
  refine k_aload_n C dX7_reckon_13 rfl 2 rfl ?_
  refine k_get (ci := 7) (k := 6) C fl_7_19 h_m rfl dX7_reckon_14 ?_
  refine k_iload_n C dX7_reckon_17 rfl 1 rfl ?_
  refine k_iconst (v := nI 1) C dX7_reckon_18 rfl ?_
  refine k_iadd C dX7_reckon_19 ?_
  refine k_val (y := nI ((6 * i) + 1)) (nI_add (6 * i) 1) ?_
  refine k_iald (v := fm ((6 * i) + 1)) C 0 h_wm rfl (vp_in_nI (by omega) (by omega)) (by rw [nI_clamp (by omega)]) dX7_reckon_20 ?_
  refine k_val (y := nI a) hm1 ?_
  refine k_istore (lv' := [(5, .int (nI a)), (4, .int (nI 2)), (3, .int (nI (6 * i))), (0, .ref m), (1, .int (nI i)), (2, .int (nI g))]) C dX7_reckon_21 (by decide) rfl ?_
  refine k_aload_n C dX7_reckon_23 rfl 3 rfl ?_
  refine k_get (ci := 7) (k := 6) C fl_7_19 h_m rfl dX7_reckon_24 ?_
  refine k_iload_n C dX7_reckon_27 rfl 2 rfl ?_
  refine k_iconst (v := nI 2) C dX7_reckon_28 rfl ?_
  refine k_iadd C dX7_reckon_29 ?_
  refine k_val (y := nI ((6 * i) + 2)) (nI_add (6 * i) 2) ?_
  refine k_iald (v := fm ((6 * i) + 2)) C 0 h_wm rfl (vp_in_nI (by omega) (by omega)) (by rw [nI_clamp (by omega)]) dX7_reckon_30 ?_
  refine k_val (y := nI b) hm2 ?_
  refine k_istore (lv' := [(6, .int (nI b)), (5, .int (nI a)), (4, .int (nI 2)), (3, .int (nI (6 * i))), (0, .ref m), (1, .int (nI i)), (2, .int (nI g))]) C dX7_reckon_31 (by decide) rfl ?_
  refine k_iload_n C dX7_reckon_33 rfl 5 rfl ?_
  refine k_iload_n C dX7_reckon_34 rfl 6 rfl ?_
  refine k_callS_pi C ms_7_140 (c_X7_table   ) rfl rfl (by simp [Value.category]) ⟨Nat.le_of_ble_eq_true rfl, Nat.le_of_ble_eq_true rfl⟩ ⟨(by decide), (by decide)⟩ dX7_reckon_35 ?_
  refine k_istore (lv' := [(7, .int (nI (4 * i + g))), (6, .int (nI b)), (5, .int (nI a)), (4, .int (nI 2)), (3, .int (nI (6 * i))), (0, .ref m), (1, .int (nI i)), (2, .int (nI g))]) C dX7_reckon_38 (by decide) rfl ?_
  refine k_aload_n C dX7_reckon_40 rfl 5 rfl ?_
  refine k_get (ci := 7) (k := 9) C fl_7_26 h_m rfl dX7_reckon_41 ?_
  refine k_iload C dX7_reckon_44 0 rfl ?_
  refine k_iconst (v := nI 0) C dX7_reckon_46 rfl ?_
  refine k_iast (f' := upd fc (4 * i + g) (nI 0)) C 0 h_wc rfl (vp_in_nI (by omega) (by omega)) (by rw [nI_clamp (by omega)]) dX7_reckon_47 ?_
  have hS0 : ∀ j z, j < i → z < 4 → MTb (S j z) (upd fc (4 * i + g) (nI 0) (4 * j + z)) (tbl fr (4 * j + z)) := fun j z hj hz => (hS j z hj hz).up (by omega)
  have hc0 : upd fc (4 * i + g) (nI 0) (4 * i + g) = 0 := upd_at
  refine k_iload C dX7_reckon_48 3 rfl ?_
  refine k_if_ne (tgt := 62) C dX7_reckon_50 (by decide) (fun c50 => ?_) (fun c50 => ?_)
  · skip
    have b50 : ¬ 2 = 0 := fun z => c50 ((nI_eq (a := 2) (b := 0) (by omega) (by omega)).mpr z)
    refine k_iload C dX7_reckon_62 3 rfl ?_
    refine k_iconst (v := nI 1) C dX7_reckon_64 rfl ?_
    refine k_icmp_lt (tgt := 78) C dX7_reckon_65 (by decide) (fun c65 => ?_) (fun c65 => ?_)
    · exact absurd c65 (by decide)
    · skip
      have b65 : ¬ 2 < 1 := fun z => c65 ((nI_ltI (a := 2) (b := 1) (by omega) (by omega)).mpr z)
      refine k_iload C dX7_reckon_68 3 rfl ?_
      refine k_iconst (v := nI 4) C dX7_reckon_70 rfl ?_
      refine k_icmp_gt (tgt := 78) C dX7_reckon_71 (by decide) (fun c71 => ?_) (fun c71 => ?_)
      · exact absurd c71 (by decide)
      · skip
        have b71 : ¬ 4 < 2 := fun z => c71 ((nI_ltI (a := 4) (b := 2) (by omega) (by omega)).mpr z)
        refine k_iconst (v := nI 1) C dX7_reckon_74 rfl ?_
        refine k_goto (tgt := 79) C dX7_reckon_75 (by decide) ?_
        refine k_istore (lv' := [(8, .int (nI 1)), (7, .int (nI (4 * i + g))), (6, .int (nI b)), (5, .int (nI a)), (4, .int (nI 2)), (3, .int (nI (6 * i))), (0, .ref m), (1, .int (nI i)), (2, .int (nI g))]) C dX7_reckon_79 (by decide) rfl ?_
        refine k_iload C dX7_reckon_81 4 rfl ?_
        refine k_bipush (v := nI 12) C dX7_reckon_83 rfl ?_
        refine k_icmp_ne (tgt := 99) C dX7_reckon_85 (by decide) (fun c85 => ?_) (fun c85 => ?_)
        · skip
          have b85 : ¬ 2 = 12 := fun z => c85 ((nI_eq (a := 2) (b := 12) (by omega) (by omega)).mpr z)
          refine k_iload C dX7_reckon_99 4 rfl ?_
          refine k_bipush (v := nI 13) C dX7_reckon_101 rfl ?_
          refine k_icmp_ne (tgt := 144) C dX7_reckon_103 (by decide) (fun c103 => ?_) (fun c103 => ?_)
          · skip
            have b103 : ¬ 2 = 13 := fun z => c103 ((nI_eq (a := 2) (b := 13) (by omega) (by omega)).mpr z)
            refine k_aload_n C dX7_reckon_144 rfl 6 rfl ?_
            refine k_iload C dX7_reckon_145 3 rfl ?_
            refine k_iload_n C dX7_reckon_147 rfl 8 rfl ?_
            have ne1 : nq m wc := gv_ne h_wc h_m (by simp)
            refine k_callV_pi C mv_7_148 (c_X7_isLong  ((gv_up_n ne1).trans h_m) gv_up_s (by omega) (by omega) (hS0 a g (by omega) (by omega))) ((gv_up_n ne1).trans h_m) rfl rfl (by simp [Value.category]) ⟨Nat.le_of_ble_eq_true rfl, Nat.le_of_ble_eq_true rfl⟩ ⟨(by decide), (by decide)⟩ dX7_reckon_148 ?_
            refine k_if_ne (tgt := 169) C dX7_reckon_151 (by decide) (fun c151 => ?_) (fun c151 => ?_)
            · skip
              have b151 : ((S a g).isNone) = true := bI_n.mp c151
              refine k_iconst (v := nI 1) C dX7_reckon_169 rfl ?_
              refine k_goto (tgt := 174) C dX7_reckon_170 (by decide) ?_
              refine k_istore (lv' := [(9, .int (nI 1)), (8, .int (nI 1)), (7, .int (nI (4 * i + g))), (6, .int (nI b)), (5, .int (nI a)), (4, .int (nI 2)), (3, .int (nI (6 * i))), (0, .ref m), (1, .int (nI i)), (2, .int (nI g))]) C dX7_reckon_174 (by decide) rfl ?_
              refine k_iload C dX7_reckon_176 0 rfl ?_
              refine k_if_eq (tgt := 191) C dX7_reckon_178 (by decide) (fun c178 => ?_) (fun c178 => ?_)
              · exact absurd c178 (by decide)
              · skip
                have b178 : ¬ 1 = 0 := fun z => c178 ((nI_eq (a := 1) (b := 0) (by omega) (by omega)).mpr z)
                refine k_aload_n C dX7_reckon_181 rfl 7 rfl ?_
                refine k_get (ci := 7) (k := 9) C fl_7_26 ((gv_up_n ne1).trans h_m) rfl dX7_reckon_182 ?_
                refine k_iload C dX7_reckon_185 2 rfl ?_
                refine k_bipush (v := (-2 : Int32)) C dX7_reckon_187 (by decide) ?_
                refine k_iast (f' := upd (upd fc (4 * i + g) (nI 0)) (4 * i + g) (-2 : Int32)) C 0 gv_up_s rfl (vp_in_nI (by omega) (by omega)) (by rw [nI_clamp (by omega)]) dX7_reckon_189 ?_
                refine k_view (V1 := gv_up V wc (.inl (cI, 120, .inl (upd (upd fc (4 * i + g) (nI 0)) (4 * i + g) (-2 : Int32))))) gv_uu ?_
                have ne2 : nq wr wc := gv_ne h_wc h_wr (by simp)
                refine k_view (V1 := gv_up (gv_up V wc (.inl (cI, 120, .inl (upd (upd fc (4 * i + g) (nI 0)) (4 * i + g) (-2 : Int32))))) wr (.inl (cI, 57600, .inl fr))) (gv_id ((gv_up_n ne2).trans h_wr)).symm ?_
                have ne3 : nq wn wc := gv_ne h_wc h_wn (by simp)
                have ne4 : nq wn wr := gv_ne h_wr h_wn (by simp)
                refine k_view (V1 := gv_up (gv_up (gv_up V wc (.inl (cI, 120, .inl (upd (upd fc (4 * i + g) (nI 0)) (4 * i + g) (-2 : Int32))))) wr (.inl (cI, 57600, .inl fr))) wn (.inl (cI, 6, .inl fw))) (gv_id ((gv_up_n ne4).trans ((gv_up_n ne3).trans h_wn))).symm ?_
                have ne5 : nq wv wc := gv_ne h_wc h_wv (by simp)
                have ne6 : nq wv wr := gv_ne h_wr h_wv (by simp)
                have ne7 : nq wv wn := gv_ne h_wn h_wv (by simp)
                refine k_view (V1 := gv_up (gv_up (gv_up (gv_up V wc (.inl (cI, 120, .inl (upd (upd fc (4 * i + g) (nI 0)) (4 * i + g) (-2 : Int32))))) wr (.inl (cI, 57600, .inl fr))) wn (.inl (cI, 6, .inl fw))) wv (.inl (cI, 30, .inl fv))) (gv_id ((gv_up_n ne7).trans ((gv_up_n ne6).trans ((gv_up_n ne5).trans h_wv)))).symm ?_
                have ne8 : nq wk wc := gv_ne h_wc h_wk (by simp)
                have ne9 : nq wk wr := gv_ne h_wr h_wk (by simp)
                have ne10 : nq wk wn := gv_ne h_wn h_wk (by simp)
                have ne11 : nq wk wv := gv_ne h_wv h_wk (by simp)
                refine k_view (V1 := gv_up (gv_up (gv_up (gv_up (gv_up V wc (.inl (cI, 120, .inl (upd (upd fc (4 * i + g) (nI 0)) (4 * i + g) (-2 : Int32))))) wr (.inl (cI, 57600, .inl fr))) wn (.inl (cI, 6, .inl fw))) wv (.inl (cI, 30, .inl fv))) wk (.inl (cI, 80, .inl fk))) (gv_id ((gv_up_n ne11).trans ((gv_up_n ne10).trans ((gv_up_n ne9).trans ((gv_up_n ne8).trans h_wk))))).symm ?_
                have ne12 : nq wp wc := gv_ne h_wc h_wp (by simp)
                have ne13 : nq wp wr := gv_ne h_wr h_wp (by simp)
                have ne14 : nq wp wn := gv_ne h_wn h_wp (by simp)
                have ne15 : nq wp wv := gv_ne h_wv h_wp (by simp)
                refine k_view (V1 := gv_up (gv_up (gv_up (gv_up (gv_up (gv_up V wc (.inl (cI, 120, .inl (upd (upd fc (4 * i + g) (nI 0)) (4 * i + g) (-2 : Int32))))) wr (.inl (cI, 57600, .inl fr))) wn (.inl (cI, 6, .inl fw))) wv (.inl (cI, 30, .inl fv))) wk (.inl (cI, 80, .inl fk))) wp (.inl (cI, 80, .inl fp))) (gv_id ((gv_up_n (Ne.symm hwkp)).trans ((gv_up_n ne15).trans ((gv_up_n ne14).trans ((gv_up_n ne13).trans ((gv_up_n ne12).trans h_wp)))))).symm ?_
                refine k_view (V1 := gv_up (gv_up (gv_up (gv_up (gv_up (gv_up V wr (.inl (cI, 57600, .inl fr))) wc (.inl (cI, 120, .inl (upd (upd fc (4 * i + g) (nI 0)) (4 * i + g) (-2 : Int32))))) wn (.inl (cI, 6, .inl fw))) wv (.inl (cI, 30, .inl fv))) wk (.inl (cI, 80, .inl fk))) wp (.inl (cI, 80, .inl fp))) (congrArg (fun W => gv_up W wp (.inl (cI, 80, .inl fp))) (congrArg (fun W => gv_up W wk (.inl (cI, 80, .inl fk))) (congrArg (fun W => gv_up W wv (.inl (cI, 30, .inl fv))) (congrArg (fun W => gv_up W wn (.inl (cI, 6, .inl fw))) (gv_uc ne2))))) ?_
                exact k_vret C zr zlk ⟨fr, upd (upd fc (4 * i + g) (nI 0)) (4 * i + g) (-2 : Int32), fw, fv, fk, fp, rfl, rfl, (MTb.no (by rw [isN0 b151]; rfl) upd_at), (Kp.up.tr Kp.up)⟩ (Nat.le_refl _) (Nat.le_refl _) dX7_reckon_190
            · skip
              have b151 : ((S a g).isNone) = false := bI_0.mp c151
              obtain ⟨A, eA⟩ := isN b151
              obtain ⟨hcA, hA⟩ := (hS0 a g ha (by omega)).sm eA
              refine k_iload C dX7_reckon_154 0 rfl ?_
              refine k_if_eq (tgt := 173) C dX7_reckon_156 (by decide) (fun c156 => ?_) (fun c156 => ?_)
              · exact absurd c156 (by decide)
              · skip
                have b156 : ¬ 1 = 0 := fun z => c156 ((nI_eq (a := 1) (b := 0) (by omega) (by omega)).mpr z)
                refine k_aload_n C dX7_reckon_159 rfl 6 rfl ?_
                refine k_iload C dX7_reckon_160 2 rfl ?_
                refine k_iload_n C dX7_reckon_162 rfl 8 rfl ?_
                refine k_callV_pi C mv_7_148 (c_X7_isLong  ((gv_up_n ne1).trans h_m) gv_up_s (by omega) (by omega) (hS0 b g (by omega) (by omega))) ((gv_up_n ne1).trans h_m) rfl rfl (by simp [Value.category]) ⟨Nat.le_of_ble_eq_true rfl, Nat.le_of_ble_eq_true rfl⟩ ⟨(by decide), (by decide)⟩ dX7_reckon_163 ?_
                refine k_if_eq (tgt := 173) C dX7_reckon_166 (by decide) (fun c166 => ?_) (fun c166 => ?_)
                · skip
                  have b166 : ((S b g).isNone) = false := bI_0.mp c166
                  obtain ⟨B, eB⟩ := isN b166
                  obtain ⟨hcB, hB⟩ := (hS0 b g hb (by omega)).sm eB
                  refine k_iconst (v := nI 0) C dX7_reckon_173 rfl ?_
                  refine k_istore (lv' := [(9, .int (nI 0)), (8, .int (nI 1)), (7, .int (nI (4 * i + g))), (6, .int (nI b)), (5, .int (nI a)), (4, .int (nI 2)), (3, .int (nI (6 * i))), (0, .ref m), (1, .int (nI i)), (2, .int (nI g))]) C dX7_reckon_174 (by decide) rfl ?_
                  refine k_iload C dX7_reckon_176 0 rfl ?_
                  refine k_if_eq (tgt := 191) C dX7_reckon_178 (by decide) (fun c178 => ?_) (fun c178 => ?_)
                  · skip
                    have b178 : 0 = 0 := (nI_eq (a := 0) (b := 0) (by omega) (by omega)).mp c178
                    refine k_iload C dX7_reckon_191 4 rfl ?_
                    refine k_iload_n C dX7_reckon_193 rfl 9 rfl ?_
                    refine k_callS_pi C ms_7_140 (c_X7_table   ) rfl rfl (by simp [Value.category]) ⟨Nat.le_of_ble_eq_true rfl, Nat.le_of_ble_eq_true rfl⟩ ⟨(by decide), (by decide)⟩ dX7_reckon_194 ?_
                    refine k_istore (lv' := [(10, .int (nI (4 * a + g))), (9, .int (nI 0)), (8, .int (nI 1)), (7, .int (nI (4 * i + g))), (6, .int (nI b)), (5, .int (nI a)), (4, .int (nI 2)), (3, .int (nI (6 * i))), (0, .ref m), (1, .int (nI i)), (2, .int (nI g))]) C dX7_reckon_197 (by decide) rfl ?_
                    refine k_iload C dX7_reckon_199 6 rfl ?_
                    refine k_tableIn (tgt := 287) C dX7_reckon_201 (by decide) (by decide) rfl (by decide) ?_
                    refine k_aload_n C dX7_reckon_287 rfl 8 rfl ?_
                    refine k_iload C dX7_reckon_288 3 rfl ?_
                    refine k_iload C dX7_reckon_290 0 rfl ?_
                    refine k_iconst (v := nI 2) C dX7_reckon_292 rfl ?_
                    refine k_iconst (v := nI 0) C dX7_reckon_293 rfl ?_
                    refine k_iconst (v := nI 0) C dX7_reckon_294 rfl ?_
                    have ne16 : nq wr wc := gv_ne h_wc h_wr (by simp)
                    have ne17 : nq wn wc := gv_ne h_wc h_wn (by simp)
                    refine k_callV C mv_7_155 (c_each2  ((gv_up_n ne1).trans h_m) ((gv_up_n ne16).trans h_wr) gv_up_s ((gv_up_n ne17).trans h_wn) (by first | assumption | omega) (by first | assumption | omega) (by first | assumption | omega) (by first | assumption | omega) (by first | assumption | omega) (MRep.nil hc0)) ((gv_up_n ne1).trans h_m) rfl rfl (by simp [Value.category]) ⟨Nat.le_of_ble_eq_true rfl, Nat.le_of_ble_eq_true rfl⟩ ⟨(by decide), (by decide)⟩ dX7_reckon_295 (fun zv zV zh => ?_)
                    obtain ⟨fr1_w18, fc1_w18, fw1_w18, rfl, rfl, hR1_w18, hK1_w18⟩ := zh
                    refine k_pc (pc' := 298) (st' := []) rfl rfl ?_
                    refine k_view (V1 := gv_up (gv_up (gv_up V wc (.inl (cI, 120, .inl fc1_w18))) wr (.inl (cI, 57600, .inl fr1_w18))) wn (.inl (cI, 6, .inl fw1_w18))) (congrArg (fun W => gv_up W wn (.inl (cI, 6, .inl fw1_w18))) ((gv_uc (Ne.symm ne16)).trans (congrArg (fun W => gv_up W wr (.inl (cI, 57600, .inl fr1_w18))) gv_uu))) ?_
                    have hB1 := hB.kp hK1_w18 (show ¬ 4 * b + g = 4 * i + g by omega)
                    have hcB1 := (hK1_w18 (4 * b + g) (by omega)).1.trans hcB
                    refine k_aload_n C dX7_reckon_298 rfl 8 rfl ?_
                    refine k_iload C dX7_reckon_299 3 rfl ?_
                    refine k_iload C dX7_reckon_301 4 rfl ?_
                    refine k_iload_n C dX7_reckon_303 rfl 10 rfl ?_
                    refine k_callS_pi C ms_7_140 (c_X7_table   ) rfl rfl (by simp [Value.category]) ⟨Nat.le_of_ble_eq_true rfl, Nat.le_of_ble_eq_true rfl⟩ ⟨(by decide), (by decide)⟩ dX7_reckon_304 ?_
                    refine k_iconst (v := nI 2) C dX7_reckon_307 rfl ?_
                    refine k_iconst (v := nI 0) C dX7_reckon_308 rfl ?_
                    refine k_iconst (v := nI 0) C dX7_reckon_309 rfl ?_
                    have ne19 : nq m wr := gv_ne h_wr h_m (by simp)
                    have ne20 : nq m wn := gv_ne h_wn h_m (by simp)
                    have ne21 : nq wr wn := gv_ne h_wn h_wr (by simp)
                    refine k_callV C mv_7_155 (c_each2  ((gv_up_n ne20).trans ((gv_up_n ne19).trans ((gv_up_n ne1).trans h_m))) ((gv_up_n ne21).trans gv_up_s) ((gv_up_n (Ne.symm ne17)).trans ((gv_up_n (Ne.symm ne16)).trans gv_up_s)) gv_up_s (by first | assumption | omega) hB1 hcB1 (by first | assumption | omega) (by first | assumption | omega) hR1_w18) ((gv_up_n ne20).trans ((gv_up_n ne19).trans ((gv_up_n ne1).trans h_m))) rfl rfl (by simp [Value.category]) ⟨Nat.le_of_ble_eq_true rfl, Nat.le_of_ble_eq_true rfl⟩ ⟨(by decide), (by decide)⟩ dX7_reckon_310 (fun zv zV zh => ?_)
                    obtain ⟨fr1_w22, fc1_w22, fw1_w22, rfl, rfl, hR1_w22, hK1_w22⟩ := zh
                    refine k_pc (pc' := 313) (st' := []) rfl rfl ?_
                    refine k_view (V1 := gv_up (gv_up (gv_up (gv_up (gv_up V wc (.inl (cI, 120, .inl fc1_w18))) wr (.inl (cI, 57600, .inl fr1_w22))) wn (.inl (cI, 6, .inl fw1_w18))) wc (.inl (cI, 120, .inl fc1_w22))) wn (.inl (cI, 6, .inl fw1_w22))) (congrArg (fun W => gv_up W wn (.inl (cI, 6, .inl fw1_w22))) (congrArg (fun W => gv_up W wc (.inl (cI, 120, .inl fc1_w22))) ((gv_uc ne21).trans (congrArg (fun W => gv_up W wn (.inl (cI, 6, .inl fw1_w18))) gv_uu)))) ?_
                    refine k_view (V1 := gv_up (gv_up (gv_up (gv_up V wc (.inl (cI, 120, .inl fc1_w22))) wr (.inl (cI, 57600, .inl fr1_w22))) wn (.inl (cI, 6, .inl fw1_w18))) wn (.inl (cI, 6, .inl fw1_w22))) (congrArg (fun W => gv_up W wn (.inl (cI, 6, .inl fw1_w22))) ((gv_uc (Ne.symm ne17)).trans (congrArg (fun W => gv_up W wn (.inl (cI, 6, .inl fw1_w18))) ((gv_uc (Ne.symm ne16)).trans (congrArg (fun W => gv_up W wr (.inl (cI, 57600, .inl fr1_w22))) gv_uu))))) ?_
                    refine k_view (V1 := gv_up (gv_up (gv_up V wc (.inl (cI, 120, .inl fc1_w22))) wr (.inl (cI, 57600, .inl fr1_w22))) wn (.inl (cI, 6, .inl fw1_w22))) gv_uu ?_
                    refine k_goto (tgt := 454) C dX7_reckon_313 (by decide) ?_
                    have ne23 : nq wv wc := gv_ne h_wc h_wv (by simp)
                    have ne24 : nq wv wr := gv_ne h_wr h_wv (by simp)
                    have ne25 : nq wv wn := gv_ne h_wn h_wv (by simp)
                    refine k_view (V1 := gv_up (gv_up (gv_up (gv_up V wc (.inl (cI, 120, .inl fc1_w22))) wr (.inl (cI, 57600, .inl fr1_w22))) wn (.inl (cI, 6, .inl fw1_w22))) wv (.inl (cI, 30, .inl fv))) (gv_id ((gv_up_n ne25).trans ((gv_up_n ne24).trans ((gv_up_n ne23).trans h_wv)))).symm ?_
                    have ne26 : nq wk wc := gv_ne h_wc h_wk (by simp)
                    have ne27 : nq wk wr := gv_ne h_wr h_wk (by simp)
                    have ne28 : nq wk wn := gv_ne h_wn h_wk (by simp)
                    have ne29 : nq wk wv := gv_ne h_wv h_wk (by simp)
                    refine k_view (V1 := gv_up (gv_up (gv_up (gv_up (gv_up V wc (.inl (cI, 120, .inl fc1_w22))) wr (.inl (cI, 57600, .inl fr1_w22))) wn (.inl (cI, 6, .inl fw1_w22))) wv (.inl (cI, 30, .inl fv))) wk (.inl (cI, 80, .inl fk))) (gv_id ((gv_up_n ne29).trans ((gv_up_n ne28).trans ((gv_up_n ne27).trans ((gv_up_n ne26).trans h_wk))))).symm ?_
                    have ne30 : nq wp wc := gv_ne h_wc h_wp (by simp)
                    have ne31 : nq wp wr := gv_ne h_wr h_wp (by simp)
                    have ne32 : nq wp wn := gv_ne h_wn h_wp (by simp)
                    have ne33 : nq wp wv := gv_ne h_wv h_wp (by simp)
                    refine k_view (V1 := gv_up (gv_up (gv_up (gv_up (gv_up (gv_up V wc (.inl (cI, 120, .inl fc1_w22))) wr (.inl (cI, 57600, .inl fr1_w22))) wn (.inl (cI, 6, .inl fw1_w22))) wv (.inl (cI, 30, .inl fv))) wk (.inl (cI, 80, .inl fk))) wp (.inl (cI, 80, .inl fp))) (gv_id ((gv_up_n (Ne.symm hwkp)).trans ((gv_up_n ne33).trans ((gv_up_n ne32).trans ((gv_up_n ne31).trans ((gv_up_n ne30).trans h_wp)))))).symm ?_
                    refine k_view (V1 := gv_up (gv_up (gv_up (gv_up (gv_up (gv_up V wr (.inl (cI, 57600, .inl fr1_w22))) wc (.inl (cI, 120, .inl fc1_w22))) wn (.inl (cI, 6, .inl fw1_w22))) wv (.inl (cI, 30, .inl fv))) wk (.inl (cI, 80, .inl fk))) wp (.inl (cI, 80, .inl fp))) (congrArg (fun W => gv_up W wp (.inl (cI, 80, .inl fp))) (congrArg (fun W => gv_up W wk (.inl (cI, 80, .inl fk))) (congrArg (fun W => gv_up W wv (.inl (cI, 30, .inl fv))) (congrArg (fun W => gv_up W wn (.inl (cI, 6, .inl fw1_w22))) (gv_uc ne16))))) ?_
                    exact k_vret C zr zlk ⟨fr1_w22, fc1_w22, fw1_w22, fv, fk, fp, rfl, rfl, (by rw [eA, eB]; exact (MRep.tb hR1_w22)), (Kp.up.tr (hK1_w18.tr hK1_w22))⟩ (Nat.le_refl _) (Nat.le_refl _) dX7_reckon_454
                  · exact absurd c178 (by decide)
                · skip
                  have b166 : ((S b g).isNone) = true := bI_n.mp c166
                  refine k_iconst (v := nI 1) C dX7_reckon_169 rfl ?_
                  refine k_goto (tgt := 174) C dX7_reckon_170 (by decide) ?_
                  refine k_istore (lv' := [(9, .int (nI 1)), (8, .int (nI 1)), (7, .int (nI (4 * i + g))), (6, .int (nI b)), (5, .int (nI a)), (4, .int (nI 2)), (3, .int (nI (6 * i))), (0, .ref m), (1, .int (nI i)), (2, .int (nI g))]) C dX7_reckon_174 (by decide) rfl ?_
                  refine k_iload C dX7_reckon_176 0 rfl ?_
                  refine k_if_eq (tgt := 191) C dX7_reckon_178 (by decide) (fun c178 => ?_) (fun c178 => ?_)
                  · exact absurd c178 (by decide)
                  · skip
                    have b178 : ¬ 1 = 0 := fun z => c178 ((nI_eq (a := 1) (b := 0) (by omega) (by omega)).mpr z)
                    refine k_aload_n C dX7_reckon_181 rfl 7 rfl ?_
                    refine k_get (ci := 7) (k := 9) C fl_7_26 ((gv_up_n ne1).trans h_m) rfl dX7_reckon_182 ?_
                    refine k_iload C dX7_reckon_185 2 rfl ?_
                    refine k_bipush (v := (-2 : Int32)) C dX7_reckon_187 (by decide) ?_
                    refine k_iast (f' := upd (upd fc (4 * i + g) (nI 0)) (4 * i + g) (-2 : Int32)) C 0 gv_up_s rfl (vp_in_nI (by omega) (by omega)) (by rw [nI_clamp (by omega)]) dX7_reckon_189 ?_
                    refine k_view (V1 := gv_up V wc (.inl (cI, 120, .inl (upd (upd fc (4 * i + g) (nI 0)) (4 * i + g) (-2 : Int32))))) gv_uu ?_
                    have ne34 : nq wr wc := gv_ne h_wc h_wr (by simp)
                    refine k_view (V1 := gv_up (gv_up V wc (.inl (cI, 120, .inl (upd (upd fc (4 * i + g) (nI 0)) (4 * i + g) (-2 : Int32))))) wr (.inl (cI, 57600, .inl fr))) (gv_id ((gv_up_n ne34).trans h_wr)).symm ?_
                    have ne35 : nq wn wc := gv_ne h_wc h_wn (by simp)
                    have ne36 : nq wn wr := gv_ne h_wr h_wn (by simp)
                    refine k_view (V1 := gv_up (gv_up (gv_up V wc (.inl (cI, 120, .inl (upd (upd fc (4 * i + g) (nI 0)) (4 * i + g) (-2 : Int32))))) wr (.inl (cI, 57600, .inl fr))) wn (.inl (cI, 6, .inl fw))) (gv_id ((gv_up_n ne36).trans ((gv_up_n ne35).trans h_wn))).symm ?_
                    have ne37 : nq wv wc := gv_ne h_wc h_wv (by simp)
                    have ne38 : nq wv wr := gv_ne h_wr h_wv (by simp)
                    have ne39 : nq wv wn := gv_ne h_wn h_wv (by simp)
                    refine k_view (V1 := gv_up (gv_up (gv_up (gv_up V wc (.inl (cI, 120, .inl (upd (upd fc (4 * i + g) (nI 0)) (4 * i + g) (-2 : Int32))))) wr (.inl (cI, 57600, .inl fr))) wn (.inl (cI, 6, .inl fw))) wv (.inl (cI, 30, .inl fv))) (gv_id ((gv_up_n ne39).trans ((gv_up_n ne38).trans ((gv_up_n ne37).trans h_wv)))).symm ?_
                    have ne40 : nq wk wc := gv_ne h_wc h_wk (by simp)
                    have ne41 : nq wk wr := gv_ne h_wr h_wk (by simp)
                    have ne42 : nq wk wn := gv_ne h_wn h_wk (by simp)
                    have ne43 : nq wk wv := gv_ne h_wv h_wk (by simp)
                    refine k_view (V1 := gv_up (gv_up (gv_up (gv_up (gv_up V wc (.inl (cI, 120, .inl (upd (upd fc (4 * i + g) (nI 0)) (4 * i + g) (-2 : Int32))))) wr (.inl (cI, 57600, .inl fr))) wn (.inl (cI, 6, .inl fw))) wv (.inl (cI, 30, .inl fv))) wk (.inl (cI, 80, .inl fk))) (gv_id ((gv_up_n ne43).trans ((gv_up_n ne42).trans ((gv_up_n ne41).trans ((gv_up_n ne40).trans h_wk))))).symm ?_
                    have ne44 : nq wp wc := gv_ne h_wc h_wp (by simp)
                    have ne45 : nq wp wr := gv_ne h_wr h_wp (by simp)
                    have ne46 : nq wp wn := gv_ne h_wn h_wp (by simp)
                    have ne47 : nq wp wv := gv_ne h_wv h_wp (by simp)
                    refine k_view (V1 := gv_up (gv_up (gv_up (gv_up (gv_up (gv_up V wc (.inl (cI, 120, .inl (upd (upd fc (4 * i + g) (nI 0)) (4 * i + g) (-2 : Int32))))) wr (.inl (cI, 57600, .inl fr))) wn (.inl (cI, 6, .inl fw))) wv (.inl (cI, 30, .inl fv))) wk (.inl (cI, 80, .inl fk))) wp (.inl (cI, 80, .inl fp))) (gv_id ((gv_up_n (Ne.symm hwkp)).trans ((gv_up_n ne47).trans ((gv_up_n ne46).trans ((gv_up_n ne45).trans ((gv_up_n ne44).trans h_wp)))))).symm ?_
                    refine k_view (V1 := gv_up (gv_up (gv_up (gv_up (gv_up (gv_up V wr (.inl (cI, 57600, .inl fr))) wc (.inl (cI, 120, .inl (upd (upd fc (4 * i + g) (nI 0)) (4 * i + g) (-2 : Int32))))) wn (.inl (cI, 6, .inl fw))) wv (.inl (cI, 30, .inl fv))) wk (.inl (cI, 80, .inl fk))) wp (.inl (cI, 80, .inl fp))) (congrArg (fun W => gv_up W wp (.inl (cI, 80, .inl fp))) (congrArg (fun W => gv_up W wk (.inl (cI, 80, .inl fk))) (congrArg (fun W => gv_up W wv (.inl (cI, 30, .inl fv))) (congrArg (fun W => gv_up W wn (.inl (cI, 6, .inl fw))) (gv_uc ne34))))) ?_
                    exact k_vret C zr zlk ⟨fr, upd (upd fc (4 * i + g) (nI 0)) (4 * i + g) (-2 : Int32), fw, fv, fk, fp, rfl, rfl, (MTb.no (by rw [isN0 b166]; cases S a g <;> rfl) upd_at), (Kp.up.tr Kp.up)⟩ (Nat.le_refl _) (Nat.le_refl _) dX7_reckon_190
          · exact absurd c103 (by decide)
        · exact absurd c85 (by decide)
  · exact absurd c50 (by decide)
set_option maxHeartbeats 4000000 in
set_option maxRecDepth 100000 in
theorem c_reckon3 {zl : Launch} {D : va_G} {cI cN cR : ClassId} {base : Nat} {V : gv_V} {m wt wa wv wm wr wc wn ws wk wp nt ne nn sh : Nat} {kn : Int32} {ft fa fv fm fr fc fw fk fp : Nat → Int32} {i g a b : Nat} {S : Nat → Nat → Option (List Row)}  (h_m : V m = some (.inr (7, [.int (nI nt), .ref wt, .int (nI ne), .ref wa, .ref wv, .int (nI nn), .ref wm, .int kn, .ref wr, .ref wc, .ref wn, .int (nI sh), .ref ws, .ref wk, .ref wp]))) (h_wr : V wr = some (.inl (cI, 57600, .inl fr))) (h_wc : V wc = some (.inl (cI, 120, .inl fc))) (h_wn : V wn = some (.inl (cI, 6, .inl fw))) (h_wv : V wv = some (.inl (cI, 30, .inl fv))) (h_wk : V wk = some (.inl (cI, 80, .inl fk))) (h_wp : V wp = some (.inl (cI, 80, .inl fp))) (h_wa : V wa = some (.inl (cI, 90, .inl fa))) (h_wm : V wm = some (.inl (cI, 180, .inl fm))) (h_wt : V wt = some (.inl (cI, 240, .inl ft))) (hi : i < 30) (hg : g < 4) (hm0 : fm (6 * i) = nI 3) (hwkp : nq wk wp) (hm1 : fm (6 * i + 1) = nI a) (ha : a < i) (hm2 : fm (6 * i + 2) = nI b) (hb : b < i) (hS : ∀ j z1, j < i → z1 < 4 → MTb (S j z1) (fc (4 * j + z1)) (tbl fr (4 * j + z1))) : ct zl D [(cI, .int), (cN, .object "AlgebraTree$Node"), (cR, .object "AlgebraTree$Rows")] base yX7_reckon cX7_reckon 11 none 5 0 0 [.ref m, .int (nI i), .int (nI g)] V (fun zv zV => ∃ fr1 : Nat → Int32, ∃ fc1 : Nat → Int32, ∃ fw1 : Nat → Int32, ∃ fv1 : Nat → Int32, ∃ fk1 : Nat → Int32, ∃ fp1 : Nat → Int32, zv = none ∧ zV = gv_up (gv_up (gv_up (gv_up (gv_up (gv_up V wr (.inl (cI, 57600, .inl fr1))) wc (.inl (cI, 120, .inl fc1))) wn (.inl (cI, 6, .inl fw1))) wv (.inl (cI, 30, .inl fv1))) wk (.inl (cI, 80, .inl fk1))) wp (.inl (cI, 80, .inl fp1)) ∧ (MTb ((S a g).bind (fun A => (S b g).bind (fun B => cap (minusL A B)))) (fc1 (4 * i + g)) (tbl fr1 (4 * i + g))) ∧ (Kp (4 * i + g) fc fr fc1 fr1)) := by
  refine ct_of "AlgebraTreeModel" rfl (by decide) (Nat.le_of_ble_eq_true rfl) ?_
  intro zp ze zs zm zargs zbelow zmeth zc C zr zlk znm
  refine k_pc (pc' := 0) (st' := []) rfl rfl ?_
  show K zp zl ze (gv_rm 5 0 0) zs zm zargs zbelow zmeth zc D base 11 (gv_E D [(cI, .int), (cN, .object "AlgebraTree$Node"), (cR, .object "AlgebraTree$Rows")] base zbelow zargs zs 0 0 (fun zv zV => ∃ fr1 : Nat → Int32, ∃ fc1 : Nat → Int32, ∃ fw1 : Nat → Int32, ∃ fv1 : Nat → Int32, ∃ fk1 : Nat → Int32, ∃ fp1 : Nat → Int32, zv = none ∧ zV = gv_up (gv_up (gv_up (gv_up (gv_up (gv_up V wr (.inl (cI, 57600, .inl fr1))) wc (.inl (cI, 120, .inl fc1))) wn (.inl (cI, 6, .inl fw1))) wv (.inl (cI, 30, .inl fv1))) wk (.inl (cI, 80, .inl fk1))) wp (.inl (cI, 80, .inl fp1)) ∧ (MTb ((S a g).bind (fun A => (S b g).bind (fun B => cap (minusL A B)))) (fc1 (4 * i + g)) (tbl fr1 (4 * i + g))) ∧ (Kp (4 * i + g) fc fr fc1 fr1))) V 0 0 [(0, .ref m), (1, .int (nI i)), (2, .int (nI g))] 0 []
  refine k_bipush (v := nI 6) C dX7_reckon_0 rfl ?_
  refine k_iload_n C dX7_reckon_2 rfl 1 rfl ?_
  refine k_imul C dX7_reckon_3 ?_
  refine k_val (y := nI (6 * i)) (pk_mul 6 i) ?_
  refine k_istore_n (lv' := [(3, .int (nI (6 * i))), (0, .ref m), (1, .int (nI i)), (2, .int (nI g))]) C dX7_reckon_4 rfl (by decide) rfl ?_
  refine k_aload_n C dX7_reckon_5 rfl 1 rfl ?_
  refine k_get (ci := 7) (k := 6) C fl_7_19 h_m rfl dX7_reckon_6 ?_
  refine k_iload_n C dX7_reckon_9 rfl 0 rfl ?_
  refine k_iald (v := fm (6 * i)) C 0 h_wm rfl (vp_in_nI (by omega) (by omega)) (by rw [nI_clamp (by omega)]) dX7_reckon_10 ?_
  refine k_val (y := nI 3) hm0 ?_
  refine k_istore (lv' := [(4, .int (nI 3)), (3, .int (nI (6 * i))), (0, .ref m), (1, .int (nI i)), (2, .int (nI g))]) C dX7_reckon_11 (by decide) rfl ?_
  refine k_aload_n C dX7_reckon_13 rfl 2 rfl ?_
  refine k_get (ci := 7) (k := 6) C fl_7_19 h_m rfl dX7_reckon_14 ?_
  refine k_iload_n C dX7_reckon_17 rfl 1 rfl ?_
  refine k_iconst (v := nI 1) C dX7_reckon_18 rfl ?_
  refine k_iadd C dX7_reckon_19 ?_
  refine k_val (y := nI ((6 * i) + 1)) (nI_add (6 * i) 1) ?_
  refine k_iald (v := fm ((6 * i) + 1)) C 0 h_wm rfl (vp_in_nI (by omega) (by omega)) (by rw [nI_clamp (by omega)]) dX7_reckon_20 ?_
  refine k_val (y := nI a) hm1 ?_
  refine k_istore (lv' := [(5, .int (nI a)), (4, .int (nI 3)), (3, .int (nI (6 * i))), (0, .ref m), (1, .int (nI i)), (2, .int (nI g))]) C dX7_reckon_21 (by decide) rfl ?_
  refine k_aload_n C dX7_reckon_23 rfl 3 rfl ?_
  refine k_get (ci := 7) (k := 6) C fl_7_19 h_m rfl dX7_reckon_24 ?_
  refine k_iload_n C dX7_reckon_27 rfl 2 rfl ?_
  refine k_iconst (v := nI 2) C dX7_reckon_28 rfl ?_
  refine k_iadd C dX7_reckon_29 ?_
  refine k_val (y := nI ((6 * i) + 2)) (nI_add (6 * i) 2) ?_
  refine k_iald (v := fm ((6 * i) + 2)) C 0 h_wm rfl (vp_in_nI (by omega) (by omega)) (by rw [nI_clamp (by omega)]) dX7_reckon_30 ?_
  refine k_val (y := nI b) hm2 ?_
  refine k_istore (lv' := [(6, .int (nI b)), (5, .int (nI a)), (4, .int (nI 3)), (3, .int (nI (6 * i))), (0, .ref m), (1, .int (nI i)), (2, .int (nI g))]) C dX7_reckon_31 (by decide) rfl ?_
  refine k_iload_n C dX7_reckon_33 rfl 5 rfl ?_
  refine k_iload_n C dX7_reckon_34 rfl 6 rfl ?_
  refine k_callS_pi C ms_7_140 (c_X7_table   ) rfl rfl (by simp [Value.category]) ⟨Nat.le_of_ble_eq_true rfl, Nat.le_of_ble_eq_true rfl⟩ ⟨(by decide), (by decide)⟩ dX7_reckon_35 ?_
  refine k_istore (lv' := [(7, .int (nI (4 * i + g))), (6, .int (nI b)), (5, .int (nI a)), (4, .int (nI 3)), (3, .int (nI (6 * i))), (0, .ref m), (1, .int (nI i)), (2, .int (nI g))]) C dX7_reckon_38 (by decide) rfl ?_
  refine k_aload_n C dX7_reckon_40 rfl 5 rfl ?_
  refine k_get (ci := 7) (k := 9) C fl_7_26 h_m rfl dX7_reckon_41 ?_
  refine k_iload C dX7_reckon_44 0 rfl ?_
  refine k_iconst (v := nI 0) C dX7_reckon_46 rfl ?_
  refine k_iast (f' := upd fc (4 * i + g) (nI 0)) C 0 h_wc rfl (vp_in_nI (by omega) (by omega)) (by rw [nI_clamp (by omega)]) dX7_reckon_47 ?_
  have hS0 : ∀ j z, j < i → z < 4 → MTb (S j z) (upd fc (4 * i + g) (nI 0) (4 * j + z)) (tbl fr (4 * j + z)) := fun j z hj hz => (hS j z hj hz).up (by omega)
  have hc0 : upd fc (4 * i + g) (nI 0) (4 * i + g) = 0 := upd_at
  refine k_iload C dX7_reckon_48 3 rfl ?_
  refine k_if_ne (tgt := 62) C dX7_reckon_50 (by decide) (fun c50 => ?_) (fun c50 => ?_)
  · skip
    have b50 : ¬ 3 = 0 := fun z => c50 ((nI_eq (a := 3) (b := 0) (by omega) (by omega)).mpr z)
    refine k_iload C dX7_reckon_62 3 rfl ?_
    refine k_iconst (v := nI 1) C dX7_reckon_64 rfl ?_
    refine k_icmp_lt (tgt := 78) C dX7_reckon_65 (by decide) (fun c65 => ?_) (fun c65 => ?_)
    · exact absurd c65 (by decide)
    · skip
      have b65 : ¬ 3 < 1 := fun z => c65 ((nI_ltI (a := 3) (b := 1) (by omega) (by omega)).mpr z)
      refine k_iload C dX7_reckon_68 3 rfl ?_
      refine k_iconst (v := nI 4) C dX7_reckon_70 rfl ?_
      refine k_icmp_gt (tgt := 78) C dX7_reckon_71 (by decide) (fun c71 => ?_) (fun c71 => ?_)
      · exact absurd c71 (by decide)
      · skip
        have b71 : ¬ 4 < 3 := fun z => c71 ((nI_ltI (a := 4) (b := 3) (by omega) (by omega)).mpr z)
        refine k_iconst (v := nI 1) C dX7_reckon_74 rfl ?_
        refine k_goto (tgt := 79) C dX7_reckon_75 (by decide) ?_
        refine k_istore (lv' := [(8, .int (nI 1)), (7, .int (nI (4 * i + g))), (6, .int (nI b)), (5, .int (nI a)), (4, .int (nI 3)), (3, .int (nI (6 * i))), (0, .ref m), (1, .int (nI i)), (2, .int (nI g))]) C dX7_reckon_79 (by decide) rfl ?_
        refine k_iload C dX7_reckon_81 4 rfl ?_
        refine k_bipush (v := nI 12) C dX7_reckon_83 rfl ?_
        refine k_icmp_ne (tgt := 99) C dX7_reckon_85 (by decide) (fun c85 => ?_) (fun c85 => ?_)
        · skip
          have b85 : ¬ 3 = 12 := fun z => c85 ((nI_eq (a := 3) (b := 12) (by omega) (by omega)).mpr z)
          refine k_iload C dX7_reckon_99 4 rfl ?_
          refine k_bipush (v := nI 13) C dX7_reckon_101 rfl ?_
          refine k_icmp_ne (tgt := 144) C dX7_reckon_103 (by decide) (fun c103 => ?_) (fun c103 => ?_)
          · skip
            have b103 : ¬ 3 = 13 := fun z => c103 ((nI_eq (a := 3) (b := 13) (by omega) (by omega)).mpr z)
            refine k_aload_n C dX7_reckon_144 rfl 6 rfl ?_
            refine k_iload C dX7_reckon_145 3 rfl ?_
            refine k_iload_n C dX7_reckon_147 rfl 8 rfl ?_
            have ne1 : nq m wc := gv_ne h_wc h_m (by simp)
            refine k_callV_pi C mv_7_148 (c_X7_isLong  ((gv_up_n ne1).trans h_m) gv_up_s (by omega) (by omega) (hS0 a g (by omega) (by omega))) ((gv_up_n ne1).trans h_m) rfl rfl (by simp [Value.category]) ⟨Nat.le_of_ble_eq_true rfl, Nat.le_of_ble_eq_true rfl⟩ ⟨(by decide), (by decide)⟩ dX7_reckon_148 ?_
            refine k_if_ne (tgt := 169) C dX7_reckon_151 (by decide) (fun c151 => ?_) (fun c151 => ?_)
            · skip
              have b151 : ((S a g).isNone) = true := bI_n.mp c151
              refine k_iconst (v := nI 1) C dX7_reckon_169 rfl ?_
              refine k_goto (tgt := 174) C dX7_reckon_170 (by decide) ?_
              refine k_istore (lv' := [(9, .int (nI 1)), (8, .int (nI 1)), (7, .int (nI (4 * i + g))), (6, .int (nI b)), (5, .int (nI a)), (4, .int (nI 3)), (3, .int (nI (6 * i))), (0, .ref m), (1, .int (nI i)), (2, .int (nI g))]) C dX7_reckon_174 (by decide) rfl ?_
              refine k_iload C dX7_reckon_176 0 rfl ?_
              refine k_if_eq (tgt := 191) C dX7_reckon_178 (by decide) (fun c178 => ?_) (fun c178 => ?_)
              · exact absurd c178 (by decide)
              · skip
                have b178 : ¬ 1 = 0 := fun z => c178 ((nI_eq (a := 1) (b := 0) (by omega) (by omega)).mpr z)
                refine k_aload_n C dX7_reckon_181 rfl 7 rfl ?_
                refine k_get (ci := 7) (k := 9) C fl_7_26 ((gv_up_n ne1).trans h_m) rfl dX7_reckon_182 ?_
                refine k_iload C dX7_reckon_185 2 rfl ?_
                refine k_bipush (v := (-2 : Int32)) C dX7_reckon_187 (by decide) ?_
                refine k_iast (f' := upd (upd fc (4 * i + g) (nI 0)) (4 * i + g) (-2 : Int32)) C 0 gv_up_s rfl (vp_in_nI (by omega) (by omega)) (by rw [nI_clamp (by omega)]) dX7_reckon_189 ?_
                refine k_view (V1 := gv_up V wc (.inl (cI, 120, .inl (upd (upd fc (4 * i + g) (nI 0)) (4 * i + g) (-2 : Int32))))) gv_uu ?_
                have ne2 : nq wr wc := gv_ne h_wc h_wr (by simp)
                refine k_view (V1 := gv_up (gv_up V wc (.inl (cI, 120, .inl (upd (upd fc (4 * i + g) (nI 0)) (4 * i + g) (-2 : Int32))))) wr (.inl (cI, 57600, .inl fr))) (gv_id ((gv_up_n ne2).trans h_wr)).symm ?_
                have ne3 : nq wn wc := gv_ne h_wc h_wn (by simp)
                have ne4 : nq wn wr := gv_ne h_wr h_wn (by simp)
                refine k_view (V1 := gv_up (gv_up (gv_up V wc (.inl (cI, 120, .inl (upd (upd fc (4 * i + g) (nI 0)) (4 * i + g) (-2 : Int32))))) wr (.inl (cI, 57600, .inl fr))) wn (.inl (cI, 6, .inl fw))) (gv_id ((gv_up_n ne4).trans ((gv_up_n ne3).trans h_wn))).symm ?_
                have ne5 : nq wv wc := gv_ne h_wc h_wv (by simp)
                have ne6 : nq wv wr := gv_ne h_wr h_wv (by simp)
                have ne7 : nq wv wn := gv_ne h_wn h_wv (by simp)
                refine k_view (V1 := gv_up (gv_up (gv_up (gv_up V wc (.inl (cI, 120, .inl (upd (upd fc (4 * i + g) (nI 0)) (4 * i + g) (-2 : Int32))))) wr (.inl (cI, 57600, .inl fr))) wn (.inl (cI, 6, .inl fw))) wv (.inl (cI, 30, .inl fv))) (gv_id ((gv_up_n ne7).trans ((gv_up_n ne6).trans ((gv_up_n ne5).trans h_wv)))).symm ?_
                have ne8 : nq wk wc := gv_ne h_wc h_wk (by simp)
                have ne9 : nq wk wr := gv_ne h_wr h_wk (by simp)
                have ne10 : nq wk wn := gv_ne h_wn h_wk (by simp)
                have ne11 : nq wk wv := gv_ne h_wv h_wk (by simp)
                refine k_view (V1 := gv_up (gv_up (gv_up (gv_up (gv_up V wc (.inl (cI, 120, .inl (upd (upd fc (4 * i + g) (nI 0)) (4 * i + g) (-2 : Int32))))) wr (.inl (cI, 57600, .inl fr))) wn (.inl (cI, 6, .inl fw))) wv (.inl (cI, 30, .inl fv))) wk (.inl (cI, 80, .inl fk))) (gv_id ((gv_up_n ne11).trans ((gv_up_n ne10).trans ((gv_up_n ne9).trans ((gv_up_n ne8).trans h_wk))))).symm ?_
                have ne12 : nq wp wc := gv_ne h_wc h_wp (by simp)
                have ne13 : nq wp wr := gv_ne h_wr h_wp (by simp)
                have ne14 : nq wp wn := gv_ne h_wn h_wp (by simp)
                have ne15 : nq wp wv := gv_ne h_wv h_wp (by simp)
                refine k_view (V1 := gv_up (gv_up (gv_up (gv_up (gv_up (gv_up V wc (.inl (cI, 120, .inl (upd (upd fc (4 * i + g) (nI 0)) (4 * i + g) (-2 : Int32))))) wr (.inl (cI, 57600, .inl fr))) wn (.inl (cI, 6, .inl fw))) wv (.inl (cI, 30, .inl fv))) wk (.inl (cI, 80, .inl fk))) wp (.inl (cI, 80, .inl fp))) (gv_id ((gv_up_n (Ne.symm hwkp)).trans ((gv_up_n ne15).trans ((gv_up_n ne14).trans ((gv_up_n ne13).trans ((gv_up_n ne12).trans h_wp)))))).symm ?_
                refine k_view (V1 := gv_up (gv_up (gv_up (gv_up (gv_up (gv_up V wr (.inl (cI, 57600, .inl fr))) wc (.inl (cI, 120, .inl (upd (upd fc (4 * i + g) (nI 0)) (4 * i + g) (-2 : Int32))))) wn (.inl (cI, 6, .inl fw))) wv (.inl (cI, 30, .inl fv))) wk (.inl (cI, 80, .inl fk))) wp (.inl (cI, 80, .inl fp))) (congrArg (fun W => gv_up W wp (.inl (cI, 80, .inl fp))) (congrArg (fun W => gv_up W wk (.inl (cI, 80, .inl fk))) (congrArg (fun W => gv_up W wv (.inl (cI, 30, .inl fv))) (congrArg (fun W => gv_up W wn (.inl (cI, 6, .inl fw))) (gv_uc ne2))))) ?_
                exact k_vret C zr zlk ⟨fr, upd (upd fc (4 * i + g) (nI 0)) (4 * i + g) (-2 : Int32), fw, fv, fk, fp, rfl, rfl, (MTb.no (by rw [isN0 b151]; rfl) upd_at), (Kp.up.tr Kp.up)⟩ (Nat.le_refl _) (Nat.le_refl _) dX7_reckon_190
            · skip
              have b151 : ((S a g).isNone) = false := bI_0.mp c151
              obtain ⟨A, eA⟩ := isN b151
              obtain ⟨hcA, hA⟩ := (hS0 a g ha (by omega)).sm eA
              refine k_iload C dX7_reckon_154 0 rfl ?_
              refine k_if_eq (tgt := 173) C dX7_reckon_156 (by decide) (fun c156 => ?_) (fun c156 => ?_)
              · exact absurd c156 (by decide)
              · skip
                have b156 : ¬ 1 = 0 := fun z => c156 ((nI_eq (a := 1) (b := 0) (by omega) (by omega)).mpr z)
                refine k_aload_n C dX7_reckon_159 rfl 6 rfl ?_
                refine k_iload C dX7_reckon_160 2 rfl ?_
                refine k_iload_n C dX7_reckon_162 rfl 8 rfl ?_
                refine k_callV_pi C mv_7_148 (c_X7_isLong  ((gv_up_n ne1).trans h_m) gv_up_s (by omega) (by omega) (hS0 b g (by omega) (by omega))) ((gv_up_n ne1).trans h_m) rfl rfl (by simp [Value.category]) ⟨Nat.le_of_ble_eq_true rfl, Nat.le_of_ble_eq_true rfl⟩ ⟨(by decide), (by decide)⟩ dX7_reckon_163 ?_
                refine k_if_eq (tgt := 173) C dX7_reckon_166 (by decide) (fun c166 => ?_) (fun c166 => ?_)
                · skip
                  have b166 : ((S b g).isNone) = false := bI_0.mp c166
                  obtain ⟨B, eB⟩ := isN b166
                  obtain ⟨hcB, hB⟩ := (hS0 b g hb (by omega)).sm eB
                  refine k_iconst (v := nI 0) C dX7_reckon_173 rfl ?_
                  refine k_istore (lv' := [(9, .int (nI 0)), (8, .int (nI 1)), (7, .int (nI (4 * i + g))), (6, .int (nI b)), (5, .int (nI a)), (4, .int (nI 3)), (3, .int (nI (6 * i))), (0, .ref m), (1, .int (nI i)), (2, .int (nI g))]) C dX7_reckon_174 (by decide) rfl ?_
                  refine k_iload C dX7_reckon_176 0 rfl ?_
                  refine k_if_eq (tgt := 191) C dX7_reckon_178 (by decide) (fun c178 => ?_) (fun c178 => ?_)
                  · skip
                    have b178 : 0 = 0 := (nI_eq (a := 0) (b := 0) (by omega) (by omega)).mp c178
                    refine k_iload C dX7_reckon_191 4 rfl ?_
                    refine k_iload_n C dX7_reckon_193 rfl 9 rfl ?_
                    refine k_callS_pi C ms_7_140 (c_X7_table   ) rfl rfl (by simp [Value.category]) ⟨Nat.le_of_ble_eq_true rfl, Nat.le_of_ble_eq_true rfl⟩ ⟨(by decide), (by decide)⟩ dX7_reckon_194 ?_
                    refine k_istore (lv' := [(10, .int (nI (4 * a + g))), (9, .int (nI 0)), (8, .int (nI 1)), (7, .int (nI (4 * i + g))), (6, .int (nI b)), (5, .int (nI a)), (4, .int (nI 3)), (3, .int (nI (6 * i))), (0, .ref m), (1, .int (nI i)), (2, .int (nI g))]) C dX7_reckon_197 (by decide) rfl ?_
                    refine k_iload C dX7_reckon_199 6 rfl ?_
                    refine k_tableIn (tgt := 316) C dX7_reckon_201 (by decide) (by decide) rfl (by decide) ?_
                    refine k_aload_n C dX7_reckon_316 rfl 8 rfl ?_
                    refine k_iload C dX7_reckon_317 3 rfl ?_
                    refine k_iload C dX7_reckon_319 0 rfl ?_
                    refine k_iload C dX7_reckon_321 4 rfl ?_
                    refine k_iload_n C dX7_reckon_323 rfl 10 rfl ?_
                    refine k_callS_pi C ms_7_140 (c_X7_table   ) rfl rfl (by simp [Value.category]) ⟨Nat.le_of_ble_eq_true rfl, Nat.le_of_ble_eq_true rfl⟩ ⟨(by decide), (by decide)⟩ dX7_reckon_324 ?_
                    have ne16 : nq wr wc := gv_ne h_wc h_wr (by simp)
                    have ne17 : nq wn wc := gv_ne h_wc h_wn (by simp)
                    refine k_callV C mv_7_159 (c_X7_reckonMinus  ((gv_up_n ne1).trans h_m) ((gv_up_n ne16).trans h_wr) gv_up_s ((gv_up_n ne17).trans h_wn) (by first | assumption | omega) (by first | assumption | omega) (by first | assumption | omega) (by first | assumption | omega) (by first | assumption | omega) (by first | assumption | omega) (by first | assumption | omega) (by first | assumption | omega) (by first | assumption | omega) (by first | assumption | omega)) ((gv_up_n ne1).trans h_m) rfl rfl (by simp [Value.category]) ⟨Nat.le_of_ble_eq_true rfl, Nat.le_of_ble_eq_true rfl⟩ ⟨(by decide), (by decide)⟩ dX7_reckon_327 (fun zv zV zh => ?_)
                    obtain ⟨fr1_w18, fc1_w18, fw1_w18, rfl, rfl, hR1_w18, hK1_w18⟩ := zh
                    refine k_pc (pc' := 330) (st' := []) rfl rfl ?_
                    refine k_view (V1 := gv_up (gv_up (gv_up V wc (.inl (cI, 120, .inl fc1_w18))) wr (.inl (cI, 57600, .inl fr1_w18))) wn (.inl (cI, 6, .inl fw1_w18))) (congrArg (fun W => gv_up W wn (.inl (cI, 6, .inl fw1_w18))) ((gv_uc (Ne.symm ne16)).trans (congrArg (fun W => gv_up W wr (.inl (cI, 57600, .inl fr1_w18))) gv_uu))) ?_
                    refine k_goto (tgt := 454) C dX7_reckon_330 (by decide) ?_
                    have ne19 : nq wv wc := gv_ne h_wc h_wv (by simp)
                    have ne20 : nq wv wr := gv_ne h_wr h_wv (by simp)
                    have ne21 : nq wv wn := gv_ne h_wn h_wv (by simp)
                    refine k_view (V1 := gv_up (gv_up (gv_up (gv_up V wc (.inl (cI, 120, .inl fc1_w18))) wr (.inl (cI, 57600, .inl fr1_w18))) wn (.inl (cI, 6, .inl fw1_w18))) wv (.inl (cI, 30, .inl fv))) (gv_id ((gv_up_n ne21).trans ((gv_up_n ne20).trans ((gv_up_n ne19).trans h_wv)))).symm ?_
                    have ne22 : nq wk wc := gv_ne h_wc h_wk (by simp)
                    have ne23 : nq wk wr := gv_ne h_wr h_wk (by simp)
                    have ne24 : nq wk wn := gv_ne h_wn h_wk (by simp)
                    have ne25 : nq wk wv := gv_ne h_wv h_wk (by simp)
                    refine k_view (V1 := gv_up (gv_up (gv_up (gv_up (gv_up V wc (.inl (cI, 120, .inl fc1_w18))) wr (.inl (cI, 57600, .inl fr1_w18))) wn (.inl (cI, 6, .inl fw1_w18))) wv (.inl (cI, 30, .inl fv))) wk (.inl (cI, 80, .inl fk))) (gv_id ((gv_up_n ne25).trans ((gv_up_n ne24).trans ((gv_up_n ne23).trans ((gv_up_n ne22).trans h_wk))))).symm ?_
                    have ne26 : nq wp wc := gv_ne h_wc h_wp (by simp)
                    have ne27 : nq wp wr := gv_ne h_wr h_wp (by simp)
                    have ne28 : nq wp wn := gv_ne h_wn h_wp (by simp)
                    have ne29 : nq wp wv := gv_ne h_wv h_wp (by simp)
                    refine k_view (V1 := gv_up (gv_up (gv_up (gv_up (gv_up (gv_up V wc (.inl (cI, 120, .inl fc1_w18))) wr (.inl (cI, 57600, .inl fr1_w18))) wn (.inl (cI, 6, .inl fw1_w18))) wv (.inl (cI, 30, .inl fv))) wk (.inl (cI, 80, .inl fk))) wp (.inl (cI, 80, .inl fp))) (gv_id ((gv_up_n (Ne.symm hwkp)).trans ((gv_up_n ne29).trans ((gv_up_n ne28).trans ((gv_up_n ne27).trans ((gv_up_n ne26).trans h_wp)))))).symm ?_
                    refine k_view (V1 := gv_up (gv_up (gv_up (gv_up (gv_up (gv_up V wr (.inl (cI, 57600, .inl fr1_w18))) wc (.inl (cI, 120, .inl fc1_w18))) wn (.inl (cI, 6, .inl fw1_w18))) wv (.inl (cI, 30, .inl fv))) wk (.inl (cI, 80, .inl fk))) wp (.inl (cI, 80, .inl fp))) (congrArg (fun W => gv_up W wp (.inl (cI, 80, .inl fp))) (congrArg (fun W => gv_up W wk (.inl (cI, 80, .inl fk))) (congrArg (fun W => gv_up W wv (.inl (cI, 30, .inl fv))) (congrArg (fun W => gv_up W wn (.inl (cI, 6, .inl fw1_w18))) (gv_uc ne16))))) ?_
                    exact k_vret C zr zlk ⟨fr1_w18, fc1_w18, fw1_w18, fv, fk, fp, rfl, rfl, (by rw [eA, eB]; exact (MRep.tb hR1_w18)), (Kp.up.tr hK1_w18)⟩ (Nat.le_refl _) (Nat.le_refl _) dX7_reckon_454
                  · exact absurd c178 (by decide)
                · skip
                  have b166 : ((S b g).isNone) = true := bI_n.mp c166
                  refine k_iconst (v := nI 1) C dX7_reckon_169 rfl ?_
                  refine k_goto (tgt := 174) C dX7_reckon_170 (by decide) ?_
                  refine k_istore (lv' := [(9, .int (nI 1)), (8, .int (nI 1)), (7, .int (nI (4 * i + g))), (6, .int (nI b)), (5, .int (nI a)), (4, .int (nI 3)), (3, .int (nI (6 * i))), (0, .ref m), (1, .int (nI i)), (2, .int (nI g))]) C dX7_reckon_174 (by decide) rfl ?_
                  refine k_iload C dX7_reckon_176 0 rfl ?_
                  refine k_if_eq (tgt := 191) C dX7_reckon_178 (by decide) (fun c178 => ?_) (fun c178 => ?_)
                  · exact absurd c178 (by decide)
                  · skip
                    have b178 : ¬ 1 = 0 := fun z => c178 ((nI_eq (a := 1) (b := 0) (by omega) (by omega)).mpr z)
                    refine k_aload_n C dX7_reckon_181 rfl 7 rfl ?_
                    refine k_get (ci := 7) (k := 9) C fl_7_26 ((gv_up_n ne1).trans h_m) rfl dX7_reckon_182 ?_
                    refine k_iload C dX7_reckon_185 2 rfl ?_
                    refine k_bipush (v := (-2 : Int32)) C dX7_reckon_187 (by decide) ?_
                    refine k_iast (f' := upd (upd fc (4 * i + g) (nI 0)) (4 * i + g) (-2 : Int32)) C 0 gv_up_s rfl (vp_in_nI (by omega) (by omega)) (by rw [nI_clamp (by omega)]) dX7_reckon_189 ?_
                    refine k_view (V1 := gv_up V wc (.inl (cI, 120, .inl (upd (upd fc (4 * i + g) (nI 0)) (4 * i + g) (-2 : Int32))))) gv_uu ?_
                    have ne30 : nq wr wc := gv_ne h_wc h_wr (by simp)
                    refine k_view (V1 := gv_up (gv_up V wc (.inl (cI, 120, .inl (upd (upd fc (4 * i + g) (nI 0)) (4 * i + g) (-2 : Int32))))) wr (.inl (cI, 57600, .inl fr))) (gv_id ((gv_up_n ne30).trans h_wr)).symm ?_
                    have ne31 : nq wn wc := gv_ne h_wc h_wn (by simp)
                    have ne32 : nq wn wr := gv_ne h_wr h_wn (by simp)
                    refine k_view (V1 := gv_up (gv_up (gv_up V wc (.inl (cI, 120, .inl (upd (upd fc (4 * i + g) (nI 0)) (4 * i + g) (-2 : Int32))))) wr (.inl (cI, 57600, .inl fr))) wn (.inl (cI, 6, .inl fw))) (gv_id ((gv_up_n ne32).trans ((gv_up_n ne31).trans h_wn))).symm ?_
                    have ne33 : nq wv wc := gv_ne h_wc h_wv (by simp)
                    have ne34 : nq wv wr := gv_ne h_wr h_wv (by simp)
                    have ne35 : nq wv wn := gv_ne h_wn h_wv (by simp)
                    refine k_view (V1 := gv_up (gv_up (gv_up (gv_up V wc (.inl (cI, 120, .inl (upd (upd fc (4 * i + g) (nI 0)) (4 * i + g) (-2 : Int32))))) wr (.inl (cI, 57600, .inl fr))) wn (.inl (cI, 6, .inl fw))) wv (.inl (cI, 30, .inl fv))) (gv_id ((gv_up_n ne35).trans ((gv_up_n ne34).trans ((gv_up_n ne33).trans h_wv)))).symm ?_
                    have ne36 : nq wk wc := gv_ne h_wc h_wk (by simp)
                    have ne37 : nq wk wr := gv_ne h_wr h_wk (by simp)
                    have ne38 : nq wk wn := gv_ne h_wn h_wk (by simp)
                    have ne39 : nq wk wv := gv_ne h_wv h_wk (by simp)
                    refine k_view (V1 := gv_up (gv_up (gv_up (gv_up (gv_up V wc (.inl (cI, 120, .inl (upd (upd fc (4 * i + g) (nI 0)) (4 * i + g) (-2 : Int32))))) wr (.inl (cI, 57600, .inl fr))) wn (.inl (cI, 6, .inl fw))) wv (.inl (cI, 30, .inl fv))) wk (.inl (cI, 80, .inl fk))) (gv_id ((gv_up_n ne39).trans ((gv_up_n ne38).trans ((gv_up_n ne37).trans ((gv_up_n ne36).trans h_wk))))).symm ?_
                    have ne40 : nq wp wc := gv_ne h_wc h_wp (by simp)
                    have ne41 : nq wp wr := gv_ne h_wr h_wp (by simp)
                    have ne42 : nq wp wn := gv_ne h_wn h_wp (by simp)
                    have ne43 : nq wp wv := gv_ne h_wv h_wp (by simp)
                    refine k_view (V1 := gv_up (gv_up (gv_up (gv_up (gv_up (gv_up V wc (.inl (cI, 120, .inl (upd (upd fc (4 * i + g) (nI 0)) (4 * i + g) (-2 : Int32))))) wr (.inl (cI, 57600, .inl fr))) wn (.inl (cI, 6, .inl fw))) wv (.inl (cI, 30, .inl fv))) wk (.inl (cI, 80, .inl fk))) wp (.inl (cI, 80, .inl fp))) (gv_id ((gv_up_n (Ne.symm hwkp)).trans ((gv_up_n ne43).trans ((gv_up_n ne42).trans ((gv_up_n ne41).trans ((gv_up_n ne40).trans h_wp)))))).symm ?_
                    refine k_view (V1 := gv_up (gv_up (gv_up (gv_up (gv_up (gv_up V wr (.inl (cI, 57600, .inl fr))) wc (.inl (cI, 120, .inl (upd (upd fc (4 * i + g) (nI 0)) (4 * i + g) (-2 : Int32))))) wn (.inl (cI, 6, .inl fw))) wv (.inl (cI, 30, .inl fv))) wk (.inl (cI, 80, .inl fk))) wp (.inl (cI, 80, .inl fp))) (congrArg (fun W => gv_up W wp (.inl (cI, 80, .inl fp))) (congrArg (fun W => gv_up W wk (.inl (cI, 80, .inl fk))) (congrArg (fun W => gv_up W wv (.inl (cI, 30, .inl fv))) (congrArg (fun W => gv_up W wn (.inl (cI, 6, .inl fw))) (gv_uc ne30))))) ?_
                    exact k_vret C zr zlk ⟨fr, upd (upd fc (4 * i + g) (nI 0)) (4 * i + g) (-2 : Int32), fw, fv, fk, fp, rfl, rfl, (MTb.no (by rw [isN0 b166]; cases S a g <;> rfl) upd_at), (Kp.up.tr Kp.up)⟩ (Nat.le_refl _) (Nat.le_refl _) dX7_reckon_190
          · exact absurd c103 (by decide)
        · exact absurd c85 (by decide)
  · exact absurd c50 (by decide)
set_option maxHeartbeats 4000000 in
set_option maxRecDepth 100000 in
theorem c_reckon4n {zl : Launch} {D : va_G} {cI cN cR : ClassId} {base : Nat} {V : gv_V} {m wt wa wv wm wr wc wn ws wk wp nt ne nn sh : Nat} {kn : Int32} {ft fa fv fm fr fc fw fk fp : Nat → Int32} {i g a b : Nat} {S : Nat → Nat → Option (List Row)} {E : Nat → Ex}  (h_m : V m = some (.inr (7, [.int (nI nt), .ref wt, .int (nI ne), .ref wa, .ref wv, .int (nI nn), .ref wm, .int kn, .ref wr, .ref wc, .ref wn, .int (nI sh), .ref ws, .ref wk, .ref wp]))) (h_wr : V wr = some (.inl (cI, 57600, .inl fr))) (h_wc : V wc = some (.inl (cI, 120, .inl fc))) (h_wn : V wn = some (.inl (cI, 6, .inl fw))) (h_wv : V wv = some (.inl (cI, 30, .inl fv))) (h_wk : V wk = some (.inl (cI, 80, .inl fk))) (h_wp : V wp = some (.inl (cI, 80, .inl fp))) (h_wa : V wa = some (.inl (cI, 90, .inl fa))) (h_wm : V wm = some (.inl (cI, 180, .inl fm))) (h_wt : V wt = some (.inl (cI, 240, .inl ft))) (hi : i < 30) (hg : g < 4) (hm0 : fm (6 * i) = nI 4) (hwkp : nq wk wp) (hm1 : fm (6 * i + 1) = nI a) (ha : a < i) (hm2 : fm (6 * i + 2) = nI b) (hb : b < i) (hm3 : fm (6 * i + 3) = -1) (hS : ∀ j z1, j < i → z1 < 4 → MTb (S j z1) (fc (4 * j + z1)) (tbl fr (4 * j + z1))) : ct zl D [(cI, .int), (cN, .object "AlgebraTree$Node"), (cR, .object "AlgebraTree$Rows")] base yX7_reckon cX7_reckon 11 none 5 0 0 [.ref m, .int (nI i), .int (nI g)] V (fun zv zV => ∃ fr1 : Nat → Int32, ∃ fc1 : Nat → Int32, ∃ fw1 : Nat → Int32, ∃ fv1 : Nat → Int32, ∃ fk1 : Nat → Int32, ∃ fp1 : Nat → Int32, zv = none ∧ zV = gv_up (gv_up (gv_up (gv_up (gv_up (gv_up V wr (.inl (cI, 57600, .inl fr1))) wc (.inl (cI, 120, .inl fc1))) wn (.inl (cI, 6, .inl fw1))) wv (.inl (cI, 30, .inl fv1))) wk (.inl (cI, 80, .inl fk1))) wp (.inl (cI, 80, .inl fp1)) ∧ (MTb ((S a g).bind (fun A => (S b g).bind (fun B => cap (leftL (lcnd E (-1)) A B)))) (fc1 (4 * i + g)) (tbl fr1 (4 * i + g))) ∧ (Kp (4 * i + g) fc fr fc1 fr1)) := by
  refine ct_of "AlgebraTreeModel" rfl (by decide) (Nat.le_of_ble_eq_true rfl) ?_
  intro zp ze zs zm zargs zbelow zmeth zc C zr zlk znm
  refine k_pc (pc' := 0) (st' := []) rfl rfl ?_
  show K zp zl ze (gv_rm 5 0 0) zs zm zargs zbelow zmeth zc D base 11 (gv_E D [(cI, .int), (cN, .object "AlgebraTree$Node"), (cR, .object "AlgebraTree$Rows")] base zbelow zargs zs 0 0 (fun zv zV => ∃ fr1 : Nat → Int32, ∃ fc1 : Nat → Int32, ∃ fw1 : Nat → Int32, ∃ fv1 : Nat → Int32, ∃ fk1 : Nat → Int32, ∃ fp1 : Nat → Int32, zv = none ∧ zV = gv_up (gv_up (gv_up (gv_up (gv_up (gv_up V wr (.inl (cI, 57600, .inl fr1))) wc (.inl (cI, 120, .inl fc1))) wn (.inl (cI, 6, .inl fw1))) wv (.inl (cI, 30, .inl fv1))) wk (.inl (cI, 80, .inl fk1))) wp (.inl (cI, 80, .inl fp1)) ∧ (MTb ((S a g).bind (fun A => (S b g).bind (fun B => cap (leftL (lcnd E (-1)) A B)))) (fc1 (4 * i + g)) (tbl fr1 (4 * i + g))) ∧ (Kp (4 * i + g) fc fr fc1 fr1))) V 0 0 [(0, .ref m), (1, .int (nI i)), (2, .int (nI g))] 0 []
  refine k_bipush (v := nI 6) C dX7_reckon_0 rfl ?_
  refine k_iload_n C dX7_reckon_2 rfl 1 rfl ?_
  refine k_imul C dX7_reckon_3 ?_
  refine k_val (y := nI (6 * i)) (pk_mul 6 i) ?_
  refine k_istore_n (lv' := [(3, .int (nI (6 * i))), (0, .ref m), (1, .int (nI i)), (2, .int (nI g))]) C dX7_reckon_4 rfl (by decide) rfl ?_
  refine k_aload_n C dX7_reckon_5 rfl 1 rfl ?_
  refine k_get (ci := 7) (k := 6) C fl_7_19 h_m rfl dX7_reckon_6 ?_
  refine k_iload_n C dX7_reckon_9 rfl 0 rfl ?_
  refine k_iald (v := fm (6 * i)) C 0 h_wm rfl (vp_in_nI (by omega) (by omega)) (by rw [nI_clamp (by omega)]) dX7_reckon_10 ?_
  refine k_val (y := nI 4) hm0 ?_
  refine k_istore (lv' := [(4, .int (nI 4)), (3, .int (nI (6 * i))), (0, .ref m), (1, .int (nI i)), (2, .int (nI g))]) C dX7_reckon_11 (by decide) rfl ?_
  refine k_aload_n C dX7_reckon_13 rfl 2 rfl ?_
  refine k_get (ci := 7) (k := 6) C fl_7_19 h_m rfl dX7_reckon_14 ?_
  refine k_iload_n C dX7_reckon_17 rfl 1 rfl ?_
  refine k_iconst (v := nI 1) C dX7_reckon_18 rfl ?_
  refine k_iadd C dX7_reckon_19 ?_
  refine k_val (y := nI ((6 * i) + 1)) (nI_add (6 * i) 1) ?_
  refine k_iald (v := fm ((6 * i) + 1)) C 0 h_wm rfl (vp_in_nI (by omega) (by omega)) (by rw [nI_clamp (by omega)]) dX7_reckon_20 ?_
  refine k_val (y := nI a) hm1 ?_
  refine k_istore (lv' := [(5, .int (nI a)), (4, .int (nI 4)), (3, .int (nI (6 * i))), (0, .ref m), (1, .int (nI i)), (2, .int (nI g))]) C dX7_reckon_21 (by decide) rfl ?_
  refine k_aload_n C dX7_reckon_23 rfl 3 rfl ?_
  refine k_get (ci := 7) (k := 6) C fl_7_19 h_m rfl dX7_reckon_24 ?_
  refine k_iload_n C dX7_reckon_27 rfl 2 rfl ?_
  refine k_iconst (v := nI 2) C dX7_reckon_28 rfl ?_
  refine k_iadd C dX7_reckon_29 ?_
  refine k_val (y := nI ((6 * i) + 2)) (nI_add (6 * i) 2) ?_
  refine k_iald (v := fm ((6 * i) + 2)) C 0 h_wm rfl (vp_in_nI (by omega) (by omega)) (by rw [nI_clamp (by omega)]) dX7_reckon_30 ?_
  refine k_val (y := nI b) hm2 ?_
  refine k_istore (lv' := [(6, .int (nI b)), (5, .int (nI a)), (4, .int (nI 4)), (3, .int (nI (6 * i))), (0, .ref m), (1, .int (nI i)), (2, .int (nI g))]) C dX7_reckon_31 (by decide) rfl ?_
  refine k_iload_n C dX7_reckon_33 rfl 5 rfl ?_
  refine k_iload_n C dX7_reckon_34 rfl 6 rfl ?_
  refine k_callS_pi C ms_7_140 (c_X7_table   ) rfl rfl (by simp [Value.category]) ⟨Nat.le_of_ble_eq_true rfl, Nat.le_of_ble_eq_true rfl⟩ ⟨(by decide), (by decide)⟩ dX7_reckon_35 ?_
  refine k_istore (lv' := [(7, .int (nI (4 * i + g))), (6, .int (nI b)), (5, .int (nI a)), (4, .int (nI 4)), (3, .int (nI (6 * i))), (0, .ref m), (1, .int (nI i)), (2, .int (nI g))]) C dX7_reckon_38 (by decide) rfl ?_
  refine k_aload_n C dX7_reckon_40 rfl 5 rfl ?_
  refine k_get (ci := 7) (k := 9) C fl_7_26 h_m rfl dX7_reckon_41 ?_
  refine k_iload C dX7_reckon_44 0 rfl ?_
  refine k_iconst (v := nI 0) C dX7_reckon_46 rfl ?_
  refine k_iast (f' := upd fc (4 * i + g) (nI 0)) C 0 h_wc rfl (vp_in_nI (by omega) (by omega)) (by rw [nI_clamp (by omega)]) dX7_reckon_47 ?_
  have hS0 : ∀ j z, j < i → z < 4 → MTb (S j z) (upd fc (4 * i + g) (nI 0) (4 * j + z)) (tbl fr (4 * j + z)) := fun j z hj hz => (hS j z hj hz).up (by omega)
  have hc0 : upd fc (4 * i + g) (nI 0) (4 * i + g) = 0 := upd_at
  refine k_iload C dX7_reckon_48 3 rfl ?_
  refine k_if_ne (tgt := 62) C dX7_reckon_50 (by decide) (fun c50 => ?_) (fun c50 => ?_)
  · skip
    have b50 : ¬ 4 = 0 := fun z => c50 ((nI_eq (a := 4) (b := 0) (by omega) (by omega)).mpr z)
    refine k_iload C dX7_reckon_62 3 rfl ?_
    refine k_iconst (v := nI 1) C dX7_reckon_64 rfl ?_
    refine k_icmp_lt (tgt := 78) C dX7_reckon_65 (by decide) (fun c65 => ?_) (fun c65 => ?_)
    · exact absurd c65 (by decide)
    · skip
      have b65 : ¬ 4 < 1 := fun z => c65 ((nI_ltI (a := 4) (b := 1) (by omega) (by omega)).mpr z)
      refine k_iload C dX7_reckon_68 3 rfl ?_
      refine k_iconst (v := nI 4) C dX7_reckon_70 rfl ?_
      refine k_icmp_gt (tgt := 78) C dX7_reckon_71 (by decide) (fun c71 => ?_) (fun c71 => ?_)
      · exact absurd c71 (by decide)
      · skip
        have b71 : ¬ 4 < 4 := fun z => c71 ((nI_ltI (a := 4) (b := 4) (by omega) (by omega)).mpr z)
        refine k_iconst (v := nI 1) C dX7_reckon_74 rfl ?_
        refine k_goto (tgt := 79) C dX7_reckon_75 (by decide) ?_
        refine k_istore (lv' := [(8, .int (nI 1)), (7, .int (nI (4 * i + g))), (6, .int (nI b)), (5, .int (nI a)), (4, .int (nI 4)), (3, .int (nI (6 * i))), (0, .ref m), (1, .int (nI i)), (2, .int (nI g))]) C dX7_reckon_79 (by decide) rfl ?_
        refine k_iload C dX7_reckon_81 4 rfl ?_
        refine k_bipush (v := nI 12) C dX7_reckon_83 rfl ?_
        refine k_icmp_ne (tgt := 99) C dX7_reckon_85 (by decide) (fun c85 => ?_) (fun c85 => ?_)
        · skip
          have b85 : ¬ 4 = 12 := fun z => c85 ((nI_eq (a := 4) (b := 12) (by omega) (by omega)).mpr z)
          refine k_iload C dX7_reckon_99 4 rfl ?_
          refine k_bipush (v := nI 13) C dX7_reckon_101 rfl ?_
          refine k_icmp_ne (tgt := 144) C dX7_reckon_103 (by decide) (fun c103 => ?_) (fun c103 => ?_)
          · skip
            have b103 : ¬ 4 = 13 := fun z => c103 ((nI_eq (a := 4) (b := 13) (by omega) (by omega)).mpr z)
            refine k_aload_n C dX7_reckon_144 rfl 6 rfl ?_
            refine k_iload C dX7_reckon_145 3 rfl ?_
            refine k_iload_n C dX7_reckon_147 rfl 8 rfl ?_
            have ne1 : nq m wc := gv_ne h_wc h_m (by simp)
            refine k_callV_pi C mv_7_148 (c_X7_isLong  ((gv_up_n ne1).trans h_m) gv_up_s (by omega) (by omega) (hS0 a g (by omega) (by omega))) ((gv_up_n ne1).trans h_m) rfl rfl (by simp [Value.category]) ⟨Nat.le_of_ble_eq_true rfl, Nat.le_of_ble_eq_true rfl⟩ ⟨(by decide), (by decide)⟩ dX7_reckon_148 ?_
            refine k_if_ne (tgt := 169) C dX7_reckon_151 (by decide) (fun c151 => ?_) (fun c151 => ?_)
            · skip
              have b151 : ((S a g).isNone) = true := bI_n.mp c151
              refine k_iconst (v := nI 1) C dX7_reckon_169 rfl ?_
              refine k_goto (tgt := 174) C dX7_reckon_170 (by decide) ?_
              refine k_istore (lv' := [(9, .int (nI 1)), (8, .int (nI 1)), (7, .int (nI (4 * i + g))), (6, .int (nI b)), (5, .int (nI a)), (4, .int (nI 4)), (3, .int (nI (6 * i))), (0, .ref m), (1, .int (nI i)), (2, .int (nI g))]) C dX7_reckon_174 (by decide) rfl ?_
              refine k_iload C dX7_reckon_176 0 rfl ?_
              refine k_if_eq (tgt := 191) C dX7_reckon_178 (by decide) (fun c178 => ?_) (fun c178 => ?_)
              · exact absurd c178 (by decide)
              · skip
                have b178 : ¬ 1 = 0 := fun z => c178 ((nI_eq (a := 1) (b := 0) (by omega) (by omega)).mpr z)
                refine k_aload_n C dX7_reckon_181 rfl 7 rfl ?_
                refine k_get (ci := 7) (k := 9) C fl_7_26 ((gv_up_n ne1).trans h_m) rfl dX7_reckon_182 ?_
                refine k_iload C dX7_reckon_185 2 rfl ?_
                refine k_bipush (v := (-2 : Int32)) C dX7_reckon_187 (by decide) ?_
                refine k_iast (f' := upd (upd fc (4 * i + g) (nI 0)) (4 * i + g) (-2 : Int32)) C 0 gv_up_s rfl (vp_in_nI (by omega) (by omega)) (by rw [nI_clamp (by omega)]) dX7_reckon_189 ?_
                refine k_view (V1 := gv_up V wc (.inl (cI, 120, .inl (upd (upd fc (4 * i + g) (nI 0)) (4 * i + g) (-2 : Int32))))) gv_uu ?_
                have ne2 : nq wr wc := gv_ne h_wc h_wr (by simp)
                refine k_view (V1 := gv_up (gv_up V wc (.inl (cI, 120, .inl (upd (upd fc (4 * i + g) (nI 0)) (4 * i + g) (-2 : Int32))))) wr (.inl (cI, 57600, .inl fr))) (gv_id ((gv_up_n ne2).trans h_wr)).symm ?_
                have ne3 : nq wn wc := gv_ne h_wc h_wn (by simp)
                have ne4 : nq wn wr := gv_ne h_wr h_wn (by simp)
                refine k_view (V1 := gv_up (gv_up (gv_up V wc (.inl (cI, 120, .inl (upd (upd fc (4 * i + g) (nI 0)) (4 * i + g) (-2 : Int32))))) wr (.inl (cI, 57600, .inl fr))) wn (.inl (cI, 6, .inl fw))) (gv_id ((gv_up_n ne4).trans ((gv_up_n ne3).trans h_wn))).symm ?_
                have ne5 : nq wv wc := gv_ne h_wc h_wv (by simp)
                have ne6 : nq wv wr := gv_ne h_wr h_wv (by simp)
                have ne7 : nq wv wn := gv_ne h_wn h_wv (by simp)
                refine k_view (V1 := gv_up (gv_up (gv_up (gv_up V wc (.inl (cI, 120, .inl (upd (upd fc (4 * i + g) (nI 0)) (4 * i + g) (-2 : Int32))))) wr (.inl (cI, 57600, .inl fr))) wn (.inl (cI, 6, .inl fw))) wv (.inl (cI, 30, .inl fv))) (gv_id ((gv_up_n ne7).trans ((gv_up_n ne6).trans ((gv_up_n ne5).trans h_wv)))).symm ?_
                have ne8 : nq wk wc := gv_ne h_wc h_wk (by simp)
                have ne9 : nq wk wr := gv_ne h_wr h_wk (by simp)
                have ne10 : nq wk wn := gv_ne h_wn h_wk (by simp)
                have ne11 : nq wk wv := gv_ne h_wv h_wk (by simp)
                refine k_view (V1 := gv_up (gv_up (gv_up (gv_up (gv_up V wc (.inl (cI, 120, .inl (upd (upd fc (4 * i + g) (nI 0)) (4 * i + g) (-2 : Int32))))) wr (.inl (cI, 57600, .inl fr))) wn (.inl (cI, 6, .inl fw))) wv (.inl (cI, 30, .inl fv))) wk (.inl (cI, 80, .inl fk))) (gv_id ((gv_up_n ne11).trans ((gv_up_n ne10).trans ((gv_up_n ne9).trans ((gv_up_n ne8).trans h_wk))))).symm ?_
                have ne12 : nq wp wc := gv_ne h_wc h_wp (by simp)
                have ne13 : nq wp wr := gv_ne h_wr h_wp (by simp)
                have ne14 : nq wp wn := gv_ne h_wn h_wp (by simp)
                have ne15 : nq wp wv := gv_ne h_wv h_wp (by simp)
                refine k_view (V1 := gv_up (gv_up (gv_up (gv_up (gv_up (gv_up V wc (.inl (cI, 120, .inl (upd (upd fc (4 * i + g) (nI 0)) (4 * i + g) (-2 : Int32))))) wr (.inl (cI, 57600, .inl fr))) wn (.inl (cI, 6, .inl fw))) wv (.inl (cI, 30, .inl fv))) wk (.inl (cI, 80, .inl fk))) wp (.inl (cI, 80, .inl fp))) (gv_id ((gv_up_n (Ne.symm hwkp)).trans ((gv_up_n ne15).trans ((gv_up_n ne14).trans ((gv_up_n ne13).trans ((gv_up_n ne12).trans h_wp)))))).symm ?_
                refine k_view (V1 := gv_up (gv_up (gv_up (gv_up (gv_up (gv_up V wr (.inl (cI, 57600, .inl fr))) wc (.inl (cI, 120, .inl (upd (upd fc (4 * i + g) (nI 0)) (4 * i + g) (-2 : Int32))))) wn (.inl (cI, 6, .inl fw))) wv (.inl (cI, 30, .inl fv))) wk (.inl (cI, 80, .inl fk))) wp (.inl (cI, 80, .inl fp))) (congrArg (fun W => gv_up W wp (.inl (cI, 80, .inl fp))) (congrArg (fun W => gv_up W wk (.inl (cI, 80, .inl fk))) (congrArg (fun W => gv_up W wv (.inl (cI, 30, .inl fv))) (congrArg (fun W => gv_up W wn (.inl (cI, 6, .inl fw))) (gv_uc ne2))))) ?_
                exact k_vret C zr zlk ⟨fr, upd (upd fc (4 * i + g) (nI 0)) (4 * i + g) (-2 : Int32), fw, fv, fk, fp, rfl, rfl, (MTb.no (by rw [isN0 b151]; rfl) upd_at), (Kp.up.tr Kp.up)⟩ (Nat.le_refl _) (Nat.le_refl _) dX7_reckon_190
            · skip
              have b151 : ((S a g).isNone) = false := bI_0.mp c151
              obtain ⟨A, eA⟩ := isN b151
              obtain ⟨hcA, hA⟩ := (hS0 a g ha (by omega)).sm eA
              refine k_iload C dX7_reckon_154 0 rfl ?_
              refine k_if_eq (tgt := 173) C dX7_reckon_156 (by decide) (fun c156 => ?_) (fun c156 => ?_)
              · exact absurd c156 (by decide)
              · skip
                have b156 : ¬ 1 = 0 := fun z => c156 ((nI_eq (a := 1) (b := 0) (by omega) (by omega)).mpr z)
                refine k_aload_n C dX7_reckon_159 rfl 6 rfl ?_
                refine k_iload C dX7_reckon_160 2 rfl ?_
                refine k_iload_n C dX7_reckon_162 rfl 8 rfl ?_
                refine k_callV_pi C mv_7_148 (c_X7_isLong  ((gv_up_n ne1).trans h_m) gv_up_s (by omega) (by omega) (hS0 b g (by omega) (by omega))) ((gv_up_n ne1).trans h_m) rfl rfl (by simp [Value.category]) ⟨Nat.le_of_ble_eq_true rfl, Nat.le_of_ble_eq_true rfl⟩ ⟨(by decide), (by decide)⟩ dX7_reckon_163 ?_
                refine k_if_eq (tgt := 173) C dX7_reckon_166 (by decide) (fun c166 => ?_) (fun c166 => ?_)
                · skip
                  have b166 : ((S b g).isNone) = false := bI_0.mp c166
                  obtain ⟨B, eB⟩ := isN b166
                  obtain ⟨hcB, hB⟩ := (hS0 b g hb (by omega)).sm eB
                  refine k_iconst (v := nI 0) C dX7_reckon_173 rfl ?_
                  refine k_istore (lv' := [(9, .int (nI 0)), (8, .int (nI 1)), (7, .int (nI (4 * i + g))), (6, .int (nI b)), (5, .int (nI a)), (4, .int (nI 4)), (3, .int (nI (6 * i))), (0, .ref m), (1, .int (nI i)), (2, .int (nI g))]) C dX7_reckon_174 (by decide) rfl ?_
                  refine k_iload C dX7_reckon_176 0 rfl ?_
                  refine k_if_eq (tgt := 191) C dX7_reckon_178 (by decide) (fun c178 => ?_) (fun c178 => ?_)
                  · skip
                    have b178 : 0 = 0 := (nI_eq (a := 0) (b := 0) (by omega) (by omega)).mp c178
                    refine k_iload C dX7_reckon_191 4 rfl ?_
                    refine k_iload_n C dX7_reckon_193 rfl 9 rfl ?_
                    refine k_callS_pi C ms_7_140 (c_X7_table   ) rfl rfl (by simp [Value.category]) ⟨Nat.le_of_ble_eq_true rfl, Nat.le_of_ble_eq_true rfl⟩ ⟨(by decide), (by decide)⟩ dX7_reckon_194 ?_
                    refine k_istore (lv' := [(10, .int (nI (4 * a + g))), (9, .int (nI 0)), (8, .int (nI 1)), (7, .int (nI (4 * i + g))), (6, .int (nI b)), (5, .int (nI a)), (4, .int (nI 4)), (3, .int (nI (6 * i))), (0, .ref m), (1, .int (nI i)), (2, .int (nI g))]) C dX7_reckon_197 (by decide) rfl ?_
                    refine k_iload C dX7_reckon_199 6 rfl ?_
                    refine k_tableIn (tgt := 333) C dX7_reckon_201 (by decide) (by decide) rfl (by decide) ?_
                    refine k_aload_n C dX7_reckon_333 rfl 8 rfl ?_
                    refine k_iload C dX7_reckon_334 3 rfl ?_
                    refine k_iload C dX7_reckon_336 0 rfl ?_
                    refine k_iload C dX7_reckon_338 4 rfl ?_
                    refine k_iload_n C dX7_reckon_340 rfl 10 rfl ?_
                    refine k_callS_pi C ms_7_140 (c_X7_table   ) rfl rfl (by simp [Value.category]) ⟨Nat.le_of_ble_eq_true rfl, Nat.le_of_ble_eq_true rfl⟩ ⟨(by decide), (by decide)⟩ dX7_reckon_341 ?_
                    refine k_iconst (v := nI 1) C dX7_reckon_344 rfl ?_
                    refine k_aload_n C dX7_reckon_345 rfl 8 rfl ?_
                    refine k_get (ci := 7) (k := 6) C fl_7_19 ((gv_up_n ne1).trans h_m) rfl dX7_reckon_346 ?_
                    refine k_iload_n C dX7_reckon_349 rfl 7 rfl ?_
                    refine k_iconst (v := nI 3) C dX7_reckon_350 rfl ?_
                    refine k_iadd C dX7_reckon_351 ?_
                    refine k_val (y := nI ((6 * i) + 3)) (nI_add (6 * i) 3) ?_
                    have ne16 : nq wm wc := gv_ne h_wc h_wm (by simp)
                    refine k_iald (v := fm ((6 * i) + 3)) C 0 ((gv_up_n ne16).trans h_wm) rfl (vp_in_nI (by omega) (by omega)) (by rw [nI_clamp (by omega)]) dX7_reckon_352 ?_
                    refine k_val (y := (-1 : Int32)) hm3 ?_
                    have ne17 : nq wr wc := gv_ne h_wc h_wr (by simp)
                    have ne18 : nq wn wc := gv_ne h_wc h_wn (by simp)
                    refine k_callV C mv_7_151 (c_pairsL (E := E) ((gv_up_n ne1).trans h_m) ((gv_up_n ne17).trans h_wr) gv_up_s ((gv_up_n ne18).trans h_wn) (by first | assumption | omega) (by first | assumption | omega) (by first | assumption | omega) (by first | assumption | omega) (by first | assumption | omega) (by first | assumption | omega) (by first | assumption | omega) (by first | assumption | omega) (by first | assumption | omega) (by first | assumption | omega)) ((gv_up_n ne1).trans h_m) rfl rfl (by simp [Value.category]) ⟨Nat.le_of_ble_eq_true rfl, Nat.le_of_ble_eq_true rfl⟩ ⟨(by decide), (by decide)⟩ dX7_reckon_353 (fun zv zV zh => ?_)
                    obtain ⟨fr1_w19, fc1_w19, fw1_w19, rfl, rfl, hR1_w19, hK1_w19⟩ := zh
                    refine k_pc (pc' := 356) (st' := []) rfl rfl ?_
                    refine k_view (V1 := gv_up (gv_up (gv_up V wc (.inl (cI, 120, .inl fc1_w19))) wr (.inl (cI, 57600, .inl fr1_w19))) wn (.inl (cI, 6, .inl fw1_w19))) (congrArg (fun W => gv_up W wn (.inl (cI, 6, .inl fw1_w19))) ((gv_uc (Ne.symm ne17)).trans (congrArg (fun W => gv_up W wr (.inl (cI, 57600, .inl fr1_w19))) gv_uu))) ?_
                    refine k_goto (tgt := 454) C dX7_reckon_356 (by decide) ?_
                    have ne20 : nq wv wc := gv_ne h_wc h_wv (by simp)
                    have ne21 : nq wv wr := gv_ne h_wr h_wv (by simp)
                    have ne22 : nq wv wn := gv_ne h_wn h_wv (by simp)
                    refine k_view (V1 := gv_up (gv_up (gv_up (gv_up V wc (.inl (cI, 120, .inl fc1_w19))) wr (.inl (cI, 57600, .inl fr1_w19))) wn (.inl (cI, 6, .inl fw1_w19))) wv (.inl (cI, 30, .inl fv))) (gv_id ((gv_up_n ne22).trans ((gv_up_n ne21).trans ((gv_up_n ne20).trans h_wv)))).symm ?_
                    have ne23 : nq wk wc := gv_ne h_wc h_wk (by simp)
                    have ne24 : nq wk wr := gv_ne h_wr h_wk (by simp)
                    have ne25 : nq wk wn := gv_ne h_wn h_wk (by simp)
                    have ne26 : nq wk wv := gv_ne h_wv h_wk (by simp)
                    refine k_view (V1 := gv_up (gv_up (gv_up (gv_up (gv_up V wc (.inl (cI, 120, .inl fc1_w19))) wr (.inl (cI, 57600, .inl fr1_w19))) wn (.inl (cI, 6, .inl fw1_w19))) wv (.inl (cI, 30, .inl fv))) wk (.inl (cI, 80, .inl fk))) (gv_id ((gv_up_n ne26).trans ((gv_up_n ne25).trans ((gv_up_n ne24).trans ((gv_up_n ne23).trans h_wk))))).symm ?_
                    have ne27 : nq wp wc := gv_ne h_wc h_wp (by simp)
                    have ne28 : nq wp wr := gv_ne h_wr h_wp (by simp)
                    have ne29 : nq wp wn := gv_ne h_wn h_wp (by simp)
                    have ne30 : nq wp wv := gv_ne h_wv h_wp (by simp)
                    refine k_view (V1 := gv_up (gv_up (gv_up (gv_up (gv_up (gv_up V wc (.inl (cI, 120, .inl fc1_w19))) wr (.inl (cI, 57600, .inl fr1_w19))) wn (.inl (cI, 6, .inl fw1_w19))) wv (.inl (cI, 30, .inl fv))) wk (.inl (cI, 80, .inl fk))) wp (.inl (cI, 80, .inl fp))) (gv_id ((gv_up_n (Ne.symm hwkp)).trans ((gv_up_n ne30).trans ((gv_up_n ne29).trans ((gv_up_n ne28).trans ((gv_up_n ne27).trans h_wp)))))).symm ?_
                    refine k_view (V1 := gv_up (gv_up (gv_up (gv_up (gv_up (gv_up V wr (.inl (cI, 57600, .inl fr1_w19))) wc (.inl (cI, 120, .inl fc1_w19))) wn (.inl (cI, 6, .inl fw1_w19))) wv (.inl (cI, 30, .inl fv))) wk (.inl (cI, 80, .inl fk))) wp (.inl (cI, 80, .inl fp))) (congrArg (fun W => gv_up W wp (.inl (cI, 80, .inl fp))) (congrArg (fun W => gv_up W wk (.inl (cI, 80, .inl fk))) (congrArg (fun W => gv_up W wv (.inl (cI, 30, .inl fv))) (congrArg (fun W => gv_up W wn (.inl (cI, 6, .inl fw1_w19))) (gv_uc ne17))))) ?_
                    exact k_vret C zr zlk ⟨fr1_w19, fc1_w19, fw1_w19, fv, fk, fp, rfl, rfl, (by rw [eA, eB]; exact (MRep.tb hR1_w19)), (Kp.up.tr hK1_w19)⟩ (Nat.le_refl _) (Nat.le_refl _) dX7_reckon_454
                  · exact absurd c178 (by decide)
                · skip
                  have b166 : ((S b g).isNone) = true := bI_n.mp c166
                  refine k_iconst (v := nI 1) C dX7_reckon_169 rfl ?_
                  refine k_goto (tgt := 174) C dX7_reckon_170 (by decide) ?_
                  refine k_istore (lv' := [(9, .int (nI 1)), (8, .int (nI 1)), (7, .int (nI (4 * i + g))), (6, .int (nI b)), (5, .int (nI a)), (4, .int (nI 4)), (3, .int (nI (6 * i))), (0, .ref m), (1, .int (nI i)), (2, .int (nI g))]) C dX7_reckon_174 (by decide) rfl ?_
                  refine k_iload C dX7_reckon_176 0 rfl ?_
                  refine k_if_eq (tgt := 191) C dX7_reckon_178 (by decide) (fun c178 => ?_) (fun c178 => ?_)
                  · exact absurd c178 (by decide)
                  · skip
                    have b178 : ¬ 1 = 0 := fun z => c178 ((nI_eq (a := 1) (b := 0) (by omega) (by omega)).mpr z)
                    refine k_aload_n C dX7_reckon_181 rfl 7 rfl ?_
                    refine k_get (ci := 7) (k := 9) C fl_7_26 ((gv_up_n ne1).trans h_m) rfl dX7_reckon_182 ?_
                    refine k_iload C dX7_reckon_185 2 rfl ?_
                    refine k_bipush (v := (-2 : Int32)) C dX7_reckon_187 (by decide) ?_
                    refine k_iast (f' := upd (upd fc (4 * i + g) (nI 0)) (4 * i + g) (-2 : Int32)) C 0 gv_up_s rfl (vp_in_nI (by omega) (by omega)) (by rw [nI_clamp (by omega)]) dX7_reckon_189 ?_
                    refine k_view (V1 := gv_up V wc (.inl (cI, 120, .inl (upd (upd fc (4 * i + g) (nI 0)) (4 * i + g) (-2 : Int32))))) gv_uu ?_
                    have ne31 : nq wr wc := gv_ne h_wc h_wr (by simp)
                    refine k_view (V1 := gv_up (gv_up V wc (.inl (cI, 120, .inl (upd (upd fc (4 * i + g) (nI 0)) (4 * i + g) (-2 : Int32))))) wr (.inl (cI, 57600, .inl fr))) (gv_id ((gv_up_n ne31).trans h_wr)).symm ?_
                    have ne32 : nq wn wc := gv_ne h_wc h_wn (by simp)
                    have ne33 : nq wn wr := gv_ne h_wr h_wn (by simp)
                    refine k_view (V1 := gv_up (gv_up (gv_up V wc (.inl (cI, 120, .inl (upd (upd fc (4 * i + g) (nI 0)) (4 * i + g) (-2 : Int32))))) wr (.inl (cI, 57600, .inl fr))) wn (.inl (cI, 6, .inl fw))) (gv_id ((gv_up_n ne33).trans ((gv_up_n ne32).trans h_wn))).symm ?_
                    have ne34 : nq wv wc := gv_ne h_wc h_wv (by simp)
                    have ne35 : nq wv wr := gv_ne h_wr h_wv (by simp)
                    have ne36 : nq wv wn := gv_ne h_wn h_wv (by simp)
                    refine k_view (V1 := gv_up (gv_up (gv_up (gv_up V wc (.inl (cI, 120, .inl (upd (upd fc (4 * i + g) (nI 0)) (4 * i + g) (-2 : Int32))))) wr (.inl (cI, 57600, .inl fr))) wn (.inl (cI, 6, .inl fw))) wv (.inl (cI, 30, .inl fv))) (gv_id ((gv_up_n ne36).trans ((gv_up_n ne35).trans ((gv_up_n ne34).trans h_wv)))).symm ?_
                    have ne37 : nq wk wc := gv_ne h_wc h_wk (by simp)
                    have ne38 : nq wk wr := gv_ne h_wr h_wk (by simp)
                    have ne39 : nq wk wn := gv_ne h_wn h_wk (by simp)
                    have ne40 : nq wk wv := gv_ne h_wv h_wk (by simp)
                    refine k_view (V1 := gv_up (gv_up (gv_up (gv_up (gv_up V wc (.inl (cI, 120, .inl (upd (upd fc (4 * i + g) (nI 0)) (4 * i + g) (-2 : Int32))))) wr (.inl (cI, 57600, .inl fr))) wn (.inl (cI, 6, .inl fw))) wv (.inl (cI, 30, .inl fv))) wk (.inl (cI, 80, .inl fk))) (gv_id ((gv_up_n ne40).trans ((gv_up_n ne39).trans ((gv_up_n ne38).trans ((gv_up_n ne37).trans h_wk))))).symm ?_
                    have ne41 : nq wp wc := gv_ne h_wc h_wp (by simp)
                    have ne42 : nq wp wr := gv_ne h_wr h_wp (by simp)
                    have ne43 : nq wp wn := gv_ne h_wn h_wp (by simp)
                    have ne44 : nq wp wv := gv_ne h_wv h_wp (by simp)
                    refine k_view (V1 := gv_up (gv_up (gv_up (gv_up (gv_up (gv_up V wc (.inl (cI, 120, .inl (upd (upd fc (4 * i + g) (nI 0)) (4 * i + g) (-2 : Int32))))) wr (.inl (cI, 57600, .inl fr))) wn (.inl (cI, 6, .inl fw))) wv (.inl (cI, 30, .inl fv))) wk (.inl (cI, 80, .inl fk))) wp (.inl (cI, 80, .inl fp))) (gv_id ((gv_up_n (Ne.symm hwkp)).trans ((gv_up_n ne44).trans ((gv_up_n ne43).trans ((gv_up_n ne42).trans ((gv_up_n ne41).trans h_wp)))))).symm ?_
                    refine k_view (V1 := gv_up (gv_up (gv_up (gv_up (gv_up (gv_up V wr (.inl (cI, 57600, .inl fr))) wc (.inl (cI, 120, .inl (upd (upd fc (4 * i + g) (nI 0)) (4 * i + g) (-2 : Int32))))) wn (.inl (cI, 6, .inl fw))) wv (.inl (cI, 30, .inl fv))) wk (.inl (cI, 80, .inl fk))) wp (.inl (cI, 80, .inl fp))) (congrArg (fun W => gv_up W wp (.inl (cI, 80, .inl fp))) (congrArg (fun W => gv_up W wk (.inl (cI, 80, .inl fk))) (congrArg (fun W => gv_up W wv (.inl (cI, 30, .inl fv))) (congrArg (fun W => gv_up W wn (.inl (cI, 6, .inl fw))) (gv_uc ne31))))) ?_
                    exact k_vret C zr zlk ⟨fr, upd (upd fc (4 * i + g) (nI 0)) (4 * i + g) (-2 : Int32), fw, fv, fk, fp, rfl, rfl, (MTb.no (by rw [isN0 b166]; cases S a g <;> rfl) upd_at), (Kp.up.tr Kp.up)⟩ (Nat.le_refl _) (Nat.le_refl _) dX7_reckon_190
          · exact absurd c103 (by decide)
        · exact absurd c85 (by decide)
  · exact absurd c50 (by decide)
set_option maxHeartbeats 4000000 in
set_option maxRecDepth 100000 in
theorem c_reckon4e {zl : Launch} {D : va_G} {cI cN cR : ClassId} {base : Nat} {V : gv_V} {m wt wa wv wm wr wc wn ws wk wp nt ne nn sh : Nat} {kn : Int32} {ft fa fv fm fr fc fw fk fp : Nat → Int32} {i g a b e : Nat} {S : Nat → Nat → Option (List Row)} {E : Nat → Ex}  (h_m : V m = some (.inr (7, [.int (nI nt), .ref wt, .int (nI ne), .ref wa, .ref wv, .int (nI nn), .ref wm, .int kn, .ref wr, .ref wc, .ref wn, .int (nI sh), .ref ws, .ref wk, .ref wp]))) (h_wr : V wr = some (.inl (cI, 57600, .inl fr))) (h_wc : V wc = some (.inl (cI, 120, .inl fc))) (h_wn : V wn = some (.inl (cI, 6, .inl fw))) (h_wv : V wv = some (.inl (cI, 30, .inl fv))) (h_wk : V wk = some (.inl (cI, 80, .inl fk))) (h_wp : V wp = some (.inl (cI, 80, .inl fp))) (h_wa : V wa = some (.inl (cI, 90, .inl fa))) (h_wm : V wm = some (.inl (cI, 180, .inl fm))) (h_wt : V wt = some (.inl (cI, 240, .inl ft))) (hi : i < 30) (hg : g < 4) (hm0 : fm (6 * i) = nI 4) (hwkp : nq wk wp) (hm1 : fm (6 * i + 1) = nI a) (ha : a < i) (hm2 : fm (6 * i + 2) = nI b) (hb : b < i) (hm3 : fm (6 * i + 3) = nI e) (hM : MA E ne fa) (he : e < ne) (hS : ∀ j z1, j < i → z1 < 4 → MTb (S j z1) (fc (4 * j + z1)) (tbl fr (4 * j + z1))) : ct zl D [(cI, .int), (cN, .object "AlgebraTree$Node"), (cR, .object "AlgebraTree$Rows")] base yX7_reckon cX7_reckon 11 none 5 0 0 [.ref m, .int (nI i), .int (nI g)] V (fun zv zV => ∃ fr1 : Nat → Int32, ∃ fc1 : Nat → Int32, ∃ fw1 : Nat → Int32, ∃ fv1 : Nat → Int32, ∃ fk1 : Nat → Int32, ∃ fp1 : Nat → Int32, zv = none ∧ zV = gv_up (gv_up (gv_up (gv_up (gv_up (gv_up V wr (.inl (cI, 57600, .inl fr1))) wc (.inl (cI, 120, .inl fc1))) wn (.inl (cI, 6, .inl fw1))) wv (.inl (cI, 30, .inl fv1))) wk (.inl (cI, 80, .inl fk1))) wp (.inl (cI, 80, .inl fp1)) ∧ (MTb ((S a g).bind (fun A => (S b g).bind (fun B => cap (leftL (lcnd E (nI e)) A B)))) (fc1 (4 * i + g)) (tbl fr1 (4 * i + g))) ∧ (Kp (4 * i + g) fc fr fc1 fr1)) := by
  refine ct_of "AlgebraTreeModel" rfl (by decide) (Nat.le_of_ble_eq_true rfl) ?_
  intro zp ze zs zm zargs zbelow zmeth zc C zr zlk znm
  refine k_pc (pc' := 0) (st' := []) rfl rfl ?_
  show K zp zl ze (gv_rm 5 0 0) zs zm zargs zbelow zmeth zc D base 11 (gv_E D [(cI, .int), (cN, .object "AlgebraTree$Node"), (cR, .object "AlgebraTree$Rows")] base zbelow zargs zs 0 0 (fun zv zV => ∃ fr1 : Nat → Int32, ∃ fc1 : Nat → Int32, ∃ fw1 : Nat → Int32, ∃ fv1 : Nat → Int32, ∃ fk1 : Nat → Int32, ∃ fp1 : Nat → Int32, zv = none ∧ zV = gv_up (gv_up (gv_up (gv_up (gv_up (gv_up V wr (.inl (cI, 57600, .inl fr1))) wc (.inl (cI, 120, .inl fc1))) wn (.inl (cI, 6, .inl fw1))) wv (.inl (cI, 30, .inl fv1))) wk (.inl (cI, 80, .inl fk1))) wp (.inl (cI, 80, .inl fp1)) ∧ (MTb ((S a g).bind (fun A => (S b g).bind (fun B => cap (leftL (lcnd E (nI e)) A B)))) (fc1 (4 * i + g)) (tbl fr1 (4 * i + g))) ∧ (Kp (4 * i + g) fc fr fc1 fr1))) V 0 0 [(0, .ref m), (1, .int (nI i)), (2, .int (nI g))] 0 []
  refine k_bipush (v := nI 6) C dX7_reckon_0 rfl ?_
  refine k_iload_n C dX7_reckon_2 rfl 1 rfl ?_
  refine k_imul C dX7_reckon_3 ?_
  refine k_val (y := nI (6 * i)) (pk_mul 6 i) ?_
  refine k_istore_n (lv' := [(3, .int (nI (6 * i))), (0, .ref m), (1, .int (nI i)), (2, .int (nI g))]) C dX7_reckon_4 rfl (by decide) rfl ?_
  refine k_aload_n C dX7_reckon_5 rfl 1 rfl ?_
  refine k_get (ci := 7) (k := 6) C fl_7_19 h_m rfl dX7_reckon_6 ?_
  refine k_iload_n C dX7_reckon_9 rfl 0 rfl ?_
  refine k_iald (v := fm (6 * i)) C 0 h_wm rfl (vp_in_nI (by omega) (by omega)) (by rw [nI_clamp (by omega)]) dX7_reckon_10 ?_
  refine k_val (y := nI 4) hm0 ?_
  refine k_istore (lv' := [(4, .int (nI 4)), (3, .int (nI (6 * i))), (0, .ref m), (1, .int (nI i)), (2, .int (nI g))]) C dX7_reckon_11 (by decide) rfl ?_
  refine k_aload_n C dX7_reckon_13 rfl 2 rfl ?_
  refine k_get (ci := 7) (k := 6) C fl_7_19 h_m rfl dX7_reckon_14 ?_
  refine k_iload_n C dX7_reckon_17 rfl 1 rfl ?_
  refine k_iconst (v := nI 1) C dX7_reckon_18 rfl ?_
  refine k_iadd C dX7_reckon_19 ?_
  refine k_val (y := nI ((6 * i) + 1)) (nI_add (6 * i) 1) ?_
  refine k_iald (v := fm ((6 * i) + 1)) C 0 h_wm rfl (vp_in_nI (by omega) (by omega)) (by rw [nI_clamp (by omega)]) dX7_reckon_20 ?_
  refine k_val (y := nI a) hm1 ?_
  refine k_istore (lv' := [(5, .int (nI a)), (4, .int (nI 4)), (3, .int (nI (6 * i))), (0, .ref m), (1, .int (nI i)), (2, .int (nI g))]) C dX7_reckon_21 (by decide) rfl ?_
  refine k_aload_n C dX7_reckon_23 rfl 3 rfl ?_
  refine k_get (ci := 7) (k := 6) C fl_7_19 h_m rfl dX7_reckon_24 ?_
  refine k_iload_n C dX7_reckon_27 rfl 2 rfl ?_
  refine k_iconst (v := nI 2) C dX7_reckon_28 rfl ?_
  refine k_iadd C dX7_reckon_29 ?_
  refine k_val (y := nI ((6 * i) + 2)) (nI_add (6 * i) 2) ?_
  refine k_iald (v := fm ((6 * i) + 2)) C 0 h_wm rfl (vp_in_nI (by omega) (by omega)) (by rw [nI_clamp (by omega)]) dX7_reckon_30 ?_
  refine k_val (y := nI b) hm2 ?_
  refine k_istore (lv' := [(6, .int (nI b)), (5, .int (nI a)), (4, .int (nI 4)), (3, .int (nI (6 * i))), (0, .ref m), (1, .int (nI i)), (2, .int (nI g))]) C dX7_reckon_31 (by decide) rfl ?_
  refine k_iload_n C dX7_reckon_33 rfl 5 rfl ?_
  refine k_iload_n C dX7_reckon_34 rfl 6 rfl ?_
  refine k_callS_pi C ms_7_140 (c_X7_table   ) rfl rfl (by simp [Value.category]) ⟨Nat.le_of_ble_eq_true rfl, Nat.le_of_ble_eq_true rfl⟩ ⟨(by decide), (by decide)⟩ dX7_reckon_35 ?_
  refine k_istore (lv' := [(7, .int (nI (4 * i + g))), (6, .int (nI b)), (5, .int (nI a)), (4, .int (nI 4)), (3, .int (nI (6 * i))), (0, .ref m), (1, .int (nI i)), (2, .int (nI g))]) C dX7_reckon_38 (by decide) rfl ?_
  refine k_aload_n C dX7_reckon_40 rfl 5 rfl ?_
  refine k_get (ci := 7) (k := 9) C fl_7_26 h_m rfl dX7_reckon_41 ?_
  refine k_iload C dX7_reckon_44 0 rfl ?_
  refine k_iconst (v := nI 0) C dX7_reckon_46 rfl ?_
  refine k_iast (f' := upd fc (4 * i + g) (nI 0)) C 0 h_wc rfl (vp_in_nI (by omega) (by omega)) (by rw [nI_clamp (by omega)]) dX7_reckon_47 ?_
  have hS0 : ∀ j z, j < i → z < 4 → MTb (S j z) (upd fc (4 * i + g) (nI 0) (4 * j + z)) (tbl fr (4 * j + z)) := fun j z hj hz => (hS j z hj hz).up (by omega)
  have hc0 : upd fc (4 * i + g) (nI 0) (4 * i + g) = 0 := upd_at
  refine k_iload C dX7_reckon_48 3 rfl ?_
  refine k_if_ne (tgt := 62) C dX7_reckon_50 (by decide) (fun c50 => ?_) (fun c50 => ?_)
  · skip
    have b50 : ¬ 4 = 0 := fun z => c50 ((nI_eq (a := 4) (b := 0) (by omega) (by omega)).mpr z)
    refine k_iload C dX7_reckon_62 3 rfl ?_
    refine k_iconst (v := nI 1) C dX7_reckon_64 rfl ?_
    refine k_icmp_lt (tgt := 78) C dX7_reckon_65 (by decide) (fun c65 => ?_) (fun c65 => ?_)
    · exact absurd c65 (by decide)
    · skip
      have b65 : ¬ 4 < 1 := fun z => c65 ((nI_ltI (a := 4) (b := 1) (by omega) (by omega)).mpr z)
      refine k_iload C dX7_reckon_68 3 rfl ?_
      refine k_iconst (v := nI 4) C dX7_reckon_70 rfl ?_
      refine k_icmp_gt (tgt := 78) C dX7_reckon_71 (by decide) (fun c71 => ?_) (fun c71 => ?_)
      · exact absurd c71 (by decide)
      · skip
        have b71 : ¬ 4 < 4 := fun z => c71 ((nI_ltI (a := 4) (b := 4) (by omega) (by omega)).mpr z)
        refine k_iconst (v := nI 1) C dX7_reckon_74 rfl ?_
        refine k_goto (tgt := 79) C dX7_reckon_75 (by decide) ?_
        refine k_istore (lv' := [(8, .int (nI 1)), (7, .int (nI (4 * i + g))), (6, .int (nI b)), (5, .int (nI a)), (4, .int (nI 4)), (3, .int (nI (6 * i))), (0, .ref m), (1, .int (nI i)), (2, .int (nI g))]) C dX7_reckon_79 (by decide) rfl ?_
        refine k_iload C dX7_reckon_81 4 rfl ?_
        refine k_bipush (v := nI 12) C dX7_reckon_83 rfl ?_
        refine k_icmp_ne (tgt := 99) C dX7_reckon_85 (by decide) (fun c85 => ?_) (fun c85 => ?_)
        · skip
          have b85 : ¬ 4 = 12 := fun z => c85 ((nI_eq (a := 4) (b := 12) (by omega) (by omega)).mpr z)
          refine k_iload C dX7_reckon_99 4 rfl ?_
          refine k_bipush (v := nI 13) C dX7_reckon_101 rfl ?_
          refine k_icmp_ne (tgt := 144) C dX7_reckon_103 (by decide) (fun c103 => ?_) (fun c103 => ?_)
          · skip
            have b103 : ¬ 4 = 13 := fun z => c103 ((nI_eq (a := 4) (b := 13) (by omega) (by omega)).mpr z)
            refine k_aload_n C dX7_reckon_144 rfl 6 rfl ?_
            refine k_iload C dX7_reckon_145 3 rfl ?_
            refine k_iload_n C dX7_reckon_147 rfl 8 rfl ?_
            have ne1 : nq m wc := gv_ne h_wc h_m (by simp)
            refine k_callV_pi C mv_7_148 (c_X7_isLong  ((gv_up_n ne1).trans h_m) gv_up_s (by omega) (by omega) (hS0 a g (by omega) (by omega))) ((gv_up_n ne1).trans h_m) rfl rfl (by simp [Value.category]) ⟨Nat.le_of_ble_eq_true rfl, Nat.le_of_ble_eq_true rfl⟩ ⟨(by decide), (by decide)⟩ dX7_reckon_148 ?_
            refine k_if_ne (tgt := 169) C dX7_reckon_151 (by decide) (fun c151 => ?_) (fun c151 => ?_)
            · skip
              have b151 : ((S a g).isNone) = true := bI_n.mp c151
              refine k_iconst (v := nI 1) C dX7_reckon_169 rfl ?_
              refine k_goto (tgt := 174) C dX7_reckon_170 (by decide) ?_
              refine k_istore (lv' := [(9, .int (nI 1)), (8, .int (nI 1)), (7, .int (nI (4 * i + g))), (6, .int (nI b)), (5, .int (nI a)), (4, .int (nI 4)), (3, .int (nI (6 * i))), (0, .ref m), (1, .int (nI i)), (2, .int (nI g))]) C dX7_reckon_174 (by decide) rfl ?_
              refine k_iload C dX7_reckon_176 0 rfl ?_
              refine k_if_eq (tgt := 191) C dX7_reckon_178 (by decide) (fun c178 => ?_) (fun c178 => ?_)
              · exact absurd c178 (by decide)
              · skip
                have b178 : ¬ 1 = 0 := fun z => c178 ((nI_eq (a := 1) (b := 0) (by omega) (by omega)).mpr z)
                refine k_aload_n C dX7_reckon_181 rfl 7 rfl ?_
                refine k_get (ci := 7) (k := 9) C fl_7_26 ((gv_up_n ne1).trans h_m) rfl dX7_reckon_182 ?_
                refine k_iload C dX7_reckon_185 2 rfl ?_
                refine k_bipush (v := (-2 : Int32)) C dX7_reckon_187 (by decide) ?_
                refine k_iast (f' := upd (upd fc (4 * i + g) (nI 0)) (4 * i + g) (-2 : Int32)) C 0 gv_up_s rfl (vp_in_nI (by omega) (by omega)) (by rw [nI_clamp (by omega)]) dX7_reckon_189 ?_
                refine k_view (V1 := gv_up V wc (.inl (cI, 120, .inl (upd (upd fc (4 * i + g) (nI 0)) (4 * i + g) (-2 : Int32))))) gv_uu ?_
                have ne2 : nq wr wc := gv_ne h_wc h_wr (by simp)
                refine k_view (V1 := gv_up (gv_up V wc (.inl (cI, 120, .inl (upd (upd fc (4 * i + g) (nI 0)) (4 * i + g) (-2 : Int32))))) wr (.inl (cI, 57600, .inl fr))) (gv_id ((gv_up_n ne2).trans h_wr)).symm ?_
                have ne3 : nq wn wc := gv_ne h_wc h_wn (by simp)
                have ne4 : nq wn wr := gv_ne h_wr h_wn (by simp)
                refine k_view (V1 := gv_up (gv_up (gv_up V wc (.inl (cI, 120, .inl (upd (upd fc (4 * i + g) (nI 0)) (4 * i + g) (-2 : Int32))))) wr (.inl (cI, 57600, .inl fr))) wn (.inl (cI, 6, .inl fw))) (gv_id ((gv_up_n ne4).trans ((gv_up_n ne3).trans h_wn))).symm ?_
                have ne5 : nq wv wc := gv_ne h_wc h_wv (by simp)
                have ne6 : nq wv wr := gv_ne h_wr h_wv (by simp)
                have ne7 : nq wv wn := gv_ne h_wn h_wv (by simp)
                refine k_view (V1 := gv_up (gv_up (gv_up (gv_up V wc (.inl (cI, 120, .inl (upd (upd fc (4 * i + g) (nI 0)) (4 * i + g) (-2 : Int32))))) wr (.inl (cI, 57600, .inl fr))) wn (.inl (cI, 6, .inl fw))) wv (.inl (cI, 30, .inl fv))) (gv_id ((gv_up_n ne7).trans ((gv_up_n ne6).trans ((gv_up_n ne5).trans h_wv)))).symm ?_
                have ne8 : nq wk wc := gv_ne h_wc h_wk (by simp)
                have ne9 : nq wk wr := gv_ne h_wr h_wk (by simp)
                have ne10 : nq wk wn := gv_ne h_wn h_wk (by simp)
                have ne11 : nq wk wv := gv_ne h_wv h_wk (by simp)
                refine k_view (V1 := gv_up (gv_up (gv_up (gv_up (gv_up V wc (.inl (cI, 120, .inl (upd (upd fc (4 * i + g) (nI 0)) (4 * i + g) (-2 : Int32))))) wr (.inl (cI, 57600, .inl fr))) wn (.inl (cI, 6, .inl fw))) wv (.inl (cI, 30, .inl fv))) wk (.inl (cI, 80, .inl fk))) (gv_id ((gv_up_n ne11).trans ((gv_up_n ne10).trans ((gv_up_n ne9).trans ((gv_up_n ne8).trans h_wk))))).symm ?_
                have ne12 : nq wp wc := gv_ne h_wc h_wp (by simp)
                have ne13 : nq wp wr := gv_ne h_wr h_wp (by simp)
                have ne14 : nq wp wn := gv_ne h_wn h_wp (by simp)
                have ne15 : nq wp wv := gv_ne h_wv h_wp (by simp)
                refine k_view (V1 := gv_up (gv_up (gv_up (gv_up (gv_up (gv_up V wc (.inl (cI, 120, .inl (upd (upd fc (4 * i + g) (nI 0)) (4 * i + g) (-2 : Int32))))) wr (.inl (cI, 57600, .inl fr))) wn (.inl (cI, 6, .inl fw))) wv (.inl (cI, 30, .inl fv))) wk (.inl (cI, 80, .inl fk))) wp (.inl (cI, 80, .inl fp))) (gv_id ((gv_up_n (Ne.symm hwkp)).trans ((gv_up_n ne15).trans ((gv_up_n ne14).trans ((gv_up_n ne13).trans ((gv_up_n ne12).trans h_wp)))))).symm ?_
                refine k_view (V1 := gv_up (gv_up (gv_up (gv_up (gv_up (gv_up V wr (.inl (cI, 57600, .inl fr))) wc (.inl (cI, 120, .inl (upd (upd fc (4 * i + g) (nI 0)) (4 * i + g) (-2 : Int32))))) wn (.inl (cI, 6, .inl fw))) wv (.inl (cI, 30, .inl fv))) wk (.inl (cI, 80, .inl fk))) wp (.inl (cI, 80, .inl fp))) (congrArg (fun W => gv_up W wp (.inl (cI, 80, .inl fp))) (congrArg (fun W => gv_up W wk (.inl (cI, 80, .inl fk))) (congrArg (fun W => gv_up W wv (.inl (cI, 30, .inl fv))) (congrArg (fun W => gv_up W wn (.inl (cI, 6, .inl fw))) (gv_uc ne2))))) ?_
                exact k_vret C zr zlk ⟨fr, upd (upd fc (4 * i + g) (nI 0)) (4 * i + g) (-2 : Int32), fw, fv, fk, fp, rfl, rfl, (MTb.no (by rw [isN0 b151]; rfl) upd_at), (Kp.up.tr Kp.up)⟩ (Nat.le_refl _) (Nat.le_refl _) dX7_reckon_190
            · skip
              have b151 : ((S a g).isNone) = false := bI_0.mp c151
              obtain ⟨A, eA⟩ := isN b151
              obtain ⟨hcA, hA⟩ := (hS0 a g ha (by omega)).sm eA
              refine k_iload C dX7_reckon_154 0 rfl ?_
              refine k_if_eq (tgt := 173) C dX7_reckon_156 (by decide) (fun c156 => ?_) (fun c156 => ?_)
              · exact absurd c156 (by decide)
              · skip
                have b156 : ¬ 1 = 0 := fun z => c156 ((nI_eq (a := 1) (b := 0) (by omega) (by omega)).mpr z)
                refine k_aload_n C dX7_reckon_159 rfl 6 rfl ?_
                refine k_iload C dX7_reckon_160 2 rfl ?_
                refine k_iload_n C dX7_reckon_162 rfl 8 rfl ?_
                refine k_callV_pi C mv_7_148 (c_X7_isLong  ((gv_up_n ne1).trans h_m) gv_up_s (by omega) (by omega) (hS0 b g (by omega) (by omega))) ((gv_up_n ne1).trans h_m) rfl rfl (by simp [Value.category]) ⟨Nat.le_of_ble_eq_true rfl, Nat.le_of_ble_eq_true rfl⟩ ⟨(by decide), (by decide)⟩ dX7_reckon_163 ?_
                refine k_if_eq (tgt := 173) C dX7_reckon_166 (by decide) (fun c166 => ?_) (fun c166 => ?_)
                · skip
                  have b166 : ((S b g).isNone) = false := bI_0.mp c166
                  obtain ⟨B, eB⟩ := isN b166
                  obtain ⟨hcB, hB⟩ := (hS0 b g hb (by omega)).sm eB
                  refine k_iconst (v := nI 0) C dX7_reckon_173 rfl ?_
                  refine k_istore (lv' := [(9, .int (nI 0)), (8, .int (nI 1)), (7, .int (nI (4 * i + g))), (6, .int (nI b)), (5, .int (nI a)), (4, .int (nI 4)), (3, .int (nI (6 * i))), (0, .ref m), (1, .int (nI i)), (2, .int (nI g))]) C dX7_reckon_174 (by decide) rfl ?_
                  refine k_iload C dX7_reckon_176 0 rfl ?_
                  refine k_if_eq (tgt := 191) C dX7_reckon_178 (by decide) (fun c178 => ?_) (fun c178 => ?_)
                  · skip
                    have b178 : 0 = 0 := (nI_eq (a := 0) (b := 0) (by omega) (by omega)).mp c178
                    refine k_iload C dX7_reckon_191 4 rfl ?_
                    refine k_iload_n C dX7_reckon_193 rfl 9 rfl ?_
                    refine k_callS_pi C ms_7_140 (c_X7_table   ) rfl rfl (by simp [Value.category]) ⟨Nat.le_of_ble_eq_true rfl, Nat.le_of_ble_eq_true rfl⟩ ⟨(by decide), (by decide)⟩ dX7_reckon_194 ?_
                    refine k_istore (lv' := [(10, .int (nI (4 * a + g))), (9, .int (nI 0)), (8, .int (nI 1)), (7, .int (nI (4 * i + g))), (6, .int (nI b)), (5, .int (nI a)), (4, .int (nI 4)), (3, .int (nI (6 * i))), (0, .ref m), (1, .int (nI i)), (2, .int (nI g))]) C dX7_reckon_197 (by decide) rfl ?_
                    refine k_iload C dX7_reckon_199 6 rfl ?_
                    refine k_tableIn (tgt := 333) C dX7_reckon_201 (by decide) (by decide) rfl (by decide) ?_
                    refine k_aload_n C dX7_reckon_333 rfl 8 rfl ?_
                    refine k_iload C dX7_reckon_334 3 rfl ?_
                    refine k_iload C dX7_reckon_336 0 rfl ?_
                    refine k_iload C dX7_reckon_338 4 rfl ?_
                    refine k_iload_n C dX7_reckon_340 rfl 10 rfl ?_
                    refine k_callS_pi C ms_7_140 (c_X7_table   ) rfl rfl (by simp [Value.category]) ⟨Nat.le_of_ble_eq_true rfl, Nat.le_of_ble_eq_true rfl⟩ ⟨(by decide), (by decide)⟩ dX7_reckon_341 ?_
                    refine k_iconst (v := nI 1) C dX7_reckon_344 rfl ?_
                    refine k_aload_n C dX7_reckon_345 rfl 8 rfl ?_
                    refine k_get (ci := 7) (k := 6) C fl_7_19 ((gv_up_n ne1).trans h_m) rfl dX7_reckon_346 ?_
                    refine k_iload_n C dX7_reckon_349 rfl 7 rfl ?_
                    refine k_iconst (v := nI 3) C dX7_reckon_350 rfl ?_
                    refine k_iadd C dX7_reckon_351 ?_
                    refine k_val (y := nI ((6 * i) + 3)) (nI_add (6 * i) 3) ?_
                    have ne16 : nq wm wc := gv_ne h_wc h_wm (by simp)
                    refine k_iald (v := fm ((6 * i) + 3)) C 0 ((gv_up_n ne16).trans h_wm) rfl (vp_in_nI (by omega) (by omega)) (by rw [nI_clamp (by omega)]) dX7_reckon_352 ?_
                    refine k_val (y := nI e) hm3 ?_
                    have ne17 : nq wr wc := gv_ne h_wc h_wr (by simp)
                    have ne18 : nq wn wc := gv_ne h_wc h_wn (by simp)
                    have ne19 : nq wv wc := gv_ne h_wc h_wv (by simp)
                    have ne20 : nq wa wc := gv_ne h_wc h_wa (by simp)
                    refine k_callV C mv_7_151 (c_pairsE  ((gv_up_n ne1).trans h_m) ((gv_up_n ne17).trans h_wr) gv_up_s ((gv_up_n ne18).trans h_wn) ((gv_up_n ne19).trans h_wv) ((gv_up_n ne20).trans h_wa) (by first | assumption | omega) (by first | assumption | omega) (by first | assumption | omega) (by first | assumption | omega) (by first | assumption | omega) (by first | assumption | omega) (by first | assumption | omega) (by first | assumption | omega) (by first | assumption | omega) (by first | assumption | omega) (by first | assumption | omega) (by first | assumption | omega)) ((gv_up_n ne1).trans h_m) rfl rfl (by simp [Value.category]) ⟨Nat.le_of_ble_eq_true rfl, Nat.le_of_ble_eq_true rfl⟩ ⟨(by decide), (by decide)⟩ dX7_reckon_353 (fun zv zV zh => ?_)
                    obtain ⟨fr1_w21, fc1_w21, fw1_w21, fv1_w21, rfl, rfl, hR1_w21, hK1_w21⟩ := zh
                    refine k_pc (pc' := 356) (st' := []) rfl rfl ?_
                    refine k_view (V1 := gv_up (gv_up (gv_up (gv_up V wc (.inl (cI, 120, .inl fc1_w21))) wr (.inl (cI, 57600, .inl fr1_w21))) wn (.inl (cI, 6, .inl fw1_w21))) wv (.inl (cI, 30, .inl fv1_w21))) (congrArg (fun W => gv_up W wv (.inl (cI, 30, .inl fv1_w21))) (congrArg (fun W => gv_up W wn (.inl (cI, 6, .inl fw1_w21))) ((gv_uc (Ne.symm ne17)).trans (congrArg (fun W => gv_up W wr (.inl (cI, 57600, .inl fr1_w21))) gv_uu)))) ?_
                    refine k_goto (tgt := 454) C dX7_reckon_356 (by decide) ?_
                    have ne22 : nq wk wc := gv_ne h_wc h_wk (by simp)
                    have ne23 : nq wk wr := gv_ne h_wr h_wk (by simp)
                    have ne24 : nq wk wn := gv_ne h_wn h_wk (by simp)
                    have ne25 : nq wk wv := gv_ne h_wv h_wk (by simp)
                    refine k_view (V1 := gv_up (gv_up (gv_up (gv_up (gv_up V wc (.inl (cI, 120, .inl fc1_w21))) wr (.inl (cI, 57600, .inl fr1_w21))) wn (.inl (cI, 6, .inl fw1_w21))) wv (.inl (cI, 30, .inl fv1_w21))) wk (.inl (cI, 80, .inl fk))) (gv_id ((gv_up_n ne25).trans ((gv_up_n ne24).trans ((gv_up_n ne23).trans ((gv_up_n ne22).trans h_wk))))).symm ?_
                    have ne26 : nq wp wc := gv_ne h_wc h_wp (by simp)
                    have ne27 : nq wp wr := gv_ne h_wr h_wp (by simp)
                    have ne28 : nq wp wn := gv_ne h_wn h_wp (by simp)
                    have ne29 : nq wp wv := gv_ne h_wv h_wp (by simp)
                    refine k_view (V1 := gv_up (gv_up (gv_up (gv_up (gv_up (gv_up V wc (.inl (cI, 120, .inl fc1_w21))) wr (.inl (cI, 57600, .inl fr1_w21))) wn (.inl (cI, 6, .inl fw1_w21))) wv (.inl (cI, 30, .inl fv1_w21))) wk (.inl (cI, 80, .inl fk))) wp (.inl (cI, 80, .inl fp))) (gv_id ((gv_up_n (Ne.symm hwkp)).trans ((gv_up_n ne29).trans ((gv_up_n ne28).trans ((gv_up_n ne27).trans ((gv_up_n ne26).trans h_wp)))))).symm ?_
                    refine k_view (V1 := gv_up (gv_up (gv_up (gv_up (gv_up (gv_up V wr (.inl (cI, 57600, .inl fr1_w21))) wc (.inl (cI, 120, .inl fc1_w21))) wn (.inl (cI, 6, .inl fw1_w21))) wv (.inl (cI, 30, .inl fv1_w21))) wk (.inl (cI, 80, .inl fk))) wp (.inl (cI, 80, .inl fp))) (congrArg (fun W => gv_up W wp (.inl (cI, 80, .inl fp))) (congrArg (fun W => gv_up W wk (.inl (cI, 80, .inl fk))) (congrArg (fun W => gv_up W wv (.inl (cI, 30, .inl fv1_w21))) (congrArg (fun W => gv_up W wn (.inl (cI, 6, .inl fw1_w21))) (gv_uc ne17))))) ?_
                    exact k_vret C zr zlk ⟨fr1_w21, fc1_w21, fw1_w21, fv1_w21, fk, fp, rfl, rfl, (by rw [eA, eB]; exact (MRep.tb hR1_w21)), (Kp.up.tr hK1_w21)⟩ (Nat.le_refl _) (Nat.le_refl _) dX7_reckon_454
                  · exact absurd c178 (by decide)
                · skip
                  have b166 : ((S b g).isNone) = true := bI_n.mp c166
                  refine k_iconst (v := nI 1) C dX7_reckon_169 rfl ?_
                  refine k_goto (tgt := 174) C dX7_reckon_170 (by decide) ?_
                  refine k_istore (lv' := [(9, .int (nI 1)), (8, .int (nI 1)), (7, .int (nI (4 * i + g))), (6, .int (nI b)), (5, .int (nI a)), (4, .int (nI 4)), (3, .int (nI (6 * i))), (0, .ref m), (1, .int (nI i)), (2, .int (nI g))]) C dX7_reckon_174 (by decide) rfl ?_
                  refine k_iload C dX7_reckon_176 0 rfl ?_
                  refine k_if_eq (tgt := 191) C dX7_reckon_178 (by decide) (fun c178 => ?_) (fun c178 => ?_)
                  · exact absurd c178 (by decide)
                  · skip
                    have b178 : ¬ 1 = 0 := fun z => c178 ((nI_eq (a := 1) (b := 0) (by omega) (by omega)).mpr z)
                    refine k_aload_n C dX7_reckon_181 rfl 7 rfl ?_
                    refine k_get (ci := 7) (k := 9) C fl_7_26 ((gv_up_n ne1).trans h_m) rfl dX7_reckon_182 ?_
                    refine k_iload C dX7_reckon_185 2 rfl ?_
                    refine k_bipush (v := (-2 : Int32)) C dX7_reckon_187 (by decide) ?_
                    refine k_iast (f' := upd (upd fc (4 * i + g) (nI 0)) (4 * i + g) (-2 : Int32)) C 0 gv_up_s rfl (vp_in_nI (by omega) (by omega)) (by rw [nI_clamp (by omega)]) dX7_reckon_189 ?_
                    refine k_view (V1 := gv_up V wc (.inl (cI, 120, .inl (upd (upd fc (4 * i + g) (nI 0)) (4 * i + g) (-2 : Int32))))) gv_uu ?_
                    have ne30 : nq wr wc := gv_ne h_wc h_wr (by simp)
                    refine k_view (V1 := gv_up (gv_up V wc (.inl (cI, 120, .inl (upd (upd fc (4 * i + g) (nI 0)) (4 * i + g) (-2 : Int32))))) wr (.inl (cI, 57600, .inl fr))) (gv_id ((gv_up_n ne30).trans h_wr)).symm ?_
                    have ne31 : nq wn wc := gv_ne h_wc h_wn (by simp)
                    have ne32 : nq wn wr := gv_ne h_wr h_wn (by simp)
                    refine k_view (V1 := gv_up (gv_up (gv_up V wc (.inl (cI, 120, .inl (upd (upd fc (4 * i + g) (nI 0)) (4 * i + g) (-2 : Int32))))) wr (.inl (cI, 57600, .inl fr))) wn (.inl (cI, 6, .inl fw))) (gv_id ((gv_up_n ne32).trans ((gv_up_n ne31).trans h_wn))).symm ?_
                    have ne33 : nq wv wc := gv_ne h_wc h_wv (by simp)
                    have ne34 : nq wv wr := gv_ne h_wr h_wv (by simp)
                    have ne35 : nq wv wn := gv_ne h_wn h_wv (by simp)
                    refine k_view (V1 := gv_up (gv_up (gv_up (gv_up V wc (.inl (cI, 120, .inl (upd (upd fc (4 * i + g) (nI 0)) (4 * i + g) (-2 : Int32))))) wr (.inl (cI, 57600, .inl fr))) wn (.inl (cI, 6, .inl fw))) wv (.inl (cI, 30, .inl fv))) (gv_id ((gv_up_n ne35).trans ((gv_up_n ne34).trans ((gv_up_n ne33).trans h_wv)))).symm ?_
                    have ne36 : nq wk wc := gv_ne h_wc h_wk (by simp)
                    have ne37 : nq wk wr := gv_ne h_wr h_wk (by simp)
                    have ne38 : nq wk wn := gv_ne h_wn h_wk (by simp)
                    have ne39 : nq wk wv := gv_ne h_wv h_wk (by simp)
                    refine k_view (V1 := gv_up (gv_up (gv_up (gv_up (gv_up V wc (.inl (cI, 120, .inl (upd (upd fc (4 * i + g) (nI 0)) (4 * i + g) (-2 : Int32))))) wr (.inl (cI, 57600, .inl fr))) wn (.inl (cI, 6, .inl fw))) wv (.inl (cI, 30, .inl fv))) wk (.inl (cI, 80, .inl fk))) (gv_id ((gv_up_n ne39).trans ((gv_up_n ne38).trans ((gv_up_n ne37).trans ((gv_up_n ne36).trans h_wk))))).symm ?_
                    have ne40 : nq wp wc := gv_ne h_wc h_wp (by simp)
                    have ne41 : nq wp wr := gv_ne h_wr h_wp (by simp)
                    have ne42 : nq wp wn := gv_ne h_wn h_wp (by simp)
                    have ne43 : nq wp wv := gv_ne h_wv h_wp (by simp)
                    refine k_view (V1 := gv_up (gv_up (gv_up (gv_up (gv_up (gv_up V wc (.inl (cI, 120, .inl (upd (upd fc (4 * i + g) (nI 0)) (4 * i + g) (-2 : Int32))))) wr (.inl (cI, 57600, .inl fr))) wn (.inl (cI, 6, .inl fw))) wv (.inl (cI, 30, .inl fv))) wk (.inl (cI, 80, .inl fk))) wp (.inl (cI, 80, .inl fp))) (gv_id ((gv_up_n (Ne.symm hwkp)).trans ((gv_up_n ne43).trans ((gv_up_n ne42).trans ((gv_up_n ne41).trans ((gv_up_n ne40).trans h_wp)))))).symm ?_
                    refine k_view (V1 := gv_up (gv_up (gv_up (gv_up (gv_up (gv_up V wr (.inl (cI, 57600, .inl fr))) wc (.inl (cI, 120, .inl (upd (upd fc (4 * i + g) (nI 0)) (4 * i + g) (-2 : Int32))))) wn (.inl (cI, 6, .inl fw))) wv (.inl (cI, 30, .inl fv))) wk (.inl (cI, 80, .inl fk))) wp (.inl (cI, 80, .inl fp))) (congrArg (fun W => gv_up W wp (.inl (cI, 80, .inl fp))) (congrArg (fun W => gv_up W wk (.inl (cI, 80, .inl fk))) (congrArg (fun W => gv_up W wv (.inl (cI, 30, .inl fv))) (congrArg (fun W => gv_up W wn (.inl (cI, 6, .inl fw))) (gv_uc ne30))))) ?_
                    exact k_vret C zr zlk ⟨fr, upd (upd fc (4 * i + g) (nI 0)) (4 * i + g) (-2 : Int32), fw, fv, fk, fp, rfl, rfl, (MTb.no (by rw [isN0 b166]; cases S a g <;> rfl) upd_at), (Kp.up.tr Kp.up)⟩ (Nat.le_refl _) (Nat.le_refl _) dX7_reckon_190
          · exact absurd c103 (by decide)
        · exact absurd c85 (by decide)
  · exact absurd c50 (by decide)
set_option maxHeartbeats 4000000 in
set_option maxRecDepth 100000 in
theorem c_reckon5 {zl : Launch} {D : va_G} {cI cN cR : ClassId} {base : Nat} {V : gv_V} {m wt wa wv wm wr wc wn ws wk wp nt ne nn sh : Nat} {kn : Int32} {ft fa fv fm fr fc fw fk fp : Nat → Int32} {i g a e : Nat} {S : Nat → Nat → Option (List Row)} {E : Nat → Ex}  (h_m : V m = some (.inr (7, [.int (nI nt), .ref wt, .int (nI ne), .ref wa, .ref wv, .int (nI nn), .ref wm, .int kn, .ref wr, .ref wc, .ref wn, .int (nI sh), .ref ws, .ref wk, .ref wp]))) (h_wr : V wr = some (.inl (cI, 57600, .inl fr))) (h_wc : V wc = some (.inl (cI, 120, .inl fc))) (h_wn : V wn = some (.inl (cI, 6, .inl fw))) (h_wv : V wv = some (.inl (cI, 30, .inl fv))) (h_wk : V wk = some (.inl (cI, 80, .inl fk))) (h_wp : V wp = some (.inl (cI, 80, .inl fp))) (h_wa : V wa = some (.inl (cI, 90, .inl fa))) (h_wm : V wm = some (.inl (cI, 180, .inl fm))) (h_wt : V wt = some (.inl (cI, 240, .inl ft))) (hi : i < 30) (hg : g < 4) (hm0 : fm (6 * i) = nI 5) (hwkp : nq wk wp) (hm1 : fm (6 * i + 1) = nI a) (ha : a < i) (hm2 : fm (6 * i + 2) = nI e) (hM : MA E ne fa) (he : e < ne) (hS : ∀ j z1, j < i → z1 < 4 → MTb (S j z1) (fc (4 * j + z1)) (tbl fr (4 * j + z1))) : ct zl D [(cI, .int), (cN, .object "AlgebraTree$Node"), (cR, .object "AlgebraTree$Rows")] base yX7_reckon cX7_reckon 11 none 5 0 0 [.ref m, .int (nI i), .int (nI g)] V (fun zv zV => ∃ fr1 : Nat → Int32, ∃ fc1 : Nat → Int32, ∃ fw1 : Nat → Int32, ∃ fv1 : Nat → Int32, ∃ fk1 : Nat → Int32, ∃ fp1 : Nat → Int32, zv = none ∧ zV = gv_up (gv_up (gv_up (gv_up (gv_up (gv_up V wr (.inl (cI, 57600, .inl fr1))) wc (.inl (cI, 120, .inl fc1))) wn (.inl (cI, 6, .inl fw1))) wv (.inl (cI, 30, .inl fv1))) wk (.inl (cI, 80, .inl fk1))) wp (.inl (cI, 80, .inl fp1)) ∧ (MTb ((S a g).bind (fun A => cap (A.filter (fun x => isT (ev E x e))))) (fc1 (4 * i + g)) (tbl fr1 (4 * i + g))) ∧ (Kp (4 * i + g) fc fr fc1 fr1)) := by
  refine ct_of "AlgebraTreeModel" rfl (by decide) (Nat.le_of_ble_eq_true rfl) ?_
  intro zp ze zs zm zargs zbelow zmeth zc C zr zlk znm
  refine k_pc (pc' := 0) (st' := []) rfl rfl ?_
  show K zp zl ze (gv_rm 5 0 0) zs zm zargs zbelow zmeth zc D base 11 (gv_E D [(cI, .int), (cN, .object "AlgebraTree$Node"), (cR, .object "AlgebraTree$Rows")] base zbelow zargs zs 0 0 (fun zv zV => ∃ fr1 : Nat → Int32, ∃ fc1 : Nat → Int32, ∃ fw1 : Nat → Int32, ∃ fv1 : Nat → Int32, ∃ fk1 : Nat → Int32, ∃ fp1 : Nat → Int32, zv = none ∧ zV = gv_up (gv_up (gv_up (gv_up (gv_up (gv_up V wr (.inl (cI, 57600, .inl fr1))) wc (.inl (cI, 120, .inl fc1))) wn (.inl (cI, 6, .inl fw1))) wv (.inl (cI, 30, .inl fv1))) wk (.inl (cI, 80, .inl fk1))) wp (.inl (cI, 80, .inl fp1)) ∧ (MTb ((S a g).bind (fun A => cap (A.filter (fun x => isT (ev E x e))))) (fc1 (4 * i + g)) (tbl fr1 (4 * i + g))) ∧ (Kp (4 * i + g) fc fr fc1 fr1))) V 0 0 [(0, .ref m), (1, .int (nI i)), (2, .int (nI g))] 0 []
  refine k_bipush (v := nI 6) C dX7_reckon_0 rfl ?_
  refine k_iload_n C dX7_reckon_2 rfl 1 rfl ?_
  refine k_imul C dX7_reckon_3 ?_
  refine k_val (y := nI (6 * i)) (pk_mul 6 i) ?_
  refine k_istore_n (lv' := [(3, .int (nI (6 * i))), (0, .ref m), (1, .int (nI i)), (2, .int (nI g))]) C dX7_reckon_4 rfl (by decide) rfl ?_
  refine k_aload_n C dX7_reckon_5 rfl 1 rfl ?_
  refine k_get (ci := 7) (k := 6) C fl_7_19 h_m rfl dX7_reckon_6 ?_
  refine k_iload_n C dX7_reckon_9 rfl 0 rfl ?_
  refine k_iald (v := fm (6 * i)) C 0 h_wm rfl (vp_in_nI (by omega) (by omega)) (by rw [nI_clamp (by omega)]) dX7_reckon_10 ?_
  refine k_val (y := nI 5) hm0 ?_
  refine k_istore (lv' := [(4, .int (nI 5)), (3, .int (nI (6 * i))), (0, .ref m), (1, .int (nI i)), (2, .int (nI g))]) C dX7_reckon_11 (by decide) rfl ?_
  refine k_aload_n C dX7_reckon_13 rfl 2 rfl ?_
  refine k_get (ci := 7) (k := 6) C fl_7_19 h_m rfl dX7_reckon_14 ?_
  refine k_iload_n C dX7_reckon_17 rfl 1 rfl ?_
  refine k_iconst (v := nI 1) C dX7_reckon_18 rfl ?_
  refine k_iadd C dX7_reckon_19 ?_
  refine k_val (y := nI ((6 * i) + 1)) (nI_add (6 * i) 1) ?_
  refine k_iald (v := fm ((6 * i) + 1)) C 0 h_wm rfl (vp_in_nI (by omega) (by omega)) (by rw [nI_clamp (by omega)]) dX7_reckon_20 ?_
  refine k_val (y := nI a) hm1 ?_
  refine k_istore (lv' := [(5, .int (nI a)), (4, .int (nI 5)), (3, .int (nI (6 * i))), (0, .ref m), (1, .int (nI i)), (2, .int (nI g))]) C dX7_reckon_21 (by decide) rfl ?_
  refine k_aload_n C dX7_reckon_23 rfl 3 rfl ?_
  refine k_get (ci := 7) (k := 6) C fl_7_19 h_m rfl dX7_reckon_24 ?_
  refine k_iload_n C dX7_reckon_27 rfl 2 rfl ?_
  refine k_iconst (v := nI 2) C dX7_reckon_28 rfl ?_
  refine k_iadd C dX7_reckon_29 ?_
  refine k_val (y := nI ((6 * i) + 2)) (nI_add (6 * i) 2) ?_
  refine k_iald (v := fm ((6 * i) + 2)) C 0 h_wm rfl (vp_in_nI (by omega) (by omega)) (by rw [nI_clamp (by omega)]) dX7_reckon_30 ?_
  refine k_val (y := nI e) hm2 ?_
  refine k_istore (lv' := [(6, .int (nI e)), (5, .int (nI a)), (4, .int (nI 5)), (3, .int (nI (6 * i))), (0, .ref m), (1, .int (nI i)), (2, .int (nI g))]) C dX7_reckon_31 (by decide) rfl ?_
  refine k_iload_n C dX7_reckon_33 rfl 5 rfl ?_
  refine k_iload_n C dX7_reckon_34 rfl 6 rfl ?_
  refine k_callS_pi C ms_7_140 (c_X7_table   ) rfl rfl (by simp [Value.category]) ⟨Nat.le_of_ble_eq_true rfl, Nat.le_of_ble_eq_true rfl⟩ ⟨(by decide), (by decide)⟩ dX7_reckon_35 ?_
  refine k_istore (lv' := [(7, .int (nI (4 * i + g))), (6, .int (nI e)), (5, .int (nI a)), (4, .int (nI 5)), (3, .int (nI (6 * i))), (0, .ref m), (1, .int (nI i)), (2, .int (nI g))]) C dX7_reckon_38 (by decide) rfl ?_
  refine k_aload_n C dX7_reckon_40 rfl 5 rfl ?_
  refine k_get (ci := 7) (k := 9) C fl_7_26 h_m rfl dX7_reckon_41 ?_
  refine k_iload C dX7_reckon_44 0 rfl ?_
  refine k_iconst (v := nI 0) C dX7_reckon_46 rfl ?_
  refine k_iast (f' := upd fc (4 * i + g) (nI 0)) C 0 h_wc rfl (vp_in_nI (by omega) (by omega)) (by rw [nI_clamp (by omega)]) dX7_reckon_47 ?_
  have hS0 : ∀ j z, j < i → z < 4 → MTb (S j z) (upd fc (4 * i + g) (nI 0) (4 * j + z)) (tbl fr (4 * j + z)) := fun j z hj hz => (hS j z hj hz).up (by omega)
  have hc0 : upd fc (4 * i + g) (nI 0) (4 * i + g) = 0 := upd_at
  refine k_iload C dX7_reckon_48 3 rfl ?_
  refine k_if_ne (tgt := 62) C dX7_reckon_50 (by decide) (fun c50 => ?_) (fun c50 => ?_)
  · skip
    have b50 : ¬ 5 = 0 := fun z => c50 ((nI_eq (a := 5) (b := 0) (by omega) (by omega)).mpr z)
    refine k_iload C dX7_reckon_62 3 rfl ?_
    refine k_iconst (v := nI 1) C dX7_reckon_64 rfl ?_
    refine k_icmp_lt (tgt := 78) C dX7_reckon_65 (by decide) (fun c65 => ?_) (fun c65 => ?_)
    · exact absurd c65 (by decide)
    · skip
      have b65 : ¬ 5 < 1 := fun z => c65 ((nI_ltI (a := 5) (b := 1) (by omega) (by omega)).mpr z)
      refine k_iload C dX7_reckon_68 3 rfl ?_
      refine k_iconst (v := nI 4) C dX7_reckon_70 rfl ?_
      refine k_icmp_gt (tgt := 78) C dX7_reckon_71 (by decide) (fun c71 => ?_) (fun c71 => ?_)
      · skip
        have b71 : 4 < 5 := (nI_ltI (a := 4) (b := 5) (by omega) (by omega)).mp c71
        refine k_iconst (v := nI 0) C dX7_reckon_78 rfl ?_
        refine k_istore (lv' := [(8, .int (nI 0)), (7, .int (nI (4 * i + g))), (6, .int (nI e)), (5, .int (nI a)), (4, .int (nI 5)), (3, .int (nI (6 * i))), (0, .ref m), (1, .int (nI i)), (2, .int (nI g))]) C dX7_reckon_79 (by decide) rfl ?_
        refine k_iload C dX7_reckon_81 4 rfl ?_
        refine k_bipush (v := nI 12) C dX7_reckon_83 rfl ?_
        refine k_icmp_ne (tgt := 99) C dX7_reckon_85 (by decide) (fun c85 => ?_) (fun c85 => ?_)
        · skip
          have b85 : ¬ 5 = 12 := fun z => c85 ((nI_eq (a := 5) (b := 12) (by omega) (by omega)).mpr z)
          refine k_iload C dX7_reckon_99 4 rfl ?_
          refine k_bipush (v := nI 13) C dX7_reckon_101 rfl ?_
          refine k_icmp_ne (tgt := 144) C dX7_reckon_103 (by decide) (fun c103 => ?_) (fun c103 => ?_)
          · skip
            have b103 : ¬ 5 = 13 := fun z => c103 ((nI_eq (a := 5) (b := 13) (by omega) (by omega)).mpr z)
            refine k_aload_n C dX7_reckon_144 rfl 6 rfl ?_
            refine k_iload C dX7_reckon_145 3 rfl ?_
            refine k_iload_n C dX7_reckon_147 rfl 8 rfl ?_
            have ne1 : nq m wc := gv_ne h_wc h_m (by simp)
            refine k_callV_pi C mv_7_148 (c_X7_isLong  ((gv_up_n ne1).trans h_m) gv_up_s (by omega) (by omega) (hS0 a g (by omega) (by omega))) ((gv_up_n ne1).trans h_m) rfl rfl (by simp [Value.category]) ⟨Nat.le_of_ble_eq_true rfl, Nat.le_of_ble_eq_true rfl⟩ ⟨(by decide), (by decide)⟩ dX7_reckon_148 ?_
            refine k_if_ne (tgt := 169) C dX7_reckon_151 (by decide) (fun c151 => ?_) (fun c151 => ?_)
            · skip
              have b151 : ((S a g).isNone) = true := bI_n.mp c151
              refine k_iconst (v := nI 1) C dX7_reckon_169 rfl ?_
              refine k_goto (tgt := 174) C dX7_reckon_170 (by decide) ?_
              refine k_istore (lv' := [(9, .int (nI 1)), (8, .int (nI 0)), (7, .int (nI (4 * i + g))), (6, .int (nI e)), (5, .int (nI a)), (4, .int (nI 5)), (3, .int (nI (6 * i))), (0, .ref m), (1, .int (nI i)), (2, .int (nI g))]) C dX7_reckon_174 (by decide) rfl ?_
              refine k_iload C dX7_reckon_176 0 rfl ?_
              refine k_if_eq (tgt := 191) C dX7_reckon_178 (by decide) (fun c178 => ?_) (fun c178 => ?_)
              · exact absurd c178 (by decide)
              · skip
                have b178 : ¬ 1 = 0 := fun z => c178 ((nI_eq (a := 1) (b := 0) (by omega) (by omega)).mpr z)
                refine k_aload_n C dX7_reckon_181 rfl 7 rfl ?_
                refine k_get (ci := 7) (k := 9) C fl_7_26 ((gv_up_n ne1).trans h_m) rfl dX7_reckon_182 ?_
                refine k_iload C dX7_reckon_185 2 rfl ?_
                refine k_bipush (v := (-2 : Int32)) C dX7_reckon_187 (by decide) ?_
                refine k_iast (f' := upd (upd fc (4 * i + g) (nI 0)) (4 * i + g) (-2 : Int32)) C 0 gv_up_s rfl (vp_in_nI (by omega) (by omega)) (by rw [nI_clamp (by omega)]) dX7_reckon_189 ?_
                refine k_view (V1 := gv_up V wc (.inl (cI, 120, .inl (upd (upd fc (4 * i + g) (nI 0)) (4 * i + g) (-2 : Int32))))) gv_uu ?_
                have ne2 : nq wr wc := gv_ne h_wc h_wr (by simp)
                refine k_view (V1 := gv_up (gv_up V wc (.inl (cI, 120, .inl (upd (upd fc (4 * i + g) (nI 0)) (4 * i + g) (-2 : Int32))))) wr (.inl (cI, 57600, .inl fr))) (gv_id ((gv_up_n ne2).trans h_wr)).symm ?_
                have ne3 : nq wn wc := gv_ne h_wc h_wn (by simp)
                have ne4 : nq wn wr := gv_ne h_wr h_wn (by simp)
                refine k_view (V1 := gv_up (gv_up (gv_up V wc (.inl (cI, 120, .inl (upd (upd fc (4 * i + g) (nI 0)) (4 * i + g) (-2 : Int32))))) wr (.inl (cI, 57600, .inl fr))) wn (.inl (cI, 6, .inl fw))) (gv_id ((gv_up_n ne4).trans ((gv_up_n ne3).trans h_wn))).symm ?_
                have ne5 : nq wv wc := gv_ne h_wc h_wv (by simp)
                have ne6 : nq wv wr := gv_ne h_wr h_wv (by simp)
                have ne7 : nq wv wn := gv_ne h_wn h_wv (by simp)
                refine k_view (V1 := gv_up (gv_up (gv_up (gv_up V wc (.inl (cI, 120, .inl (upd (upd fc (4 * i + g) (nI 0)) (4 * i + g) (-2 : Int32))))) wr (.inl (cI, 57600, .inl fr))) wn (.inl (cI, 6, .inl fw))) wv (.inl (cI, 30, .inl fv))) (gv_id ((gv_up_n ne7).trans ((gv_up_n ne6).trans ((gv_up_n ne5).trans h_wv)))).symm ?_
                have ne8 : nq wk wc := gv_ne h_wc h_wk (by simp)
                have ne9 : nq wk wr := gv_ne h_wr h_wk (by simp)
                have ne10 : nq wk wn := gv_ne h_wn h_wk (by simp)
                have ne11 : nq wk wv := gv_ne h_wv h_wk (by simp)
                refine k_view (V1 := gv_up (gv_up (gv_up (gv_up (gv_up V wc (.inl (cI, 120, .inl (upd (upd fc (4 * i + g) (nI 0)) (4 * i + g) (-2 : Int32))))) wr (.inl (cI, 57600, .inl fr))) wn (.inl (cI, 6, .inl fw))) wv (.inl (cI, 30, .inl fv))) wk (.inl (cI, 80, .inl fk))) (gv_id ((gv_up_n ne11).trans ((gv_up_n ne10).trans ((gv_up_n ne9).trans ((gv_up_n ne8).trans h_wk))))).symm ?_
                have ne12 : nq wp wc := gv_ne h_wc h_wp (by simp)
                have ne13 : nq wp wr := gv_ne h_wr h_wp (by simp)
                have ne14 : nq wp wn := gv_ne h_wn h_wp (by simp)
                have ne15 : nq wp wv := gv_ne h_wv h_wp (by simp)
                refine k_view (V1 := gv_up (gv_up (gv_up (gv_up (gv_up (gv_up V wc (.inl (cI, 120, .inl (upd (upd fc (4 * i + g) (nI 0)) (4 * i + g) (-2 : Int32))))) wr (.inl (cI, 57600, .inl fr))) wn (.inl (cI, 6, .inl fw))) wv (.inl (cI, 30, .inl fv))) wk (.inl (cI, 80, .inl fk))) wp (.inl (cI, 80, .inl fp))) (gv_id ((gv_up_n (Ne.symm hwkp)).trans ((gv_up_n ne15).trans ((gv_up_n ne14).trans ((gv_up_n ne13).trans ((gv_up_n ne12).trans h_wp)))))).symm ?_
                refine k_view (V1 := gv_up (gv_up (gv_up (gv_up (gv_up (gv_up V wr (.inl (cI, 57600, .inl fr))) wc (.inl (cI, 120, .inl (upd (upd fc (4 * i + g) (nI 0)) (4 * i + g) (-2 : Int32))))) wn (.inl (cI, 6, .inl fw))) wv (.inl (cI, 30, .inl fv))) wk (.inl (cI, 80, .inl fk))) wp (.inl (cI, 80, .inl fp))) (congrArg (fun W => gv_up W wp (.inl (cI, 80, .inl fp))) (congrArg (fun W => gv_up W wk (.inl (cI, 80, .inl fk))) (congrArg (fun W => gv_up W wv (.inl (cI, 30, .inl fv))) (congrArg (fun W => gv_up W wn (.inl (cI, 6, .inl fw))) (gv_uc ne2))))) ?_
                exact k_vret C zr zlk ⟨fr, upd (upd fc (4 * i + g) (nI 0)) (4 * i + g) (-2 : Int32), fw, fv, fk, fp, rfl, rfl, (MTb.no (by rw [isN0 b151]; rfl) upd_at), (Kp.up.tr Kp.up)⟩ (Nat.le_refl _) (Nat.le_refl _) dX7_reckon_190
            · skip
              have b151 : ((S a g).isNone) = false := bI_0.mp c151
              obtain ⟨A, eA⟩ := isN b151
              obtain ⟨hcA, hA⟩ := (hS0 a g ha (by omega)).sm eA
              refine k_iload C dX7_reckon_154 0 rfl ?_
              refine k_if_eq (tgt := 173) C dX7_reckon_156 (by decide) (fun c156 => ?_) (fun c156 => ?_)
              · skip
                have b156 : 0 = 0 := (nI_eq (a := 0) (b := 0) (by omega) (by omega)).mp c156
                refine k_iconst (v := nI 0) C dX7_reckon_173 rfl ?_
                refine k_istore (lv' := [(9, .int (nI 0)), (8, .int (nI 0)), (7, .int (nI (4 * i + g))), (6, .int (nI e)), (5, .int (nI a)), (4, .int (nI 5)), (3, .int (nI (6 * i))), (0, .ref m), (1, .int (nI i)), (2, .int (nI g))]) C dX7_reckon_174 (by decide) rfl ?_
                refine k_iload C dX7_reckon_176 0 rfl ?_
                refine k_if_eq (tgt := 191) C dX7_reckon_178 (by decide) (fun c178 => ?_) (fun c178 => ?_)
                · skip
                  have b178 : 0 = 0 := (nI_eq (a := 0) (b := 0) (by omega) (by omega)).mp c178
                  refine k_iload C dX7_reckon_191 4 rfl ?_
                  refine k_iload_n C dX7_reckon_193 rfl 9 rfl ?_
                  refine k_callS_pi C ms_7_140 (c_X7_table   ) rfl rfl (by simp [Value.category]) ⟨Nat.le_of_ble_eq_true rfl, Nat.le_of_ble_eq_true rfl⟩ ⟨(by decide), (by decide)⟩ dX7_reckon_194 ?_
                  refine k_istore (lv' := [(10, .int (nI (4 * a + g))), (9, .int (nI 0)), (8, .int (nI 0)), (7, .int (nI (4 * i + g))), (6, .int (nI e)), (5, .int (nI a)), (4, .int (nI 5)), (3, .int (nI (6 * i))), (0, .ref m), (1, .int (nI i)), (2, .int (nI g))]) C dX7_reckon_197 (by decide) rfl ?_
                  refine k_iload C dX7_reckon_199 6 rfl ?_
                  refine k_tableIn (tgt := 434) C dX7_reckon_201 (by decide) (by decide) rfl (by decide) ?_
                  refine k_aload_n C dX7_reckon_434 rfl 8 rfl ?_
                  refine k_iload C dX7_reckon_435 3 rfl ?_
                  refine k_iload C dX7_reckon_437 0 rfl ?_
                  refine k_iload C dX7_reckon_439 6 rfl ?_
                  refine k_iload C dX7_reckon_441 4 rfl ?_
                  refine k_aload_n C dX7_reckon_443 rfl 8 rfl ?_
                  refine k_get (ci := 7) (k := 6) C fl_7_19 ((gv_up_n ne1).trans h_m) rfl dX7_reckon_444 ?_
                  refine k_iload_n C dX7_reckon_447 rfl 7 rfl ?_
                  refine k_iconst (v := nI 3) C dX7_reckon_448 rfl ?_
                  refine k_iadd C dX7_reckon_449 ?_
                  refine k_val (y := nI ((6 * i) + 3)) (nI_add (6 * i) 3) ?_
                  have ne16 : nq wm wc := gv_ne h_wc h_wm (by simp)
                  refine k_iald (v := fm ((6 * i) + 3)) C 0 ((gv_up_n ne16).trans h_wm) rfl (vp_in_nI (by omega) (by omega)) (by rw [nI_clamp (by omega)]) dX7_reckon_450 ?_
                  have ne17 : nq wr wc := gv_ne h_wc h_wr (by simp)
                  have ne18 : nq wn wc := gv_ne h_wc h_wn (by simp)
                  have ne19 : nq wv wc := gv_ne h_wc h_wv (by simp)
                  have ne20 : nq wa wc := gv_ne h_wc h_wa (by simp)
                  refine k_callV C mv_7_155 (c_each5  ((gv_up_n ne1).trans h_m) ((gv_up_n ne17).trans h_wr) gv_up_s ((gv_up_n ne18).trans h_wn) ((gv_up_n ne19).trans h_wv) ((gv_up_n ne20).trans h_wa) (by first | assumption | omega) (by first | assumption | omega) (by first | assumption | omega) (by first | assumption | omega) (by first | assumption | omega) (MRep.nil hc0) (by first | assumption | omega) (by first | assumption | omega)) ((gv_up_n ne1).trans h_m) rfl rfl (by simp [Value.category]) ⟨Nat.le_of_ble_eq_true rfl, Nat.le_of_ble_eq_true rfl⟩ ⟨(by decide), (by decide)⟩ dX7_reckon_451 (fun zv zV zh => ?_)
                  obtain ⟨fr1_w21, fc1_w21, fw1_w21, fv1_w21, rfl, rfl, hR1_w21, hK1_w21⟩ := zh
                  refine k_pc (pc' := 454) (st' := []) rfl rfl ?_
                  refine k_view (V1 := gv_up (gv_up (gv_up (gv_up V wc (.inl (cI, 120, .inl fc1_w21))) wr (.inl (cI, 57600, .inl fr1_w21))) wn (.inl (cI, 6, .inl fw1_w21))) wv (.inl (cI, 30, .inl fv1_w21))) (congrArg (fun W => gv_up W wv (.inl (cI, 30, .inl fv1_w21))) (congrArg (fun W => gv_up W wn (.inl (cI, 6, .inl fw1_w21))) ((gv_uc (Ne.symm ne17)).trans (congrArg (fun W => gv_up W wr (.inl (cI, 57600, .inl fr1_w21))) gv_uu)))) ?_
                  have ne22 : nq wk wc := gv_ne h_wc h_wk (by simp)
                  have ne23 : nq wk wr := gv_ne h_wr h_wk (by simp)
                  have ne24 : nq wk wn := gv_ne h_wn h_wk (by simp)
                  have ne25 : nq wk wv := gv_ne h_wv h_wk (by simp)
                  refine k_view (V1 := gv_up (gv_up (gv_up (gv_up (gv_up V wc (.inl (cI, 120, .inl fc1_w21))) wr (.inl (cI, 57600, .inl fr1_w21))) wn (.inl (cI, 6, .inl fw1_w21))) wv (.inl (cI, 30, .inl fv1_w21))) wk (.inl (cI, 80, .inl fk))) (gv_id ((gv_up_n ne25).trans ((gv_up_n ne24).trans ((gv_up_n ne23).trans ((gv_up_n ne22).trans h_wk))))).symm ?_
                  have ne26 : nq wp wc := gv_ne h_wc h_wp (by simp)
                  have ne27 : nq wp wr := gv_ne h_wr h_wp (by simp)
                  have ne28 : nq wp wn := gv_ne h_wn h_wp (by simp)
                  have ne29 : nq wp wv := gv_ne h_wv h_wp (by simp)
                  refine k_view (V1 := gv_up (gv_up (gv_up (gv_up (gv_up (gv_up V wc (.inl (cI, 120, .inl fc1_w21))) wr (.inl (cI, 57600, .inl fr1_w21))) wn (.inl (cI, 6, .inl fw1_w21))) wv (.inl (cI, 30, .inl fv1_w21))) wk (.inl (cI, 80, .inl fk))) wp (.inl (cI, 80, .inl fp))) (gv_id ((gv_up_n (Ne.symm hwkp)).trans ((gv_up_n ne29).trans ((gv_up_n ne28).trans ((gv_up_n ne27).trans ((gv_up_n ne26).trans h_wp)))))).symm ?_
                  refine k_view (V1 := gv_up (gv_up (gv_up (gv_up (gv_up (gv_up V wr (.inl (cI, 57600, .inl fr1_w21))) wc (.inl (cI, 120, .inl fc1_w21))) wn (.inl (cI, 6, .inl fw1_w21))) wv (.inl (cI, 30, .inl fv1_w21))) wk (.inl (cI, 80, .inl fk))) wp (.inl (cI, 80, .inl fp))) (congrArg (fun W => gv_up W wp (.inl (cI, 80, .inl fp))) (congrArg (fun W => gv_up W wk (.inl (cI, 80, .inl fk))) (congrArg (fun W => gv_up W wv (.inl (cI, 30, .inl fv1_w21))) (congrArg (fun W => gv_up W wn (.inl (cI, 6, .inl fw1_w21))) (gv_uc ne17))))) ?_
                  exact k_vret C zr zlk ⟨fr1_w21, fc1_w21, fw1_w21, fv1_w21, fk, fp, rfl, rfl, (by rw [eA]; exact (MRep.tb hR1_w21)), (Kp.up.tr hK1_w21)⟩ (Nat.le_refl _) (Nat.le_refl _) dX7_reckon_454
                · exact absurd c178 (by decide)
              · exact absurd c156 (by decide)
          · exact absurd c103 (by decide)
        · exact absurd c85 (by decide)
      · exact absurd c71 (by decide)
  · exact absurd c50 (by decide)
set_option maxHeartbeats 4000000 in
set_option maxRecDepth 100000 in
theorem c_reckon6 {zl : Launch} {D : va_G} {cI cN cR : ClassId} {base : Nat} {V : gv_V} {m wt wa wv wm wr wc wn ws wk wp nt ne nn sh : Nat} {kn : Int32} {ft fa fv fm fr fc fw fk fp : Nat → Int32} {i g a e vv : Nat} {S : Nat → Nat → Option (List Row)} {E : Nat → Ex}  (h_m : V m = some (.inr (7, [.int (nI nt), .ref wt, .int (nI ne), .ref wa, .ref wv, .int (nI nn), .ref wm, .int kn, .ref wr, .ref wc, .ref wn, .int (nI sh), .ref ws, .ref wk, .ref wp]))) (h_wr : V wr = some (.inl (cI, 57600, .inl fr))) (h_wc : V wc = some (.inl (cI, 120, .inl fc))) (h_wn : V wn = some (.inl (cI, 6, .inl fw))) (h_wv : V wv = some (.inl (cI, 30, .inl fv))) (h_wk : V wk = some (.inl (cI, 80, .inl fk))) (h_wp : V wp = some (.inl (cI, 80, .inl fp))) (h_wa : V wa = some (.inl (cI, 90, .inl fa))) (h_wm : V wm = some (.inl (cI, 180, .inl fm))) (h_wt : V wt = some (.inl (cI, 240, .inl ft))) (hi : i < 30) (hg : g < 4) (hm0 : fm (6 * i) = nI 6) (hwkp : nq wk wp) (hm1 : fm (6 * i + 1) = nI a) (ha : a < i) (hm2 : fm (6 * i + 2) = nI vv) (hvv : vv < 6) (hm3 : fm (6 * i + 3) = nI e) (hM : MA E ne fa) (he : e < ne) (hS : ∀ j z1, j < i → z1 < 4 → MTb (S j z1) (fc (4 * j + z1)) (tbl fr (4 * j + z1))) : ct zl D [(cI, .int), (cN, .object "AlgebraTree$Node"), (cR, .object "AlgebraTree$Rows")] base yX7_reckon cX7_reckon 11 none 5 0 0 [.ref m, .int (nI i), .int (nI g)] V (fun zv zV => ∃ fr1 : Nat → Int32, ∃ fc1 : Nat → Int32, ∃ fw1 : Nat → Int32, ∃ fv1 : Nat → Int32, ∃ fk1 : Nat → Int32, ∃ fp1 : Nat → Int32, zv = none ∧ zV = gv_up (gv_up (gv_up (gv_up (gv_up (gv_up V wr (.inl (cI, 57600, .inl fr1))) wc (.inl (cI, 120, .inl fc1))) wn (.inl (cI, 6, .inl fw1))) wv (.inl (cI, 30, .inl fv1))) wk (.inl (cI, 80, .inl fk1))) wp (.inl (cI, 80, .inl fp1)) ∧ (MTb ((S a g).bind (fun A => cap (A.map (fun x => extR vv (ev E x e) x)))) (fc1 (4 * i + g)) (tbl fr1 (4 * i + g))) ∧ (Kp (4 * i + g) fc fr fc1 fr1)) := by
  refine ct_of "AlgebraTreeModel" rfl (by decide) (Nat.le_of_ble_eq_true rfl) ?_
  intro zp ze zs zm zargs zbelow zmeth zc C zr zlk znm
  refine k_pc (pc' := 0) (st' := []) rfl rfl ?_
  show K zp zl ze (gv_rm 5 0 0) zs zm zargs zbelow zmeth zc D base 11 (gv_E D [(cI, .int), (cN, .object "AlgebraTree$Node"), (cR, .object "AlgebraTree$Rows")] base zbelow zargs zs 0 0 (fun zv zV => ∃ fr1 : Nat → Int32, ∃ fc1 : Nat → Int32, ∃ fw1 : Nat → Int32, ∃ fv1 : Nat → Int32, ∃ fk1 : Nat → Int32, ∃ fp1 : Nat → Int32, zv = none ∧ zV = gv_up (gv_up (gv_up (gv_up (gv_up (gv_up V wr (.inl (cI, 57600, .inl fr1))) wc (.inl (cI, 120, .inl fc1))) wn (.inl (cI, 6, .inl fw1))) wv (.inl (cI, 30, .inl fv1))) wk (.inl (cI, 80, .inl fk1))) wp (.inl (cI, 80, .inl fp1)) ∧ (MTb ((S a g).bind (fun A => cap (A.map (fun x => extR vv (ev E x e) x)))) (fc1 (4 * i + g)) (tbl fr1 (4 * i + g))) ∧ (Kp (4 * i + g) fc fr fc1 fr1))) V 0 0 [(0, .ref m), (1, .int (nI i)), (2, .int (nI g))] 0 []
  refine k_bipush (v := nI 6) C dX7_reckon_0 rfl ?_
  refine k_iload_n C dX7_reckon_2 rfl 1 rfl ?_
  refine k_imul C dX7_reckon_3 ?_
  refine k_val (y := nI (6 * i)) (pk_mul 6 i) ?_
  refine k_istore_n (lv' := [(3, .int (nI (6 * i))), (0, .ref m), (1, .int (nI i)), (2, .int (nI g))]) C dX7_reckon_4 rfl (by decide) rfl ?_
  refine k_aload_n C dX7_reckon_5 rfl 1 rfl ?_
  refine k_get (ci := 7) (k := 6) C fl_7_19 h_m rfl dX7_reckon_6 ?_
  refine k_iload_n C dX7_reckon_9 rfl 0 rfl ?_
  refine k_iald (v := fm (6 * i)) C 0 h_wm rfl (vp_in_nI (by omega) (by omega)) (by rw [nI_clamp (by omega)]) dX7_reckon_10 ?_
  refine k_val (y := nI 6) hm0 ?_
  refine k_istore (lv' := [(4, .int (nI 6)), (3, .int (nI (6 * i))), (0, .ref m), (1, .int (nI i)), (2, .int (nI g))]) C dX7_reckon_11 (by decide) rfl ?_
  refine k_aload_n C dX7_reckon_13 rfl 2 rfl ?_
  refine k_get (ci := 7) (k := 6) C fl_7_19 h_m rfl dX7_reckon_14 ?_
  refine k_iload_n C dX7_reckon_17 rfl 1 rfl ?_
  refine k_iconst (v := nI 1) C dX7_reckon_18 rfl ?_
  refine k_iadd C dX7_reckon_19 ?_
  refine k_val (y := nI ((6 * i) + 1)) (nI_add (6 * i) 1) ?_
  refine k_iald (v := fm ((6 * i) + 1)) C 0 h_wm rfl (vp_in_nI (by omega) (by omega)) (by rw [nI_clamp (by omega)]) dX7_reckon_20 ?_
  refine k_val (y := nI a) hm1 ?_
  refine k_istore (lv' := [(5, .int (nI a)), (4, .int (nI 6)), (3, .int (nI (6 * i))), (0, .ref m), (1, .int (nI i)), (2, .int (nI g))]) C dX7_reckon_21 (by decide) rfl ?_
  refine k_aload_n C dX7_reckon_23 rfl 3 rfl ?_
  refine k_get (ci := 7) (k := 6) C fl_7_19 h_m rfl dX7_reckon_24 ?_
  refine k_iload_n C dX7_reckon_27 rfl 2 rfl ?_
  refine k_iconst (v := nI 2) C dX7_reckon_28 rfl ?_
  refine k_iadd C dX7_reckon_29 ?_
  refine k_val (y := nI ((6 * i) + 2)) (nI_add (6 * i) 2) ?_
  refine k_iald (v := fm ((6 * i) + 2)) C 0 h_wm rfl (vp_in_nI (by omega) (by omega)) (by rw [nI_clamp (by omega)]) dX7_reckon_30 ?_
  refine k_val (y := nI vv) hm2 ?_
  refine k_istore (lv' := [(6, .int (nI vv)), (5, .int (nI a)), (4, .int (nI 6)), (3, .int (nI (6 * i))), (0, .ref m), (1, .int (nI i)), (2, .int (nI g))]) C dX7_reckon_31 (by decide) rfl ?_
  refine k_iload_n C dX7_reckon_33 rfl 5 rfl ?_
  refine k_iload_n C dX7_reckon_34 rfl 6 rfl ?_
  refine k_callS_pi C ms_7_140 (c_X7_table   ) rfl rfl (by simp [Value.category]) ⟨Nat.le_of_ble_eq_true rfl, Nat.le_of_ble_eq_true rfl⟩ ⟨(by decide), (by decide)⟩ dX7_reckon_35 ?_
  refine k_istore (lv' := [(7, .int (nI (4 * i + g))), (6, .int (nI vv)), (5, .int (nI a)), (4, .int (nI 6)), (3, .int (nI (6 * i))), (0, .ref m), (1, .int (nI i)), (2, .int (nI g))]) C dX7_reckon_38 (by decide) rfl ?_
  refine k_aload_n C dX7_reckon_40 rfl 5 rfl ?_
  refine k_get (ci := 7) (k := 9) C fl_7_26 h_m rfl dX7_reckon_41 ?_
  refine k_iload C dX7_reckon_44 0 rfl ?_
  refine k_iconst (v := nI 0) C dX7_reckon_46 rfl ?_
  refine k_iast (f' := upd fc (4 * i + g) (nI 0)) C 0 h_wc rfl (vp_in_nI (by omega) (by omega)) (by rw [nI_clamp (by omega)]) dX7_reckon_47 ?_
  have hS0 : ∀ j z, j < i → z < 4 → MTb (S j z) (upd fc (4 * i + g) (nI 0) (4 * j + z)) (tbl fr (4 * j + z)) := fun j z hj hz => (hS j z hj hz).up (by omega)
  have hc0 : upd fc (4 * i + g) (nI 0) (4 * i + g) = 0 := upd_at
  refine k_iload C dX7_reckon_48 3 rfl ?_
  refine k_if_ne (tgt := 62) C dX7_reckon_50 (by decide) (fun c50 => ?_) (fun c50 => ?_)
  · skip
    have b50 : ¬ 6 = 0 := fun z => c50 ((nI_eq (a := 6) (b := 0) (by omega) (by omega)).mpr z)
    refine k_iload C dX7_reckon_62 3 rfl ?_
    refine k_iconst (v := nI 1) C dX7_reckon_64 rfl ?_
    refine k_icmp_lt (tgt := 78) C dX7_reckon_65 (by decide) (fun c65 => ?_) (fun c65 => ?_)
    · exact absurd c65 (by decide)
    · skip
      have b65 : ¬ 6 < 1 := fun z => c65 ((nI_ltI (a := 6) (b := 1) (by omega) (by omega)).mpr z)
      refine k_iload C dX7_reckon_68 3 rfl ?_
      refine k_iconst (v := nI 4) C dX7_reckon_70 rfl ?_
      refine k_icmp_gt (tgt := 78) C dX7_reckon_71 (by decide) (fun c71 => ?_) (fun c71 => ?_)
      · skip
        have b71 : 4 < 6 := (nI_ltI (a := 4) (b := 6) (by omega) (by omega)).mp c71
        refine k_iconst (v := nI 0) C dX7_reckon_78 rfl ?_
        refine k_istore (lv' := [(8, .int (nI 0)), (7, .int (nI (4 * i + g))), (6, .int (nI vv)), (5, .int (nI a)), (4, .int (nI 6)), (3, .int (nI (6 * i))), (0, .ref m), (1, .int (nI i)), (2, .int (nI g))]) C dX7_reckon_79 (by decide) rfl ?_
        refine k_iload C dX7_reckon_81 4 rfl ?_
        refine k_bipush (v := nI 12) C dX7_reckon_83 rfl ?_
        refine k_icmp_ne (tgt := 99) C dX7_reckon_85 (by decide) (fun c85 => ?_) (fun c85 => ?_)
        · skip
          have b85 : ¬ 6 = 12 := fun z => c85 ((nI_eq (a := 6) (b := 12) (by omega) (by omega)).mpr z)
          refine k_iload C dX7_reckon_99 4 rfl ?_
          refine k_bipush (v := nI 13) C dX7_reckon_101 rfl ?_
          refine k_icmp_ne (tgt := 144) C dX7_reckon_103 (by decide) (fun c103 => ?_) (fun c103 => ?_)
          · skip
            have b103 : ¬ 6 = 13 := fun z => c103 ((nI_eq (a := 6) (b := 13) (by omega) (by omega)).mpr z)
            refine k_aload_n C dX7_reckon_144 rfl 6 rfl ?_
            refine k_iload C dX7_reckon_145 3 rfl ?_
            refine k_iload_n C dX7_reckon_147 rfl 8 rfl ?_
            have ne1 : nq m wc := gv_ne h_wc h_m (by simp)
            refine k_callV_pi C mv_7_148 (c_X7_isLong  ((gv_up_n ne1).trans h_m) gv_up_s (by omega) (by omega) (hS0 a g (by omega) (by omega))) ((gv_up_n ne1).trans h_m) rfl rfl (by simp [Value.category]) ⟨Nat.le_of_ble_eq_true rfl, Nat.le_of_ble_eq_true rfl⟩ ⟨(by decide), (by decide)⟩ dX7_reckon_148 ?_
            refine k_if_ne (tgt := 169) C dX7_reckon_151 (by decide) (fun c151 => ?_) (fun c151 => ?_)
            · skip
              have b151 : ((S a g).isNone) = true := bI_n.mp c151
              refine k_iconst (v := nI 1) C dX7_reckon_169 rfl ?_
              refine k_goto (tgt := 174) C dX7_reckon_170 (by decide) ?_
              refine k_istore (lv' := [(9, .int (nI 1)), (8, .int (nI 0)), (7, .int (nI (4 * i + g))), (6, .int (nI vv)), (5, .int (nI a)), (4, .int (nI 6)), (3, .int (nI (6 * i))), (0, .ref m), (1, .int (nI i)), (2, .int (nI g))]) C dX7_reckon_174 (by decide) rfl ?_
              refine k_iload C dX7_reckon_176 0 rfl ?_
              refine k_if_eq (tgt := 191) C dX7_reckon_178 (by decide) (fun c178 => ?_) (fun c178 => ?_)
              · exact absurd c178 (by decide)
              · skip
                have b178 : ¬ 1 = 0 := fun z => c178 ((nI_eq (a := 1) (b := 0) (by omega) (by omega)).mpr z)
                refine k_aload_n C dX7_reckon_181 rfl 7 rfl ?_
                refine k_get (ci := 7) (k := 9) C fl_7_26 ((gv_up_n ne1).trans h_m) rfl dX7_reckon_182 ?_
                refine k_iload C dX7_reckon_185 2 rfl ?_
                refine k_bipush (v := (-2 : Int32)) C dX7_reckon_187 (by decide) ?_
                refine k_iast (f' := upd (upd fc (4 * i + g) (nI 0)) (4 * i + g) (-2 : Int32)) C 0 gv_up_s rfl (vp_in_nI (by omega) (by omega)) (by rw [nI_clamp (by omega)]) dX7_reckon_189 ?_
                refine k_view (V1 := gv_up V wc (.inl (cI, 120, .inl (upd (upd fc (4 * i + g) (nI 0)) (4 * i + g) (-2 : Int32))))) gv_uu ?_
                have ne2 : nq wr wc := gv_ne h_wc h_wr (by simp)
                refine k_view (V1 := gv_up (gv_up V wc (.inl (cI, 120, .inl (upd (upd fc (4 * i + g) (nI 0)) (4 * i + g) (-2 : Int32))))) wr (.inl (cI, 57600, .inl fr))) (gv_id ((gv_up_n ne2).trans h_wr)).symm ?_
                have ne3 : nq wn wc := gv_ne h_wc h_wn (by simp)
                have ne4 : nq wn wr := gv_ne h_wr h_wn (by simp)
                refine k_view (V1 := gv_up (gv_up (gv_up V wc (.inl (cI, 120, .inl (upd (upd fc (4 * i + g) (nI 0)) (4 * i + g) (-2 : Int32))))) wr (.inl (cI, 57600, .inl fr))) wn (.inl (cI, 6, .inl fw))) (gv_id ((gv_up_n ne4).trans ((gv_up_n ne3).trans h_wn))).symm ?_
                have ne5 : nq wv wc := gv_ne h_wc h_wv (by simp)
                have ne6 : nq wv wr := gv_ne h_wr h_wv (by simp)
                have ne7 : nq wv wn := gv_ne h_wn h_wv (by simp)
                refine k_view (V1 := gv_up (gv_up (gv_up (gv_up V wc (.inl (cI, 120, .inl (upd (upd fc (4 * i + g) (nI 0)) (4 * i + g) (-2 : Int32))))) wr (.inl (cI, 57600, .inl fr))) wn (.inl (cI, 6, .inl fw))) wv (.inl (cI, 30, .inl fv))) (gv_id ((gv_up_n ne7).trans ((gv_up_n ne6).trans ((gv_up_n ne5).trans h_wv)))).symm ?_
                have ne8 : nq wk wc := gv_ne h_wc h_wk (by simp)
                have ne9 : nq wk wr := gv_ne h_wr h_wk (by simp)
                have ne10 : nq wk wn := gv_ne h_wn h_wk (by simp)
                have ne11 : nq wk wv := gv_ne h_wv h_wk (by simp)
                refine k_view (V1 := gv_up (gv_up (gv_up (gv_up (gv_up V wc (.inl (cI, 120, .inl (upd (upd fc (4 * i + g) (nI 0)) (4 * i + g) (-2 : Int32))))) wr (.inl (cI, 57600, .inl fr))) wn (.inl (cI, 6, .inl fw))) wv (.inl (cI, 30, .inl fv))) wk (.inl (cI, 80, .inl fk))) (gv_id ((gv_up_n ne11).trans ((gv_up_n ne10).trans ((gv_up_n ne9).trans ((gv_up_n ne8).trans h_wk))))).symm ?_
                have ne12 : nq wp wc := gv_ne h_wc h_wp (by simp)
                have ne13 : nq wp wr := gv_ne h_wr h_wp (by simp)
                have ne14 : nq wp wn := gv_ne h_wn h_wp (by simp)
                have ne15 : nq wp wv := gv_ne h_wv h_wp (by simp)
                refine k_view (V1 := gv_up (gv_up (gv_up (gv_up (gv_up (gv_up V wc (.inl (cI, 120, .inl (upd (upd fc (4 * i + g) (nI 0)) (4 * i + g) (-2 : Int32))))) wr (.inl (cI, 57600, .inl fr))) wn (.inl (cI, 6, .inl fw))) wv (.inl (cI, 30, .inl fv))) wk (.inl (cI, 80, .inl fk))) wp (.inl (cI, 80, .inl fp))) (gv_id ((gv_up_n (Ne.symm hwkp)).trans ((gv_up_n ne15).trans ((gv_up_n ne14).trans ((gv_up_n ne13).trans ((gv_up_n ne12).trans h_wp)))))).symm ?_
                refine k_view (V1 := gv_up (gv_up (gv_up (gv_up (gv_up (gv_up V wr (.inl (cI, 57600, .inl fr))) wc (.inl (cI, 120, .inl (upd (upd fc (4 * i + g) (nI 0)) (4 * i + g) (-2 : Int32))))) wn (.inl (cI, 6, .inl fw))) wv (.inl (cI, 30, .inl fv))) wk (.inl (cI, 80, .inl fk))) wp (.inl (cI, 80, .inl fp))) (congrArg (fun W => gv_up W wp (.inl (cI, 80, .inl fp))) (congrArg (fun W => gv_up W wk (.inl (cI, 80, .inl fk))) (congrArg (fun W => gv_up W wv (.inl (cI, 30, .inl fv))) (congrArg (fun W => gv_up W wn (.inl (cI, 6, .inl fw))) (gv_uc ne2))))) ?_
                exact k_vret C zr zlk ⟨fr, upd (upd fc (4 * i + g) (nI 0)) (4 * i + g) (-2 : Int32), fw, fv, fk, fp, rfl, rfl, (MTb.no (by rw [isN0 b151]; rfl) upd_at), (Kp.up.tr Kp.up)⟩ (Nat.le_refl _) (Nat.le_refl _) dX7_reckon_190
            · skip
              have b151 : ((S a g).isNone) = false := bI_0.mp c151
              obtain ⟨A, eA⟩ := isN b151
              obtain ⟨hcA, hA⟩ := (hS0 a g ha (by omega)).sm eA
              refine k_iload C dX7_reckon_154 0 rfl ?_
              refine k_if_eq (tgt := 173) C dX7_reckon_156 (by decide) (fun c156 => ?_) (fun c156 => ?_)
              · skip
                have b156 : 0 = 0 := (nI_eq (a := 0) (b := 0) (by omega) (by omega)).mp c156
                refine k_iconst (v := nI 0) C dX7_reckon_173 rfl ?_
                refine k_istore (lv' := [(9, .int (nI 0)), (8, .int (nI 0)), (7, .int (nI (4 * i + g))), (6, .int (nI vv)), (5, .int (nI a)), (4, .int (nI 6)), (3, .int (nI (6 * i))), (0, .ref m), (1, .int (nI i)), (2, .int (nI g))]) C dX7_reckon_174 (by decide) rfl ?_
                refine k_iload C dX7_reckon_176 0 rfl ?_
                refine k_if_eq (tgt := 191) C dX7_reckon_178 (by decide) (fun c178 => ?_) (fun c178 => ?_)
                · skip
                  have b178 : 0 = 0 := (nI_eq (a := 0) (b := 0) (by omega) (by omega)).mp c178
                  refine k_iload C dX7_reckon_191 4 rfl ?_
                  refine k_iload_n C dX7_reckon_193 rfl 9 rfl ?_
                  refine k_callS_pi C ms_7_140 (c_X7_table   ) rfl rfl (by simp [Value.category]) ⟨Nat.le_of_ble_eq_true rfl, Nat.le_of_ble_eq_true rfl⟩ ⟨(by decide), (by decide)⟩ dX7_reckon_194 ?_
                  refine k_istore (lv' := [(10, .int (nI (4 * a + g))), (9, .int (nI 0)), (8, .int (nI 0)), (7, .int (nI (4 * i + g))), (6, .int (nI vv)), (5, .int (nI a)), (4, .int (nI 6)), (3, .int (nI (6 * i))), (0, .ref m), (1, .int (nI i)), (2, .int (nI g))]) C dX7_reckon_197 (by decide) rfl ?_
                  refine k_iload C dX7_reckon_199 6 rfl ?_
                  refine k_tableIn (tgt := 434) C dX7_reckon_201 (by decide) (by decide) rfl (by decide) ?_
                  refine k_aload_n C dX7_reckon_434 rfl 8 rfl ?_
                  refine k_iload C dX7_reckon_435 3 rfl ?_
                  refine k_iload C dX7_reckon_437 0 rfl ?_
                  refine k_iload C dX7_reckon_439 6 rfl ?_
                  refine k_iload C dX7_reckon_441 4 rfl ?_
                  refine k_aload_n C dX7_reckon_443 rfl 8 rfl ?_
                  refine k_get (ci := 7) (k := 6) C fl_7_19 ((gv_up_n ne1).trans h_m) rfl dX7_reckon_444 ?_
                  refine k_iload_n C dX7_reckon_447 rfl 7 rfl ?_
                  refine k_iconst (v := nI 3) C dX7_reckon_448 rfl ?_
                  refine k_iadd C dX7_reckon_449 ?_
                  refine k_val (y := nI ((6 * i) + 3)) (nI_add (6 * i) 3) ?_
                  have ne16 : nq wm wc := gv_ne h_wc h_wm (by simp)
                  refine k_iald (v := fm ((6 * i) + 3)) C 0 ((gv_up_n ne16).trans h_wm) rfl (vp_in_nI (by omega) (by omega)) (by rw [nI_clamp (by omega)]) dX7_reckon_450 ?_
                  refine k_val (y := nI e) hm3 ?_
                  have ne17 : nq wr wc := gv_ne h_wc h_wr (by simp)
                  have ne18 : nq wn wc := gv_ne h_wc h_wn (by simp)
                  have ne19 : nq wv wc := gv_ne h_wc h_wv (by simp)
                  have ne20 : nq wa wc := gv_ne h_wc h_wa (by simp)
                  refine k_callV C mv_7_155 (c_each6  ((gv_up_n ne1).trans h_m) ((gv_up_n ne17).trans h_wr) gv_up_s ((gv_up_n ne18).trans h_wn) ((gv_up_n ne19).trans h_wv) ((gv_up_n ne20).trans h_wa) (by first | assumption | omega) (by first | assumption | omega) (by first | assumption | omega) (by first | assumption | omega) (by first | assumption | omega) (MRep.nil hc0) (by first | assumption | omega) (by first | assumption | omega) (by first | assumption | omega)) ((gv_up_n ne1).trans h_m) rfl rfl (by simp [Value.category]) ⟨Nat.le_of_ble_eq_true rfl, Nat.le_of_ble_eq_true rfl⟩ ⟨(by decide), (by decide)⟩ dX7_reckon_451 (fun zv zV zh => ?_)
                  obtain ⟨fr1_w21, fc1_w21, fw1_w21, fv1_w21, rfl, rfl, hR1_w21, hK1_w21⟩ := zh
                  refine k_pc (pc' := 454) (st' := []) rfl rfl ?_
                  refine k_view (V1 := gv_up (gv_up (gv_up (gv_up V wc (.inl (cI, 120, .inl fc1_w21))) wr (.inl (cI, 57600, .inl fr1_w21))) wn (.inl (cI, 6, .inl fw1_w21))) wv (.inl (cI, 30, .inl fv1_w21))) (congrArg (fun W => gv_up W wv (.inl (cI, 30, .inl fv1_w21))) (congrArg (fun W => gv_up W wn (.inl (cI, 6, .inl fw1_w21))) ((gv_uc (Ne.symm ne17)).trans (congrArg (fun W => gv_up W wr (.inl (cI, 57600, .inl fr1_w21))) gv_uu)))) ?_
                  have ne22 : nq wk wc := gv_ne h_wc h_wk (by simp)
                  have ne23 : nq wk wr := gv_ne h_wr h_wk (by simp)
                  have ne24 : nq wk wn := gv_ne h_wn h_wk (by simp)
                  have ne25 : nq wk wv := gv_ne h_wv h_wk (by simp)
                  refine k_view (V1 := gv_up (gv_up (gv_up (gv_up (gv_up V wc (.inl (cI, 120, .inl fc1_w21))) wr (.inl (cI, 57600, .inl fr1_w21))) wn (.inl (cI, 6, .inl fw1_w21))) wv (.inl (cI, 30, .inl fv1_w21))) wk (.inl (cI, 80, .inl fk))) (gv_id ((gv_up_n ne25).trans ((gv_up_n ne24).trans ((gv_up_n ne23).trans ((gv_up_n ne22).trans h_wk))))).symm ?_
                  have ne26 : nq wp wc := gv_ne h_wc h_wp (by simp)
                  have ne27 : nq wp wr := gv_ne h_wr h_wp (by simp)
                  have ne28 : nq wp wn := gv_ne h_wn h_wp (by simp)
                  have ne29 : nq wp wv := gv_ne h_wv h_wp (by simp)
                  refine k_view (V1 := gv_up (gv_up (gv_up (gv_up (gv_up (gv_up V wc (.inl (cI, 120, .inl fc1_w21))) wr (.inl (cI, 57600, .inl fr1_w21))) wn (.inl (cI, 6, .inl fw1_w21))) wv (.inl (cI, 30, .inl fv1_w21))) wk (.inl (cI, 80, .inl fk))) wp (.inl (cI, 80, .inl fp))) (gv_id ((gv_up_n (Ne.symm hwkp)).trans ((gv_up_n ne29).trans ((gv_up_n ne28).trans ((gv_up_n ne27).trans ((gv_up_n ne26).trans h_wp)))))).symm ?_
                  refine k_view (V1 := gv_up (gv_up (gv_up (gv_up (gv_up (gv_up V wr (.inl (cI, 57600, .inl fr1_w21))) wc (.inl (cI, 120, .inl fc1_w21))) wn (.inl (cI, 6, .inl fw1_w21))) wv (.inl (cI, 30, .inl fv1_w21))) wk (.inl (cI, 80, .inl fk))) wp (.inl (cI, 80, .inl fp))) (congrArg (fun W => gv_up W wp (.inl (cI, 80, .inl fp))) (congrArg (fun W => gv_up W wk (.inl (cI, 80, .inl fk))) (congrArg (fun W => gv_up W wv (.inl (cI, 30, .inl fv1_w21))) (congrArg (fun W => gv_up W wn (.inl (cI, 6, .inl fw1_w21))) (gv_uc ne17))))) ?_
                  exact k_vret C zr zlk ⟨fr1_w21, fc1_w21, fw1_w21, fv1_w21, fk, fp, rfl, rfl, (by rw [eA]; exact (MRep.tb hR1_w21)), (Kp.up.tr hK1_w21)⟩ (Nat.le_refl _) (Nat.le_refl _) dX7_reckon_454
                · exact absurd c178 (by decide)
              · exact absurd c156 (by decide)
          · exact absurd c103 (by decide)
        · exact absurd c85 (by decide)
      · exact absurd c71 (by decide)
  · exact absurd c50 (by decide)
set_option maxHeartbeats 4000000 in
set_option maxRecDepth 100000 in
theorem c_reckon7 {zl : Launch} {D : va_G} {cI cN cR : ClassId} {base : Nat} {V : gv_V} {m wt wa wv wm wr wc wn ws wk wp nt ne nn sh : Nat} {kn : Int32} {ft fa fv fm fr fc fw fk fp : Nat → Int32} {i g a : Nat} {st : Int32} {S : Nat → Nat → Option (List Row)}  (h_m : V m = some (.inr (7, [.int (nI nt), .ref wt, .int (nI ne), .ref wa, .ref wv, .int (nI nn), .ref wm, .int kn, .ref wr, .ref wc, .ref wn, .int (nI sh), .ref ws, .ref wk, .ref wp]))) (h_wr : V wr = some (.inl (cI, 57600, .inl fr))) (h_wc : V wc = some (.inl (cI, 120, .inl fc))) (h_wn : V wn = some (.inl (cI, 6, .inl fw))) (h_wv : V wv = some (.inl (cI, 30, .inl fv))) (h_wk : V wk = some (.inl (cI, 80, .inl fk))) (h_wp : V wp = some (.inl (cI, 80, .inl fp))) (h_wa : V wa = some (.inl (cI, 90, .inl fa))) (h_wm : V wm = some (.inl (cI, 180, .inl fm))) (h_wt : V wt = some (.inl (cI, 240, .inl ft))) (hi : i < 30) (hg : g < 4) (hm0 : fm (6 * i) = nI 7) (hwkp : nq wk wp) (hm1 : fm (6 * i + 1) = nI a) (ha : a < i) (hm2 : fm (6 * i + 2) = st) (hS : ∀ j z1, j < i → z1 < 4 → MTb (S j z1) (fc (4 * j + z1)) (tbl fr (4 * j + z1))) : ct zl D [(cI, .int), (cN, .object "AlgebraTree$Node"), (cR, .object "AlgebraTree$Rows")] base yX7_reckon cX7_reckon 11 none 5 0 0 [.ref m, .int (nI i), .int (nI g)] V (fun zv zV => ∃ fr1 : Nat → Int32, ∃ fc1 : Nat → Int32, ∃ fw1 : Nat → Int32, ∃ fv1 : Nat → Int32, ∃ fk1 : Nat → Int32, ∃ fp1 : Nat → Int32, zv = none ∧ zV = gv_up (gv_up (gv_up (gv_up (gv_up (gv_up V wr (.inl (cI, 57600, .inl fr1))) wc (.inl (cI, 120, .inl fc1))) wn (.inl (cI, 6, .inl fw1))) wv (.inl (cI, 30, .inl fv1))) wk (.inl (cI, 80, .inl fk1))) wp (.inl (cI, 80, .inl fp1)) ∧ (MTb ((S a g).bind (fun A => cap (A.map (prj st)))) (fc1 (4 * i + g)) (tbl fr1 (4 * i + g))) ∧ (Kp (4 * i + g) fc fr fc1 fr1)) := by
  refine ct_of "AlgebraTreeModel" rfl (by decide) (Nat.le_of_ble_eq_true rfl) ?_
  intro zp ze zs zm zargs zbelow zmeth zc C zr zlk znm
  refine k_pc (pc' := 0) (st' := []) rfl rfl ?_
  show K zp zl ze (gv_rm 5 0 0) zs zm zargs zbelow zmeth zc D base 11 (gv_E D [(cI, .int), (cN, .object "AlgebraTree$Node"), (cR, .object "AlgebraTree$Rows")] base zbelow zargs zs 0 0 (fun zv zV => ∃ fr1 : Nat → Int32, ∃ fc1 : Nat → Int32, ∃ fw1 : Nat → Int32, ∃ fv1 : Nat → Int32, ∃ fk1 : Nat → Int32, ∃ fp1 : Nat → Int32, zv = none ∧ zV = gv_up (gv_up (gv_up (gv_up (gv_up (gv_up V wr (.inl (cI, 57600, .inl fr1))) wc (.inl (cI, 120, .inl fc1))) wn (.inl (cI, 6, .inl fw1))) wv (.inl (cI, 30, .inl fv1))) wk (.inl (cI, 80, .inl fk1))) wp (.inl (cI, 80, .inl fp1)) ∧ (MTb ((S a g).bind (fun A => cap (A.map (prj st)))) (fc1 (4 * i + g)) (tbl fr1 (4 * i + g))) ∧ (Kp (4 * i + g) fc fr fc1 fr1))) V 0 0 [(0, .ref m), (1, .int (nI i)), (2, .int (nI g))] 0 []
  refine k_bipush (v := nI 6) C dX7_reckon_0 rfl ?_
  refine k_iload_n C dX7_reckon_2 rfl 1 rfl ?_
  refine k_imul C dX7_reckon_3 ?_
  refine k_val (y := nI (6 * i)) (pk_mul 6 i) ?_
  refine k_istore_n (lv' := [(3, .int (nI (6 * i))), (0, .ref m), (1, .int (nI i)), (2, .int (nI g))]) C dX7_reckon_4 rfl (by decide) rfl ?_
  refine k_aload_n C dX7_reckon_5 rfl 1 rfl ?_
  refine k_get (ci := 7) (k := 6) C fl_7_19 h_m rfl dX7_reckon_6 ?_
  refine k_iload_n C dX7_reckon_9 rfl 0 rfl ?_
  refine k_iald (v := fm (6 * i)) C 0 h_wm rfl (vp_in_nI (by omega) (by omega)) (by rw [nI_clamp (by omega)]) dX7_reckon_10 ?_
  refine k_val (y := nI 7) hm0 ?_
  refine k_istore (lv' := [(4, .int (nI 7)), (3, .int (nI (6 * i))), (0, .ref m), (1, .int (nI i)), (2, .int (nI g))]) C dX7_reckon_11 (by decide) rfl ?_
  refine k_aload_n C dX7_reckon_13 rfl 2 rfl ?_
  refine k_get (ci := 7) (k := 6) C fl_7_19 h_m rfl dX7_reckon_14 ?_
  refine k_iload_n C dX7_reckon_17 rfl 1 rfl ?_
  refine k_iconst (v := nI 1) C dX7_reckon_18 rfl ?_
  refine k_iadd C dX7_reckon_19 ?_
  refine k_val (y := nI ((6 * i) + 1)) (nI_add (6 * i) 1) ?_
  refine k_iald (v := fm ((6 * i) + 1)) C 0 h_wm rfl (vp_in_nI (by omega) (by omega)) (by rw [nI_clamp (by omega)]) dX7_reckon_20 ?_
  refine k_val (y := nI a) hm1 ?_
  refine k_istore (lv' := [(5, .int (nI a)), (4, .int (nI 7)), (3, .int (nI (6 * i))), (0, .ref m), (1, .int (nI i)), (2, .int (nI g))]) C dX7_reckon_21 (by decide) rfl ?_
  refine k_aload_n C dX7_reckon_23 rfl 3 rfl ?_
  refine k_get (ci := 7) (k := 6) C fl_7_19 h_m rfl dX7_reckon_24 ?_
  refine k_iload_n C dX7_reckon_27 rfl 2 rfl ?_
  refine k_iconst (v := nI 2) C dX7_reckon_28 rfl ?_
  refine k_iadd C dX7_reckon_29 ?_
  refine k_val (y := nI ((6 * i) + 2)) (nI_add (6 * i) 2) ?_
  refine k_iald (v := fm ((6 * i) + 2)) C 0 h_wm rfl (vp_in_nI (by omega) (by omega)) (by rw [nI_clamp (by omega)]) dX7_reckon_30 ?_
  refine k_val (y := st) hm2 ?_
  refine k_istore (lv' := [(6, .int st), (5, .int (nI a)), (4, .int (nI 7)), (3, .int (nI (6 * i))), (0, .ref m), (1, .int (nI i)), (2, .int (nI g))]) C dX7_reckon_31 (by decide) rfl ?_
  refine k_iload_n C dX7_reckon_33 rfl 5 rfl ?_
  refine k_iload_n C dX7_reckon_34 rfl 6 rfl ?_
  refine k_callS_pi C ms_7_140 (c_X7_table   ) rfl rfl (by simp [Value.category]) ⟨Nat.le_of_ble_eq_true rfl, Nat.le_of_ble_eq_true rfl⟩ ⟨(by decide), (by decide)⟩ dX7_reckon_35 ?_
  refine k_istore (lv' := [(7, .int (nI (4 * i + g))), (6, .int st), (5, .int (nI a)), (4, .int (nI 7)), (3, .int (nI (6 * i))), (0, .ref m), (1, .int (nI i)), (2, .int (nI g))]) C dX7_reckon_38 (by decide) rfl ?_
  refine k_aload_n C dX7_reckon_40 rfl 5 rfl ?_
  refine k_get (ci := 7) (k := 9) C fl_7_26 h_m rfl dX7_reckon_41 ?_
  refine k_iload C dX7_reckon_44 0 rfl ?_
  refine k_iconst (v := nI 0) C dX7_reckon_46 rfl ?_
  refine k_iast (f' := upd fc (4 * i + g) (nI 0)) C 0 h_wc rfl (vp_in_nI (by omega) (by omega)) (by rw [nI_clamp (by omega)]) dX7_reckon_47 ?_
  have hS0 : ∀ j z, j < i → z < 4 → MTb (S j z) (upd fc (4 * i + g) (nI 0) (4 * j + z)) (tbl fr (4 * j + z)) := fun j z hj hz => (hS j z hj hz).up (by omega)
  have hc0 : upd fc (4 * i + g) (nI 0) (4 * i + g) = 0 := upd_at
  refine k_iload C dX7_reckon_48 3 rfl ?_
  refine k_if_ne (tgt := 62) C dX7_reckon_50 (by decide) (fun c50 => ?_) (fun c50 => ?_)
  · skip
    have b50 : ¬ 7 = 0 := fun z => c50 ((nI_eq (a := 7) (b := 0) (by omega) (by omega)).mpr z)
    refine k_iload C dX7_reckon_62 3 rfl ?_
    refine k_iconst (v := nI 1) C dX7_reckon_64 rfl ?_
    refine k_icmp_lt (tgt := 78) C dX7_reckon_65 (by decide) (fun c65 => ?_) (fun c65 => ?_)
    · exact absurd c65 (by decide)
    · skip
      have b65 : ¬ 7 < 1 := fun z => c65 ((nI_ltI (a := 7) (b := 1) (by omega) (by omega)).mpr z)
      refine k_iload C dX7_reckon_68 3 rfl ?_
      refine k_iconst (v := nI 4) C dX7_reckon_70 rfl ?_
      refine k_icmp_gt (tgt := 78) C dX7_reckon_71 (by decide) (fun c71 => ?_) (fun c71 => ?_)
      · skip
        have b71 : 4 < 7 := (nI_ltI (a := 4) (b := 7) (by omega) (by omega)).mp c71
        refine k_iconst (v := nI 0) C dX7_reckon_78 rfl ?_
        refine k_istore (lv' := [(8, .int (nI 0)), (7, .int (nI (4 * i + g))), (6, .int st), (5, .int (nI a)), (4, .int (nI 7)), (3, .int (nI (6 * i))), (0, .ref m), (1, .int (nI i)), (2, .int (nI g))]) C dX7_reckon_79 (by decide) rfl ?_
        refine k_iload C dX7_reckon_81 4 rfl ?_
        refine k_bipush (v := nI 12) C dX7_reckon_83 rfl ?_
        refine k_icmp_ne (tgt := 99) C dX7_reckon_85 (by decide) (fun c85 => ?_) (fun c85 => ?_)
        · skip
          have b85 : ¬ 7 = 12 := fun z => c85 ((nI_eq (a := 7) (b := 12) (by omega) (by omega)).mpr z)
          refine k_iload C dX7_reckon_99 4 rfl ?_
          refine k_bipush (v := nI 13) C dX7_reckon_101 rfl ?_
          refine k_icmp_ne (tgt := 144) C dX7_reckon_103 (by decide) (fun c103 => ?_) (fun c103 => ?_)
          · skip
            have b103 : ¬ 7 = 13 := fun z => c103 ((nI_eq (a := 7) (b := 13) (by omega) (by omega)).mpr z)
            refine k_aload_n C dX7_reckon_144 rfl 6 rfl ?_
            refine k_iload C dX7_reckon_145 3 rfl ?_
            refine k_iload_n C dX7_reckon_147 rfl 8 rfl ?_
            have ne1 : nq m wc := gv_ne h_wc h_m (by simp)
            refine k_callV_pi C mv_7_148 (c_X7_isLong  ((gv_up_n ne1).trans h_m) gv_up_s (by omega) (by omega) (hS0 a g (by omega) (by omega))) ((gv_up_n ne1).trans h_m) rfl rfl (by simp [Value.category]) ⟨Nat.le_of_ble_eq_true rfl, Nat.le_of_ble_eq_true rfl⟩ ⟨(by decide), (by decide)⟩ dX7_reckon_148 ?_
            refine k_if_ne (tgt := 169) C dX7_reckon_151 (by decide) (fun c151 => ?_) (fun c151 => ?_)
            · skip
              have b151 : ((S a g).isNone) = true := bI_n.mp c151
              refine k_iconst (v := nI 1) C dX7_reckon_169 rfl ?_
              refine k_goto (tgt := 174) C dX7_reckon_170 (by decide) ?_
              refine k_istore (lv' := [(9, .int (nI 1)), (8, .int (nI 0)), (7, .int (nI (4 * i + g))), (6, .int st), (5, .int (nI a)), (4, .int (nI 7)), (3, .int (nI (6 * i))), (0, .ref m), (1, .int (nI i)), (2, .int (nI g))]) C dX7_reckon_174 (by decide) rfl ?_
              refine k_iload C dX7_reckon_176 0 rfl ?_
              refine k_if_eq (tgt := 191) C dX7_reckon_178 (by decide) (fun c178 => ?_) (fun c178 => ?_)
              · exact absurd c178 (by decide)
              · skip
                have b178 : ¬ 1 = 0 := fun z => c178 ((nI_eq (a := 1) (b := 0) (by omega) (by omega)).mpr z)
                refine k_aload_n C dX7_reckon_181 rfl 7 rfl ?_
                refine k_get (ci := 7) (k := 9) C fl_7_26 ((gv_up_n ne1).trans h_m) rfl dX7_reckon_182 ?_
                refine k_iload C dX7_reckon_185 2 rfl ?_
                refine k_bipush (v := (-2 : Int32)) C dX7_reckon_187 (by decide) ?_
                refine k_iast (f' := upd (upd fc (4 * i + g) (nI 0)) (4 * i + g) (-2 : Int32)) C 0 gv_up_s rfl (vp_in_nI (by omega) (by omega)) (by rw [nI_clamp (by omega)]) dX7_reckon_189 ?_
                refine k_view (V1 := gv_up V wc (.inl (cI, 120, .inl (upd (upd fc (4 * i + g) (nI 0)) (4 * i + g) (-2 : Int32))))) gv_uu ?_
                have ne2 : nq wr wc := gv_ne h_wc h_wr (by simp)
                refine k_view (V1 := gv_up (gv_up V wc (.inl (cI, 120, .inl (upd (upd fc (4 * i + g) (nI 0)) (4 * i + g) (-2 : Int32))))) wr (.inl (cI, 57600, .inl fr))) (gv_id ((gv_up_n ne2).trans h_wr)).symm ?_
                have ne3 : nq wn wc := gv_ne h_wc h_wn (by simp)
                have ne4 : nq wn wr := gv_ne h_wr h_wn (by simp)
                refine k_view (V1 := gv_up (gv_up (gv_up V wc (.inl (cI, 120, .inl (upd (upd fc (4 * i + g) (nI 0)) (4 * i + g) (-2 : Int32))))) wr (.inl (cI, 57600, .inl fr))) wn (.inl (cI, 6, .inl fw))) (gv_id ((gv_up_n ne4).trans ((gv_up_n ne3).trans h_wn))).symm ?_
                have ne5 : nq wv wc := gv_ne h_wc h_wv (by simp)
                have ne6 : nq wv wr := gv_ne h_wr h_wv (by simp)
                have ne7 : nq wv wn := gv_ne h_wn h_wv (by simp)
                refine k_view (V1 := gv_up (gv_up (gv_up (gv_up V wc (.inl (cI, 120, .inl (upd (upd fc (4 * i + g) (nI 0)) (4 * i + g) (-2 : Int32))))) wr (.inl (cI, 57600, .inl fr))) wn (.inl (cI, 6, .inl fw))) wv (.inl (cI, 30, .inl fv))) (gv_id ((gv_up_n ne7).trans ((gv_up_n ne6).trans ((gv_up_n ne5).trans h_wv)))).symm ?_
                have ne8 : nq wk wc := gv_ne h_wc h_wk (by simp)
                have ne9 : nq wk wr := gv_ne h_wr h_wk (by simp)
                have ne10 : nq wk wn := gv_ne h_wn h_wk (by simp)
                have ne11 : nq wk wv := gv_ne h_wv h_wk (by simp)
                refine k_view (V1 := gv_up (gv_up (gv_up (gv_up (gv_up V wc (.inl (cI, 120, .inl (upd (upd fc (4 * i + g) (nI 0)) (4 * i + g) (-2 : Int32))))) wr (.inl (cI, 57600, .inl fr))) wn (.inl (cI, 6, .inl fw))) wv (.inl (cI, 30, .inl fv))) wk (.inl (cI, 80, .inl fk))) (gv_id ((gv_up_n ne11).trans ((gv_up_n ne10).trans ((gv_up_n ne9).trans ((gv_up_n ne8).trans h_wk))))).symm ?_
                have ne12 : nq wp wc := gv_ne h_wc h_wp (by simp)
                have ne13 : nq wp wr := gv_ne h_wr h_wp (by simp)
                have ne14 : nq wp wn := gv_ne h_wn h_wp (by simp)
                have ne15 : nq wp wv := gv_ne h_wv h_wp (by simp)
                refine k_view (V1 := gv_up (gv_up (gv_up (gv_up (gv_up (gv_up V wc (.inl (cI, 120, .inl (upd (upd fc (4 * i + g) (nI 0)) (4 * i + g) (-2 : Int32))))) wr (.inl (cI, 57600, .inl fr))) wn (.inl (cI, 6, .inl fw))) wv (.inl (cI, 30, .inl fv))) wk (.inl (cI, 80, .inl fk))) wp (.inl (cI, 80, .inl fp))) (gv_id ((gv_up_n (Ne.symm hwkp)).trans ((gv_up_n ne15).trans ((gv_up_n ne14).trans ((gv_up_n ne13).trans ((gv_up_n ne12).trans h_wp)))))).symm ?_
                refine k_view (V1 := gv_up (gv_up (gv_up (gv_up (gv_up (gv_up V wr (.inl (cI, 57600, .inl fr))) wc (.inl (cI, 120, .inl (upd (upd fc (4 * i + g) (nI 0)) (4 * i + g) (-2 : Int32))))) wn (.inl (cI, 6, .inl fw))) wv (.inl (cI, 30, .inl fv))) wk (.inl (cI, 80, .inl fk))) wp (.inl (cI, 80, .inl fp))) (congrArg (fun W => gv_up W wp (.inl (cI, 80, .inl fp))) (congrArg (fun W => gv_up W wk (.inl (cI, 80, .inl fk))) (congrArg (fun W => gv_up W wv (.inl (cI, 30, .inl fv))) (congrArg (fun W => gv_up W wn (.inl (cI, 6, .inl fw))) (gv_uc ne2))))) ?_
                exact k_vret C zr zlk ⟨fr, upd (upd fc (4 * i + g) (nI 0)) (4 * i + g) (-2 : Int32), fw, fv, fk, fp, rfl, rfl, (MTb.no (by rw [isN0 b151]; rfl) upd_at), (Kp.up.tr Kp.up)⟩ (Nat.le_refl _) (Nat.le_refl _) dX7_reckon_190
            · skip
              have b151 : ((S a g).isNone) = false := bI_0.mp c151
              obtain ⟨A, eA⟩ := isN b151
              obtain ⟨hcA, hA⟩ := (hS0 a g ha (by omega)).sm eA
              refine k_iload C dX7_reckon_154 0 rfl ?_
              refine k_if_eq (tgt := 173) C dX7_reckon_156 (by decide) (fun c156 => ?_) (fun c156 => ?_)
              · skip
                have b156 : 0 = 0 := (nI_eq (a := 0) (b := 0) (by omega) (by omega)).mp c156
                refine k_iconst (v := nI 0) C dX7_reckon_173 rfl ?_
                refine k_istore (lv' := [(9, .int (nI 0)), (8, .int (nI 0)), (7, .int (nI (4 * i + g))), (6, .int st), (5, .int (nI a)), (4, .int (nI 7)), (3, .int (nI (6 * i))), (0, .ref m), (1, .int (nI i)), (2, .int (nI g))]) C dX7_reckon_174 (by decide) rfl ?_
                refine k_iload C dX7_reckon_176 0 rfl ?_
                refine k_if_eq (tgt := 191) C dX7_reckon_178 (by decide) (fun c178 => ?_) (fun c178 => ?_)
                · skip
                  have b178 : 0 = 0 := (nI_eq (a := 0) (b := 0) (by omega) (by omega)).mp c178
                  refine k_iload C dX7_reckon_191 4 rfl ?_
                  refine k_iload_n C dX7_reckon_193 rfl 9 rfl ?_
                  refine k_callS_pi C ms_7_140 (c_X7_table   ) rfl rfl (by simp [Value.category]) ⟨Nat.le_of_ble_eq_true rfl, Nat.le_of_ble_eq_true rfl⟩ ⟨(by decide), (by decide)⟩ dX7_reckon_194 ?_
                  refine k_istore (lv' := [(10, .int (nI (4 * a + g))), (9, .int (nI 0)), (8, .int (nI 0)), (7, .int (nI (4 * i + g))), (6, .int st), (5, .int (nI a)), (4, .int (nI 7)), (3, .int (nI (6 * i))), (0, .ref m), (1, .int (nI i)), (2, .int (nI g))]) C dX7_reckon_197 (by decide) rfl ?_
                  refine k_iload C dX7_reckon_199 6 rfl ?_
                  refine k_tableIn (tgt := 434) C dX7_reckon_201 (by decide) (by decide) rfl (by decide) ?_
                  refine k_aload_n C dX7_reckon_434 rfl 8 rfl ?_
                  refine k_iload C dX7_reckon_435 3 rfl ?_
                  refine k_iload C dX7_reckon_437 0 rfl ?_
                  refine k_iload C dX7_reckon_439 6 rfl ?_
                  refine k_iload C dX7_reckon_441 4 rfl ?_
                  refine k_aload_n C dX7_reckon_443 rfl 8 rfl ?_
                  refine k_get (ci := 7) (k := 6) C fl_7_19 ((gv_up_n ne1).trans h_m) rfl dX7_reckon_444 ?_
                  refine k_iload_n C dX7_reckon_447 rfl 7 rfl ?_
                  refine k_iconst (v := nI 3) C dX7_reckon_448 rfl ?_
                  refine k_iadd C dX7_reckon_449 ?_
                  refine k_val (y := nI ((6 * i) + 3)) (nI_add (6 * i) 3) ?_
                  have ne16 : nq wm wc := gv_ne h_wc h_wm (by simp)
                  refine k_iald (v := fm ((6 * i) + 3)) C 0 ((gv_up_n ne16).trans h_wm) rfl (vp_in_nI (by omega) (by omega)) (by rw [nI_clamp (by omega)]) dX7_reckon_450 ?_
                  have ne17 : nq wr wc := gv_ne h_wc h_wr (by simp)
                  have ne18 : nq wn wc := gv_ne h_wc h_wn (by simp)
                  refine k_callV C mv_7_155 (c_each7  ((gv_up_n ne1).trans h_m) ((gv_up_n ne17).trans h_wr) gv_up_s ((gv_up_n ne18).trans h_wn) (by first | assumption | omega) (by first | assumption | omega) (by first | assumption | omega) (by first | assumption | omega) (by first | assumption | omega) (MRep.nil hc0)) ((gv_up_n ne1).trans h_m) rfl rfl (by simp [Value.category]) ⟨Nat.le_of_ble_eq_true rfl, Nat.le_of_ble_eq_true rfl⟩ ⟨(by decide), (by decide)⟩ dX7_reckon_451 (fun zv zV zh => ?_)
                  obtain ⟨fr1_w19, fc1_w19, fw1_w19, rfl, rfl, hR1_w19, hK1_w19⟩ := zh
                  refine k_pc (pc' := 454) (st' := []) rfl rfl ?_
                  refine k_view (V1 := gv_up (gv_up (gv_up V wc (.inl (cI, 120, .inl fc1_w19))) wr (.inl (cI, 57600, .inl fr1_w19))) wn (.inl (cI, 6, .inl fw1_w19))) (congrArg (fun W => gv_up W wn (.inl (cI, 6, .inl fw1_w19))) ((gv_uc (Ne.symm ne17)).trans (congrArg (fun W => gv_up W wr (.inl (cI, 57600, .inl fr1_w19))) gv_uu))) ?_
                  have ne20 : nq wv wc := gv_ne h_wc h_wv (by simp)
                  have ne21 : nq wv wr := gv_ne h_wr h_wv (by simp)
                  have ne22 : nq wv wn := gv_ne h_wn h_wv (by simp)
                  refine k_view (V1 := gv_up (gv_up (gv_up (gv_up V wc (.inl (cI, 120, .inl fc1_w19))) wr (.inl (cI, 57600, .inl fr1_w19))) wn (.inl (cI, 6, .inl fw1_w19))) wv (.inl (cI, 30, .inl fv))) (gv_id ((gv_up_n ne22).trans ((gv_up_n ne21).trans ((gv_up_n ne20).trans h_wv)))).symm ?_
                  have ne23 : nq wk wc := gv_ne h_wc h_wk (by simp)
                  have ne24 : nq wk wr := gv_ne h_wr h_wk (by simp)
                  have ne25 : nq wk wn := gv_ne h_wn h_wk (by simp)
                  have ne26 : nq wk wv := gv_ne h_wv h_wk (by simp)
                  refine k_view (V1 := gv_up (gv_up (gv_up (gv_up (gv_up V wc (.inl (cI, 120, .inl fc1_w19))) wr (.inl (cI, 57600, .inl fr1_w19))) wn (.inl (cI, 6, .inl fw1_w19))) wv (.inl (cI, 30, .inl fv))) wk (.inl (cI, 80, .inl fk))) (gv_id ((gv_up_n ne26).trans ((gv_up_n ne25).trans ((gv_up_n ne24).trans ((gv_up_n ne23).trans h_wk))))).symm ?_
                  have ne27 : nq wp wc := gv_ne h_wc h_wp (by simp)
                  have ne28 : nq wp wr := gv_ne h_wr h_wp (by simp)
                  have ne29 : nq wp wn := gv_ne h_wn h_wp (by simp)
                  have ne30 : nq wp wv := gv_ne h_wv h_wp (by simp)
                  refine k_view (V1 := gv_up (gv_up (gv_up (gv_up (gv_up (gv_up V wc (.inl (cI, 120, .inl fc1_w19))) wr (.inl (cI, 57600, .inl fr1_w19))) wn (.inl (cI, 6, .inl fw1_w19))) wv (.inl (cI, 30, .inl fv))) wk (.inl (cI, 80, .inl fk))) wp (.inl (cI, 80, .inl fp))) (gv_id ((gv_up_n (Ne.symm hwkp)).trans ((gv_up_n ne30).trans ((gv_up_n ne29).trans ((gv_up_n ne28).trans ((gv_up_n ne27).trans h_wp)))))).symm ?_
                  refine k_view (V1 := gv_up (gv_up (gv_up (gv_up (gv_up (gv_up V wr (.inl (cI, 57600, .inl fr1_w19))) wc (.inl (cI, 120, .inl fc1_w19))) wn (.inl (cI, 6, .inl fw1_w19))) wv (.inl (cI, 30, .inl fv))) wk (.inl (cI, 80, .inl fk))) wp (.inl (cI, 80, .inl fp))) (congrArg (fun W => gv_up W wp (.inl (cI, 80, .inl fp))) (congrArg (fun W => gv_up W wk (.inl (cI, 80, .inl fk))) (congrArg (fun W => gv_up W wv (.inl (cI, 30, .inl fv))) (congrArg (fun W => gv_up W wn (.inl (cI, 6, .inl fw1_w19))) (gv_uc ne17))))) ?_
                  exact k_vret C zr zlk ⟨fr1_w19, fc1_w19, fw1_w19, fv, fk, fp, rfl, rfl, (by rw [eA]; exact (MRep.tb hR1_w19)), (Kp.up.tr hK1_w19)⟩ (Nat.le_refl _) (Nat.le_refl _) dX7_reckon_454
                · exact absurd c178 (by decide)
              · exact absurd c156 (by decide)
          · exact absurd c103 (by decide)
        · exact absurd c85 (by decide)
      · exact absurd c71 (by decide)
  · exact absurd c50 (by decide)
set_option maxHeartbeats 4000000 in
set_option maxRecDepth 100000 in
theorem c_reckon8 {zl : Launch} {D : va_G} {cI cN cR : ClassId} {base : Nat} {V : gv_V} {m wt wa wv wm wr wc wn ws wk wp nt ne nn sh : Nat} {kn : Int32} {ft fa fv fm fr fc fw fk fp : Nat → Int32} {i g a : Nat} {S : Nat → Nat → Option (List Row)}  (h_m : V m = some (.inr (7, [.int (nI nt), .ref wt, .int (nI ne), .ref wa, .ref wv, .int (nI nn), .ref wm, .int kn, .ref wr, .ref wc, .ref wn, .int (nI sh), .ref ws, .ref wk, .ref wp]))) (h_wr : V wr = some (.inl (cI, 57600, .inl fr))) (h_wc : V wc = some (.inl (cI, 120, .inl fc))) (h_wn : V wn = some (.inl (cI, 6, .inl fw))) (h_wv : V wv = some (.inl (cI, 30, .inl fv))) (h_wk : V wk = some (.inl (cI, 80, .inl fk))) (h_wp : V wp = some (.inl (cI, 80, .inl fp))) (h_wa : V wa = some (.inl (cI, 90, .inl fa))) (h_wm : V wm = some (.inl (cI, 180, .inl fm))) (h_wt : V wt = some (.inl (cI, 240, .inl ft))) (hi : i < 30) (hg : g < 4) (hm0 : fm (6 * i) = nI 8) (hwkp : nq wk wp) (hm1 : fm (6 * i + 1) = nI a) (ha : a < i) (hS : ∀ j z1, j < i → z1 < 4 → MTb (S j z1) (fc (4 * j + z1)) (tbl fr (4 * j + z1))) : ct zl D [(cI, .int), (cN, .object "AlgebraTree$Node"), (cR, .object "AlgebraTree$Rows")] base yX7_reckon cX7_reckon 11 none 5 0 0 [.ref m, .int (nI i), .int (nI g)] V (fun zv zV => ∃ fr1 : Nat → Int32, ∃ fc1 : Nat → Int32, ∃ fw1 : Nat → Int32, ∃ fv1 : Nat → Int32, ∃ fk1 : Nat → Int32, ∃ fp1 : Nat → Int32, zv = none ∧ zV = gv_up (gv_up (gv_up (gv_up (gv_up (gv_up V wr (.inl (cI, 57600, .inl fr1))) wc (.inl (cI, 120, .inl fc1))) wn (.inl (cI, 6, .inl fw1))) wv (.inl (cI, 30, .inl fv1))) wk (.inl (cI, 80, .inl fk1))) wp (.inl (cI, 80, .inl fp1)) ∧ (MTb ((S a g).bind (fun A => cap (distL (nI 63) A))) (fc1 (4 * i + g)) (tbl fr1 (4 * i + g))) ∧ (Kp (4 * i + g) fc fr fc1 fr1)) := by
  refine ct_of "AlgebraTreeModel" rfl (by decide) (Nat.le_of_ble_eq_true rfl) ?_
  intro zp ze zs zm zargs zbelow zmeth zc C zr zlk znm
  refine k_pc (pc' := 0) (st' := []) rfl rfl ?_
  show K zp zl ze (gv_rm 5 0 0) zs zm zargs zbelow zmeth zc D base 11 (gv_E D [(cI, .int), (cN, .object "AlgebraTree$Node"), (cR, .object "AlgebraTree$Rows")] base zbelow zargs zs 0 0 (fun zv zV => ∃ fr1 : Nat → Int32, ∃ fc1 : Nat → Int32, ∃ fw1 : Nat → Int32, ∃ fv1 : Nat → Int32, ∃ fk1 : Nat → Int32, ∃ fp1 : Nat → Int32, zv = none ∧ zV = gv_up (gv_up (gv_up (gv_up (gv_up (gv_up V wr (.inl (cI, 57600, .inl fr1))) wc (.inl (cI, 120, .inl fc1))) wn (.inl (cI, 6, .inl fw1))) wv (.inl (cI, 30, .inl fv1))) wk (.inl (cI, 80, .inl fk1))) wp (.inl (cI, 80, .inl fp1)) ∧ (MTb ((S a g).bind (fun A => cap (distL (nI 63) A))) (fc1 (4 * i + g)) (tbl fr1 (4 * i + g))) ∧ (Kp (4 * i + g) fc fr fc1 fr1))) V 0 0 [(0, .ref m), (1, .int (nI i)), (2, .int (nI g))] 0 []
  refine k_bipush (v := nI 6) C dX7_reckon_0 rfl ?_
  refine k_iload_n C dX7_reckon_2 rfl 1 rfl ?_
  refine k_imul C dX7_reckon_3 ?_
  refine k_val (y := nI (6 * i)) (pk_mul 6 i) ?_
  refine k_istore_n (lv' := [(3, .int (nI (6 * i))), (0, .ref m), (1, .int (nI i)), (2, .int (nI g))]) C dX7_reckon_4 rfl (by decide) rfl ?_
  refine k_aload_n C dX7_reckon_5 rfl 1 rfl ?_
  refine k_get (ci := 7) (k := 6) C fl_7_19 h_m rfl dX7_reckon_6 ?_
  refine k_iload_n C dX7_reckon_9 rfl 0 rfl ?_
  refine k_iald (v := fm (6 * i)) C 0 h_wm rfl (vp_in_nI (by omega) (by omega)) (by rw [nI_clamp (by omega)]) dX7_reckon_10 ?_
  refine k_val (y := nI 8) hm0 ?_
  refine k_istore (lv' := [(4, .int (nI 8)), (3, .int (nI (6 * i))), (0, .ref m), (1, .int (nI i)), (2, .int (nI g))]) C dX7_reckon_11 (by decide) rfl ?_
  refine k_aload_n C dX7_reckon_13 rfl 2 rfl ?_
  refine k_get (ci := 7) (k := 6) C fl_7_19 h_m rfl dX7_reckon_14 ?_
  refine k_iload_n C dX7_reckon_17 rfl 1 rfl ?_
  refine k_iconst (v := nI 1) C dX7_reckon_18 rfl ?_
  refine k_iadd C dX7_reckon_19 ?_
  refine k_val (y := nI ((6 * i) + 1)) (nI_add (6 * i) 1) ?_
  refine k_iald (v := fm ((6 * i) + 1)) C 0 h_wm rfl (vp_in_nI (by omega) (by omega)) (by rw [nI_clamp (by omega)]) dX7_reckon_20 ?_
  refine k_val (y := nI a) hm1 ?_
  refine k_istore (lv' := [(5, .int (nI a)), (4, .int (nI 8)), (3, .int (nI (6 * i))), (0, .ref m), (1, .int (nI i)), (2, .int (nI g))]) C dX7_reckon_21 (by decide) rfl ?_
  refine k_aload_n C dX7_reckon_23 rfl 3 rfl ?_
  refine k_get (ci := 7) (k := 6) C fl_7_19 h_m rfl dX7_reckon_24 ?_
  refine k_iload_n C dX7_reckon_27 rfl 2 rfl ?_
  refine k_iconst (v := nI 2) C dX7_reckon_28 rfl ?_
  refine k_iadd C dX7_reckon_29 ?_
  refine k_val (y := nI ((6 * i) + 2)) (nI_add (6 * i) 2) ?_
  refine k_iald (v := fm ((6 * i) + 2)) C 0 h_wm rfl (vp_in_nI (by omega) (by omega)) (by rw [nI_clamp (by omega)]) dX7_reckon_30 ?_
  refine k_istore (lv' := [(6, .int (fm ((6 * i) + 2))), (5, .int (nI a)), (4, .int (nI 8)), (3, .int (nI (6 * i))), (0, .ref m), (1, .int (nI i)), (2, .int (nI g))]) C dX7_reckon_31 (by decide) rfl ?_
  refine k_iload_n C dX7_reckon_33 rfl 5 rfl ?_
  refine k_iload_n C dX7_reckon_34 rfl 6 rfl ?_
  refine k_callS_pi C ms_7_140 (c_X7_table   ) rfl rfl (by simp [Value.category]) ⟨Nat.le_of_ble_eq_true rfl, Nat.le_of_ble_eq_true rfl⟩ ⟨(by decide), (by decide)⟩ dX7_reckon_35 ?_
  refine k_istore (lv' := [(7, .int (nI (4 * i + g))), (6, .int (fm ((6 * i) + 2))), (5, .int (nI a)), (4, .int (nI 8)), (3, .int (nI (6 * i))), (0, .ref m), (1, .int (nI i)), (2, .int (nI g))]) C dX7_reckon_38 (by decide) rfl ?_
  refine k_aload_n C dX7_reckon_40 rfl 5 rfl ?_
  refine k_get (ci := 7) (k := 9) C fl_7_26 h_m rfl dX7_reckon_41 ?_
  refine k_iload C dX7_reckon_44 0 rfl ?_
  refine k_iconst (v := nI 0) C dX7_reckon_46 rfl ?_
  refine k_iast (f' := upd fc (4 * i + g) (nI 0)) C 0 h_wc rfl (vp_in_nI (by omega) (by omega)) (by rw [nI_clamp (by omega)]) dX7_reckon_47 ?_
  have hS0 : ∀ j z, j < i → z < 4 → MTb (S j z) (upd fc (4 * i + g) (nI 0) (4 * j + z)) (tbl fr (4 * j + z)) := fun j z hj hz => (hS j z hj hz).up (by omega)
  have hc0 : upd fc (4 * i + g) (nI 0) (4 * i + g) = 0 := upd_at
  refine k_iload C dX7_reckon_48 3 rfl ?_
  refine k_if_ne (tgt := 62) C dX7_reckon_50 (by decide) (fun c50 => ?_) (fun c50 => ?_)
  · skip
    have b50 : ¬ 8 = 0 := fun z => c50 ((nI_eq (a := 8) (b := 0) (by omega) (by omega)).mpr z)
    refine k_iload C dX7_reckon_62 3 rfl ?_
    refine k_iconst (v := nI 1) C dX7_reckon_64 rfl ?_
    refine k_icmp_lt (tgt := 78) C dX7_reckon_65 (by decide) (fun c65 => ?_) (fun c65 => ?_)
    · exact absurd c65 (by decide)
    · skip
      have b65 : ¬ 8 < 1 := fun z => c65 ((nI_ltI (a := 8) (b := 1) (by omega) (by omega)).mpr z)
      refine k_iload C dX7_reckon_68 3 rfl ?_
      refine k_iconst (v := nI 4) C dX7_reckon_70 rfl ?_
      refine k_icmp_gt (tgt := 78) C dX7_reckon_71 (by decide) (fun c71 => ?_) (fun c71 => ?_)
      · skip
        have b71 : 4 < 8 := (nI_ltI (a := 4) (b := 8) (by omega) (by omega)).mp c71
        refine k_iconst (v := nI 0) C dX7_reckon_78 rfl ?_
        refine k_istore (lv' := [(8, .int (nI 0)), (7, .int (nI (4 * i + g))), (6, .int (fm ((6 * i) + 2))), (5, .int (nI a)), (4, .int (nI 8)), (3, .int (nI (6 * i))), (0, .ref m), (1, .int (nI i)), (2, .int (nI g))]) C dX7_reckon_79 (by decide) rfl ?_
        refine k_iload C dX7_reckon_81 4 rfl ?_
        refine k_bipush (v := nI 12) C dX7_reckon_83 rfl ?_
        refine k_icmp_ne (tgt := 99) C dX7_reckon_85 (by decide) (fun c85 => ?_) (fun c85 => ?_)
        · skip
          have b85 : ¬ 8 = 12 := fun z => c85 ((nI_eq (a := 8) (b := 12) (by omega) (by omega)).mpr z)
          refine k_iload C dX7_reckon_99 4 rfl ?_
          refine k_bipush (v := nI 13) C dX7_reckon_101 rfl ?_
          refine k_icmp_ne (tgt := 144) C dX7_reckon_103 (by decide) (fun c103 => ?_) (fun c103 => ?_)
          · skip
            have b103 : ¬ 8 = 13 := fun z => c103 ((nI_eq (a := 8) (b := 13) (by omega) (by omega)).mpr z)
            refine k_aload_n C dX7_reckon_144 rfl 6 rfl ?_
            refine k_iload C dX7_reckon_145 3 rfl ?_
            refine k_iload_n C dX7_reckon_147 rfl 8 rfl ?_
            have ne1 : nq m wc := gv_ne h_wc h_m (by simp)
            refine k_callV_pi C mv_7_148 (c_X7_isLong  ((gv_up_n ne1).trans h_m) gv_up_s (by omega) (by omega) (hS0 a g (by omega) (by omega))) ((gv_up_n ne1).trans h_m) rfl rfl (by simp [Value.category]) ⟨Nat.le_of_ble_eq_true rfl, Nat.le_of_ble_eq_true rfl⟩ ⟨(by decide), (by decide)⟩ dX7_reckon_148 ?_
            refine k_if_ne (tgt := 169) C dX7_reckon_151 (by decide) (fun c151 => ?_) (fun c151 => ?_)
            · skip
              have b151 : ((S a g).isNone) = true := bI_n.mp c151
              refine k_iconst (v := nI 1) C dX7_reckon_169 rfl ?_
              refine k_goto (tgt := 174) C dX7_reckon_170 (by decide) ?_
              refine k_istore (lv' := [(9, .int (nI 1)), (8, .int (nI 0)), (7, .int (nI (4 * i + g))), (6, .int (fm ((6 * i) + 2))), (5, .int (nI a)), (4, .int (nI 8)), (3, .int (nI (6 * i))), (0, .ref m), (1, .int (nI i)), (2, .int (nI g))]) C dX7_reckon_174 (by decide) rfl ?_
              refine k_iload C dX7_reckon_176 0 rfl ?_
              refine k_if_eq (tgt := 191) C dX7_reckon_178 (by decide) (fun c178 => ?_) (fun c178 => ?_)
              · exact absurd c178 (by decide)
              · skip
                have b178 : ¬ 1 = 0 := fun z => c178 ((nI_eq (a := 1) (b := 0) (by omega) (by omega)).mpr z)
                refine k_aload_n C dX7_reckon_181 rfl 7 rfl ?_
                refine k_get (ci := 7) (k := 9) C fl_7_26 ((gv_up_n ne1).trans h_m) rfl dX7_reckon_182 ?_
                refine k_iload C dX7_reckon_185 2 rfl ?_
                refine k_bipush (v := (-2 : Int32)) C dX7_reckon_187 (by decide) ?_
                refine k_iast (f' := upd (upd fc (4 * i + g) (nI 0)) (4 * i + g) (-2 : Int32)) C 0 gv_up_s rfl (vp_in_nI (by omega) (by omega)) (by rw [nI_clamp (by omega)]) dX7_reckon_189 ?_
                refine k_view (V1 := gv_up V wc (.inl (cI, 120, .inl (upd (upd fc (4 * i + g) (nI 0)) (4 * i + g) (-2 : Int32))))) gv_uu ?_
                have ne2 : nq wr wc := gv_ne h_wc h_wr (by simp)
                refine k_view (V1 := gv_up (gv_up V wc (.inl (cI, 120, .inl (upd (upd fc (4 * i + g) (nI 0)) (4 * i + g) (-2 : Int32))))) wr (.inl (cI, 57600, .inl fr))) (gv_id ((gv_up_n ne2).trans h_wr)).symm ?_
                have ne3 : nq wn wc := gv_ne h_wc h_wn (by simp)
                have ne4 : nq wn wr := gv_ne h_wr h_wn (by simp)
                refine k_view (V1 := gv_up (gv_up (gv_up V wc (.inl (cI, 120, .inl (upd (upd fc (4 * i + g) (nI 0)) (4 * i + g) (-2 : Int32))))) wr (.inl (cI, 57600, .inl fr))) wn (.inl (cI, 6, .inl fw))) (gv_id ((gv_up_n ne4).trans ((gv_up_n ne3).trans h_wn))).symm ?_
                have ne5 : nq wv wc := gv_ne h_wc h_wv (by simp)
                have ne6 : nq wv wr := gv_ne h_wr h_wv (by simp)
                have ne7 : nq wv wn := gv_ne h_wn h_wv (by simp)
                refine k_view (V1 := gv_up (gv_up (gv_up (gv_up V wc (.inl (cI, 120, .inl (upd (upd fc (4 * i + g) (nI 0)) (4 * i + g) (-2 : Int32))))) wr (.inl (cI, 57600, .inl fr))) wn (.inl (cI, 6, .inl fw))) wv (.inl (cI, 30, .inl fv))) (gv_id ((gv_up_n ne7).trans ((gv_up_n ne6).trans ((gv_up_n ne5).trans h_wv)))).symm ?_
                have ne8 : nq wk wc := gv_ne h_wc h_wk (by simp)
                have ne9 : nq wk wr := gv_ne h_wr h_wk (by simp)
                have ne10 : nq wk wn := gv_ne h_wn h_wk (by simp)
                have ne11 : nq wk wv := gv_ne h_wv h_wk (by simp)
                refine k_view (V1 := gv_up (gv_up (gv_up (gv_up (gv_up V wc (.inl (cI, 120, .inl (upd (upd fc (4 * i + g) (nI 0)) (4 * i + g) (-2 : Int32))))) wr (.inl (cI, 57600, .inl fr))) wn (.inl (cI, 6, .inl fw))) wv (.inl (cI, 30, .inl fv))) wk (.inl (cI, 80, .inl fk))) (gv_id ((gv_up_n ne11).trans ((gv_up_n ne10).trans ((gv_up_n ne9).trans ((gv_up_n ne8).trans h_wk))))).symm ?_
                have ne12 : nq wp wc := gv_ne h_wc h_wp (by simp)
                have ne13 : nq wp wr := gv_ne h_wr h_wp (by simp)
                have ne14 : nq wp wn := gv_ne h_wn h_wp (by simp)
                have ne15 : nq wp wv := gv_ne h_wv h_wp (by simp)
                refine k_view (V1 := gv_up (gv_up (gv_up (gv_up (gv_up (gv_up V wc (.inl (cI, 120, .inl (upd (upd fc (4 * i + g) (nI 0)) (4 * i + g) (-2 : Int32))))) wr (.inl (cI, 57600, .inl fr))) wn (.inl (cI, 6, .inl fw))) wv (.inl (cI, 30, .inl fv))) wk (.inl (cI, 80, .inl fk))) wp (.inl (cI, 80, .inl fp))) (gv_id ((gv_up_n (Ne.symm hwkp)).trans ((gv_up_n ne15).trans ((gv_up_n ne14).trans ((gv_up_n ne13).trans ((gv_up_n ne12).trans h_wp)))))).symm ?_
                refine k_view (V1 := gv_up (gv_up (gv_up (gv_up (gv_up (gv_up V wr (.inl (cI, 57600, .inl fr))) wc (.inl (cI, 120, .inl (upd (upd fc (4 * i + g) (nI 0)) (4 * i + g) (-2 : Int32))))) wn (.inl (cI, 6, .inl fw))) wv (.inl (cI, 30, .inl fv))) wk (.inl (cI, 80, .inl fk))) wp (.inl (cI, 80, .inl fp))) (congrArg (fun W => gv_up W wp (.inl (cI, 80, .inl fp))) (congrArg (fun W => gv_up W wk (.inl (cI, 80, .inl fk))) (congrArg (fun W => gv_up W wv (.inl (cI, 30, .inl fv))) (congrArg (fun W => gv_up W wn (.inl (cI, 6, .inl fw))) (gv_uc ne2))))) ?_
                exact k_vret C zr zlk ⟨fr, upd (upd fc (4 * i + g) (nI 0)) (4 * i + g) (-2 : Int32), fw, fv, fk, fp, rfl, rfl, (MTb.no (by rw [isN0 b151]; rfl) upd_at), (Kp.up.tr Kp.up)⟩ (Nat.le_refl _) (Nat.le_refl _) dX7_reckon_190
            · skip
              have b151 : ((S a g).isNone) = false := bI_0.mp c151
              obtain ⟨A, eA⟩ := isN b151
              obtain ⟨hcA, hA⟩ := (hS0 a g ha (by omega)).sm eA
              refine k_iload C dX7_reckon_154 0 rfl ?_
              refine k_if_eq (tgt := 173) C dX7_reckon_156 (by decide) (fun c156 => ?_) (fun c156 => ?_)
              · skip
                have b156 : 0 = 0 := (nI_eq (a := 0) (b := 0) (by omega) (by omega)).mp c156
                refine k_iconst (v := nI 0) C dX7_reckon_173 rfl ?_
                refine k_istore (lv' := [(9, .int (nI 0)), (8, .int (nI 0)), (7, .int (nI (4 * i + g))), (6, .int (fm ((6 * i) + 2))), (5, .int (nI a)), (4, .int (nI 8)), (3, .int (nI (6 * i))), (0, .ref m), (1, .int (nI i)), (2, .int (nI g))]) C dX7_reckon_174 (by decide) rfl ?_
                refine k_iload C dX7_reckon_176 0 rfl ?_
                refine k_if_eq (tgt := 191) C dX7_reckon_178 (by decide) (fun c178 => ?_) (fun c178 => ?_)
                · skip
                  have b178 : 0 = 0 := (nI_eq (a := 0) (b := 0) (by omega) (by omega)).mp c178
                  refine k_iload C dX7_reckon_191 4 rfl ?_
                  refine k_iload_n C dX7_reckon_193 rfl 9 rfl ?_
                  refine k_callS_pi C ms_7_140 (c_X7_table   ) rfl rfl (by simp [Value.category]) ⟨Nat.le_of_ble_eq_true rfl, Nat.le_of_ble_eq_true rfl⟩ ⟨(by decide), (by decide)⟩ dX7_reckon_194 ?_
                  refine k_istore (lv' := [(10, .int (nI (4 * a + g))), (9, .int (nI 0)), (8, .int (nI 0)), (7, .int (nI (4 * i + g))), (6, .int (fm ((6 * i) + 2))), (5, .int (nI a)), (4, .int (nI 8)), (3, .int (nI (6 * i))), (0, .ref m), (1, .int (nI i)), (2, .int (nI g))]) C dX7_reckon_197 (by decide) rfl ?_
                  refine k_iload C dX7_reckon_199 6 rfl ?_
                  refine k_tableIn (tgt := 434) C dX7_reckon_201 (by decide) (by decide) rfl (by decide) ?_
                  refine k_aload_n C dX7_reckon_434 rfl 8 rfl ?_
                  refine k_iload C dX7_reckon_435 3 rfl ?_
                  refine k_iload C dX7_reckon_437 0 rfl ?_
                  refine k_iload C dX7_reckon_439 6 rfl ?_
                  refine k_iload C dX7_reckon_441 4 rfl ?_
                  refine k_aload_n C dX7_reckon_443 rfl 8 rfl ?_
                  refine k_get (ci := 7) (k := 6) C fl_7_19 ((gv_up_n ne1).trans h_m) rfl dX7_reckon_444 ?_
                  refine k_iload_n C dX7_reckon_447 rfl 7 rfl ?_
                  refine k_iconst (v := nI 3) C dX7_reckon_448 rfl ?_
                  refine k_iadd C dX7_reckon_449 ?_
                  refine k_val (y := nI ((6 * i) + 3)) (nI_add (6 * i) 3) ?_
                  have ne16 : nq wm wc := gv_ne h_wc h_wm (by simp)
                  refine k_iald (v := fm ((6 * i) + 3)) C 0 ((gv_up_n ne16).trans h_wm) rfl (vp_in_nI (by omega) (by omega)) (by rw [nI_clamp (by omega)]) dX7_reckon_450 ?_
                  have ne17 : nq wr wc := gv_ne h_wc h_wr (by simp)
                  have ne18 : nq wn wc := gv_ne h_wc h_wn (by simp)
                  refine k_callV C mv_7_155 (c_each8  ((gv_up_n ne1).trans h_m) ((gv_up_n ne17).trans h_wr) gv_up_s ((gv_up_n ne18).trans h_wn) (by first | assumption | omega) (by first | assumption | omega) (by first | assumption | omega) (by first | assumption | omega) (by first | assumption | omega) (MRep.nil hc0)) ((gv_up_n ne1).trans h_m) rfl rfl (by simp [Value.category]) ⟨Nat.le_of_ble_eq_true rfl, Nat.le_of_ble_eq_true rfl⟩ ⟨(by decide), (by decide)⟩ dX7_reckon_451 (fun zv zV zh => ?_)
                  obtain ⟨fr1_w19, fc1_w19, fw1_w19, rfl, rfl, hR1_w19, hK1_w19⟩ := zh
                  refine k_pc (pc' := 454) (st' := []) rfl rfl ?_
                  refine k_view (V1 := gv_up (gv_up (gv_up V wc (.inl (cI, 120, .inl fc1_w19))) wr (.inl (cI, 57600, .inl fr1_w19))) wn (.inl (cI, 6, .inl fw1_w19))) (congrArg (fun W => gv_up W wn (.inl (cI, 6, .inl fw1_w19))) ((gv_uc (Ne.symm ne17)).trans (congrArg (fun W => gv_up W wr (.inl (cI, 57600, .inl fr1_w19))) gv_uu))) ?_
                  have ne20 : nq wv wc := gv_ne h_wc h_wv (by simp)
                  have ne21 : nq wv wr := gv_ne h_wr h_wv (by simp)
                  have ne22 : nq wv wn := gv_ne h_wn h_wv (by simp)
                  refine k_view (V1 := gv_up (gv_up (gv_up (gv_up V wc (.inl (cI, 120, .inl fc1_w19))) wr (.inl (cI, 57600, .inl fr1_w19))) wn (.inl (cI, 6, .inl fw1_w19))) wv (.inl (cI, 30, .inl fv))) (gv_id ((gv_up_n ne22).trans ((gv_up_n ne21).trans ((gv_up_n ne20).trans h_wv)))).symm ?_
                  have ne23 : nq wk wc := gv_ne h_wc h_wk (by simp)
                  have ne24 : nq wk wr := gv_ne h_wr h_wk (by simp)
                  have ne25 : nq wk wn := gv_ne h_wn h_wk (by simp)
                  have ne26 : nq wk wv := gv_ne h_wv h_wk (by simp)
                  refine k_view (V1 := gv_up (gv_up (gv_up (gv_up (gv_up V wc (.inl (cI, 120, .inl fc1_w19))) wr (.inl (cI, 57600, .inl fr1_w19))) wn (.inl (cI, 6, .inl fw1_w19))) wv (.inl (cI, 30, .inl fv))) wk (.inl (cI, 80, .inl fk))) (gv_id ((gv_up_n ne26).trans ((gv_up_n ne25).trans ((gv_up_n ne24).trans ((gv_up_n ne23).trans h_wk))))).symm ?_
                  have ne27 : nq wp wc := gv_ne h_wc h_wp (by simp)
                  have ne28 : nq wp wr := gv_ne h_wr h_wp (by simp)
                  have ne29 : nq wp wn := gv_ne h_wn h_wp (by simp)
                  have ne30 : nq wp wv := gv_ne h_wv h_wp (by simp)
                  refine k_view (V1 := gv_up (gv_up (gv_up (gv_up (gv_up (gv_up V wc (.inl (cI, 120, .inl fc1_w19))) wr (.inl (cI, 57600, .inl fr1_w19))) wn (.inl (cI, 6, .inl fw1_w19))) wv (.inl (cI, 30, .inl fv))) wk (.inl (cI, 80, .inl fk))) wp (.inl (cI, 80, .inl fp))) (gv_id ((gv_up_n (Ne.symm hwkp)).trans ((gv_up_n ne30).trans ((gv_up_n ne29).trans ((gv_up_n ne28).trans ((gv_up_n ne27).trans h_wp)))))).symm ?_
                  refine k_view (V1 := gv_up (gv_up (gv_up (gv_up (gv_up (gv_up V wr (.inl (cI, 57600, .inl fr1_w19))) wc (.inl (cI, 120, .inl fc1_w19))) wn (.inl (cI, 6, .inl fw1_w19))) wv (.inl (cI, 30, .inl fv))) wk (.inl (cI, 80, .inl fk))) wp (.inl (cI, 80, .inl fp))) (congrArg (fun W => gv_up W wp (.inl (cI, 80, .inl fp))) (congrArg (fun W => gv_up W wk (.inl (cI, 80, .inl fk))) (congrArg (fun W => gv_up W wv (.inl (cI, 30, .inl fv))) (congrArg (fun W => gv_up W wn (.inl (cI, 6, .inl fw1_w19))) (gv_uc ne17))))) ?_
                  exact k_vret C zr zlk ⟨fr1_w19, fc1_w19, fw1_w19, fv, fk, fp, rfl, rfl, (by rw [eA]; exact (MRep.tb hR1_w19)), (Kp.up.tr hK1_w19)⟩ (Nat.le_refl _) (Nat.le_refl _) dX7_reckon_454
                · exact absurd c178 (by decide)
              · exact absurd c156 (by decide)
          · exact absurd c103 (by decide)
        · exact absurd c85 (by decide)
      · exact absurd c71 (by decide)
  · exact absurd c50 (by decide)
set_option maxHeartbeats 4000000 in
set_option maxRecDepth 100000 in
theorem c_reckon9 {zl : Launch} {D : va_G} {cI cN cR : ClassId} {base : Nat} {V : gv_V} {m wt wa wv wm wr wc wn ws wk wp nt ne nn sh : Nat} {kn : Int32} {ft fa fv fm fr fc fw fk fp : Nat → Int32} {i g a u0 u1 : Nat} {S : Nat → Nat → Option (List Row)}  (h_m : V m = some (.inr (7, [.int (nI nt), .ref wt, .int (nI ne), .ref wa, .ref wv, .int (nI nn), .ref wm, .int kn, .ref wr, .ref wc, .ref wn, .int (nI sh), .ref ws, .ref wk, .ref wp]))) (h_wr : V wr = some (.inl (cI, 57600, .inl fr))) (h_wc : V wc = some (.inl (cI, 120, .inl fc))) (h_wn : V wn = some (.inl (cI, 6, .inl fw))) (h_wv : V wv = some (.inl (cI, 30, .inl fv))) (h_wk : V wk = some (.inl (cI, 80, .inl fk))) (h_wp : V wp = some (.inl (cI, 80, .inl fp))) (h_wa : V wa = some (.inl (cI, 90, .inl fa))) (h_wm : V wm = some (.inl (cI, 180, .inl fm))) (h_wt : V wt = some (.inl (cI, 240, .inl ft))) (hi : i < 30) (hg : g < 4) (hm0 : fm (6 * i) = nI 9) (hwkp : nq wk wp) (hm1 : fm (6 * i + 1) = nI a) (ha : a < i) (hm2 : fm (6 * i + 2) = nI u0) (hm3 : fm (6 * i + 3) = nI u1) (hu0 : u0 ≤ 1000) (hu1 : u1 ≤ 1000) (hS : ∀ j z1, j < i → z1 < 4 → MTb (S j z1) (fc (4 * j + z1)) (tbl fr (4 * j + z1))) : ct zl D [(cI, .int), (cN, .object "AlgebraTree$Node"), (cR, .object "AlgebraTree$Rows")] base yX7_reckon cX7_reckon 11 none 5 0 0 [.ref m, .int (nI i), .int (nI g)] V (fun zv zV => ∃ fr1 : Nat → Int32, ∃ fc1 : Nat → Int32, ∃ fw1 : Nat → Int32, ∃ fv1 : Nat → Int32, ∃ fk1 : Nat → Int32, ∃ fp1 : Nat → Int32, zv = none ∧ zV = gv_up (gv_up (gv_up (gv_up (gv_up (gv_up V wr (.inl (cI, 57600, .inl fr1))) wc (.inl (cI, 120, .inl fc1))) wn (.inl (cI, 6, .inl fw1))) wv (.inl (cI, 30, .inl fv1))) wk (.inl (cI, 80, .inl fk1))) wp (.inl (cI, 80, .inl fp1)) ∧ (MTb ((S a g).bind (fun A => cap ((A.drop u0).take u1))) (fc1 (4 * i + g)) (tbl fr1 (4 * i + g))) ∧ (Kp (4 * i + g) fc fr fc1 fr1)) := by
  refine ct_of "AlgebraTreeModel" rfl (by decide) (Nat.le_of_ble_eq_true rfl) ?_
  intro zp ze zs zm zargs zbelow zmeth zc C zr zlk znm
  refine k_pc (pc' := 0) (st' := []) rfl rfl ?_
  show K zp zl ze (gv_rm 5 0 0) zs zm zargs zbelow zmeth zc D base 11 (gv_E D [(cI, .int), (cN, .object "AlgebraTree$Node"), (cR, .object "AlgebraTree$Rows")] base zbelow zargs zs 0 0 (fun zv zV => ∃ fr1 : Nat → Int32, ∃ fc1 : Nat → Int32, ∃ fw1 : Nat → Int32, ∃ fv1 : Nat → Int32, ∃ fk1 : Nat → Int32, ∃ fp1 : Nat → Int32, zv = none ∧ zV = gv_up (gv_up (gv_up (gv_up (gv_up (gv_up V wr (.inl (cI, 57600, .inl fr1))) wc (.inl (cI, 120, .inl fc1))) wn (.inl (cI, 6, .inl fw1))) wv (.inl (cI, 30, .inl fv1))) wk (.inl (cI, 80, .inl fk1))) wp (.inl (cI, 80, .inl fp1)) ∧ (MTb ((S a g).bind (fun A => cap ((A.drop u0).take u1))) (fc1 (4 * i + g)) (tbl fr1 (4 * i + g))) ∧ (Kp (4 * i + g) fc fr fc1 fr1))) V 0 0 [(0, .ref m), (1, .int (nI i)), (2, .int (nI g))] 0 []
  refine k_bipush (v := nI 6) C dX7_reckon_0 rfl ?_
  refine k_iload_n C dX7_reckon_2 rfl 1 rfl ?_
  refine k_imul C dX7_reckon_3 ?_
  refine k_val (y := nI (6 * i)) (pk_mul 6 i) ?_
  refine k_istore_n (lv' := [(3, .int (nI (6 * i))), (0, .ref m), (1, .int (nI i)), (2, .int (nI g))]) C dX7_reckon_4 rfl (by decide) rfl ?_
  refine k_aload_n C dX7_reckon_5 rfl 1 rfl ?_
  refine k_get (ci := 7) (k := 6) C fl_7_19 h_m rfl dX7_reckon_6 ?_
  refine k_iload_n C dX7_reckon_9 rfl 0 rfl ?_
  refine k_iald (v := fm (6 * i)) C 0 h_wm rfl (vp_in_nI (by omega) (by omega)) (by rw [nI_clamp (by omega)]) dX7_reckon_10 ?_
  refine k_val (y := nI 9) hm0 ?_
  refine k_istore (lv' := [(4, .int (nI 9)), (3, .int (nI (6 * i))), (0, .ref m), (1, .int (nI i)), (2, .int (nI g))]) C dX7_reckon_11 (by decide) rfl ?_
  refine k_aload_n C dX7_reckon_13 rfl 2 rfl ?_
  refine k_get (ci := 7) (k := 6) C fl_7_19 h_m rfl dX7_reckon_14 ?_
  refine k_iload_n C dX7_reckon_17 rfl 1 rfl ?_
  refine k_iconst (v := nI 1) C dX7_reckon_18 rfl ?_
  refine k_iadd C dX7_reckon_19 ?_
  refine k_val (y := nI ((6 * i) + 1)) (nI_add (6 * i) 1) ?_
  refine k_iald (v := fm ((6 * i) + 1)) C 0 h_wm rfl (vp_in_nI (by omega) (by omega)) (by rw [nI_clamp (by omega)]) dX7_reckon_20 ?_
  refine k_val (y := nI a) hm1 ?_
  refine k_istore (lv' := [(5, .int (nI a)), (4, .int (nI 9)), (3, .int (nI (6 * i))), (0, .ref m), (1, .int (nI i)), (2, .int (nI g))]) C dX7_reckon_21 (by decide) rfl ?_
  refine k_aload_n C dX7_reckon_23 rfl 3 rfl ?_
  refine k_get (ci := 7) (k := 6) C fl_7_19 h_m rfl dX7_reckon_24 ?_
  refine k_iload_n C dX7_reckon_27 rfl 2 rfl ?_
  refine k_iconst (v := nI 2) C dX7_reckon_28 rfl ?_
  refine k_iadd C dX7_reckon_29 ?_
  refine k_val (y := nI ((6 * i) + 2)) (nI_add (6 * i) 2) ?_
  refine k_iald (v := fm ((6 * i) + 2)) C 0 h_wm rfl (vp_in_nI (by omega) (by omega)) (by rw [nI_clamp (by omega)]) dX7_reckon_30 ?_
  refine k_val (y := nI u0) hm2 ?_
  refine k_istore (lv' := [(6, .int (nI u0)), (5, .int (nI a)), (4, .int (nI 9)), (3, .int (nI (6 * i))), (0, .ref m), (1, .int (nI i)), (2, .int (nI g))]) C dX7_reckon_31 (by decide) rfl ?_
  refine k_iload_n C dX7_reckon_33 rfl 5 rfl ?_
  refine k_iload_n C dX7_reckon_34 rfl 6 rfl ?_
  refine k_callS_pi C ms_7_140 (c_X7_table   ) rfl rfl (by simp [Value.category]) ⟨Nat.le_of_ble_eq_true rfl, Nat.le_of_ble_eq_true rfl⟩ ⟨(by decide), (by decide)⟩ dX7_reckon_35 ?_
  refine k_istore (lv' := [(7, .int (nI (4 * i + g))), (6, .int (nI u0)), (5, .int (nI a)), (4, .int (nI 9)), (3, .int (nI (6 * i))), (0, .ref m), (1, .int (nI i)), (2, .int (nI g))]) C dX7_reckon_38 (by decide) rfl ?_
  refine k_aload_n C dX7_reckon_40 rfl 5 rfl ?_
  refine k_get (ci := 7) (k := 9) C fl_7_26 h_m rfl dX7_reckon_41 ?_
  refine k_iload C dX7_reckon_44 0 rfl ?_
  refine k_iconst (v := nI 0) C dX7_reckon_46 rfl ?_
  refine k_iast (f' := upd fc (4 * i + g) (nI 0)) C 0 h_wc rfl (vp_in_nI (by omega) (by omega)) (by rw [nI_clamp (by omega)]) dX7_reckon_47 ?_
  have hS0 : ∀ j z, j < i → z < 4 → MTb (S j z) (upd fc (4 * i + g) (nI 0) (4 * j + z)) (tbl fr (4 * j + z)) := fun j z hj hz => (hS j z hj hz).up (by omega)
  have hc0 : upd fc (4 * i + g) (nI 0) (4 * i + g) = 0 := upd_at
  refine k_iload C dX7_reckon_48 3 rfl ?_
  refine k_if_ne (tgt := 62) C dX7_reckon_50 (by decide) (fun c50 => ?_) (fun c50 => ?_)
  · skip
    have b50 : ¬ 9 = 0 := fun z => c50 ((nI_eq (a := 9) (b := 0) (by omega) (by omega)).mpr z)
    refine k_iload C dX7_reckon_62 3 rfl ?_
    refine k_iconst (v := nI 1) C dX7_reckon_64 rfl ?_
    refine k_icmp_lt (tgt := 78) C dX7_reckon_65 (by decide) (fun c65 => ?_) (fun c65 => ?_)
    · exact absurd c65 (by decide)
    · skip
      have b65 : ¬ 9 < 1 := fun z => c65 ((nI_ltI (a := 9) (b := 1) (by omega) (by omega)).mpr z)
      refine k_iload C dX7_reckon_68 3 rfl ?_
      refine k_iconst (v := nI 4) C dX7_reckon_70 rfl ?_
      refine k_icmp_gt (tgt := 78) C dX7_reckon_71 (by decide) (fun c71 => ?_) (fun c71 => ?_)
      · skip
        have b71 : 4 < 9 := (nI_ltI (a := 4) (b := 9) (by omega) (by omega)).mp c71
        refine k_iconst (v := nI 0) C dX7_reckon_78 rfl ?_
        refine k_istore (lv' := [(8, .int (nI 0)), (7, .int (nI (4 * i + g))), (6, .int (nI u0)), (5, .int (nI a)), (4, .int (nI 9)), (3, .int (nI (6 * i))), (0, .ref m), (1, .int (nI i)), (2, .int (nI g))]) C dX7_reckon_79 (by decide) rfl ?_
        refine k_iload C dX7_reckon_81 4 rfl ?_
        refine k_bipush (v := nI 12) C dX7_reckon_83 rfl ?_
        refine k_icmp_ne (tgt := 99) C dX7_reckon_85 (by decide) (fun c85 => ?_) (fun c85 => ?_)
        · skip
          have b85 : ¬ 9 = 12 := fun z => c85 ((nI_eq (a := 9) (b := 12) (by omega) (by omega)).mpr z)
          refine k_iload C dX7_reckon_99 4 rfl ?_
          refine k_bipush (v := nI 13) C dX7_reckon_101 rfl ?_
          refine k_icmp_ne (tgt := 144) C dX7_reckon_103 (by decide) (fun c103 => ?_) (fun c103 => ?_)
          · skip
            have b103 : ¬ 9 = 13 := fun z => c103 ((nI_eq (a := 9) (b := 13) (by omega) (by omega)).mpr z)
            refine k_aload_n C dX7_reckon_144 rfl 6 rfl ?_
            refine k_iload C dX7_reckon_145 3 rfl ?_
            refine k_iload_n C dX7_reckon_147 rfl 8 rfl ?_
            have ne1 : nq m wc := gv_ne h_wc h_m (by simp)
            refine k_callV_pi C mv_7_148 (c_X7_isLong  ((gv_up_n ne1).trans h_m) gv_up_s (by omega) (by omega) (hS0 a g (by omega) (by omega))) ((gv_up_n ne1).trans h_m) rfl rfl (by simp [Value.category]) ⟨Nat.le_of_ble_eq_true rfl, Nat.le_of_ble_eq_true rfl⟩ ⟨(by decide), (by decide)⟩ dX7_reckon_148 ?_
            refine k_if_ne (tgt := 169) C dX7_reckon_151 (by decide) (fun c151 => ?_) (fun c151 => ?_)
            · skip
              have b151 : ((S a g).isNone) = true := bI_n.mp c151
              refine k_iconst (v := nI 1) C dX7_reckon_169 rfl ?_
              refine k_goto (tgt := 174) C dX7_reckon_170 (by decide) ?_
              refine k_istore (lv' := [(9, .int (nI 1)), (8, .int (nI 0)), (7, .int (nI (4 * i + g))), (6, .int (nI u0)), (5, .int (nI a)), (4, .int (nI 9)), (3, .int (nI (6 * i))), (0, .ref m), (1, .int (nI i)), (2, .int (nI g))]) C dX7_reckon_174 (by decide) rfl ?_
              refine k_iload C dX7_reckon_176 0 rfl ?_
              refine k_if_eq (tgt := 191) C dX7_reckon_178 (by decide) (fun c178 => ?_) (fun c178 => ?_)
              · exact absurd c178 (by decide)
              · skip
                have b178 : ¬ 1 = 0 := fun z => c178 ((nI_eq (a := 1) (b := 0) (by omega) (by omega)).mpr z)
                refine k_aload_n C dX7_reckon_181 rfl 7 rfl ?_
                refine k_get (ci := 7) (k := 9) C fl_7_26 ((gv_up_n ne1).trans h_m) rfl dX7_reckon_182 ?_
                refine k_iload C dX7_reckon_185 2 rfl ?_
                refine k_bipush (v := (-2 : Int32)) C dX7_reckon_187 (by decide) ?_
                refine k_iast (f' := upd (upd fc (4 * i + g) (nI 0)) (4 * i + g) (-2 : Int32)) C 0 gv_up_s rfl (vp_in_nI (by omega) (by omega)) (by rw [nI_clamp (by omega)]) dX7_reckon_189 ?_
                refine k_view (V1 := gv_up V wc (.inl (cI, 120, .inl (upd (upd fc (4 * i + g) (nI 0)) (4 * i + g) (-2 : Int32))))) gv_uu ?_
                have ne2 : nq wr wc := gv_ne h_wc h_wr (by simp)
                refine k_view (V1 := gv_up (gv_up V wc (.inl (cI, 120, .inl (upd (upd fc (4 * i + g) (nI 0)) (4 * i + g) (-2 : Int32))))) wr (.inl (cI, 57600, .inl fr))) (gv_id ((gv_up_n ne2).trans h_wr)).symm ?_
                have ne3 : nq wn wc := gv_ne h_wc h_wn (by simp)
                have ne4 : nq wn wr := gv_ne h_wr h_wn (by simp)
                refine k_view (V1 := gv_up (gv_up (gv_up V wc (.inl (cI, 120, .inl (upd (upd fc (4 * i + g) (nI 0)) (4 * i + g) (-2 : Int32))))) wr (.inl (cI, 57600, .inl fr))) wn (.inl (cI, 6, .inl fw))) (gv_id ((gv_up_n ne4).trans ((gv_up_n ne3).trans h_wn))).symm ?_
                have ne5 : nq wv wc := gv_ne h_wc h_wv (by simp)
                have ne6 : nq wv wr := gv_ne h_wr h_wv (by simp)
                have ne7 : nq wv wn := gv_ne h_wn h_wv (by simp)
                refine k_view (V1 := gv_up (gv_up (gv_up (gv_up V wc (.inl (cI, 120, .inl (upd (upd fc (4 * i + g) (nI 0)) (4 * i + g) (-2 : Int32))))) wr (.inl (cI, 57600, .inl fr))) wn (.inl (cI, 6, .inl fw))) wv (.inl (cI, 30, .inl fv))) (gv_id ((gv_up_n ne7).trans ((gv_up_n ne6).trans ((gv_up_n ne5).trans h_wv)))).symm ?_
                have ne8 : nq wk wc := gv_ne h_wc h_wk (by simp)
                have ne9 : nq wk wr := gv_ne h_wr h_wk (by simp)
                have ne10 : nq wk wn := gv_ne h_wn h_wk (by simp)
                have ne11 : nq wk wv := gv_ne h_wv h_wk (by simp)
                refine k_view (V1 := gv_up (gv_up (gv_up (gv_up (gv_up V wc (.inl (cI, 120, .inl (upd (upd fc (4 * i + g) (nI 0)) (4 * i + g) (-2 : Int32))))) wr (.inl (cI, 57600, .inl fr))) wn (.inl (cI, 6, .inl fw))) wv (.inl (cI, 30, .inl fv))) wk (.inl (cI, 80, .inl fk))) (gv_id ((gv_up_n ne11).trans ((gv_up_n ne10).trans ((gv_up_n ne9).trans ((gv_up_n ne8).trans h_wk))))).symm ?_
                have ne12 : nq wp wc := gv_ne h_wc h_wp (by simp)
                have ne13 : nq wp wr := gv_ne h_wr h_wp (by simp)
                have ne14 : nq wp wn := gv_ne h_wn h_wp (by simp)
                have ne15 : nq wp wv := gv_ne h_wv h_wp (by simp)
                refine k_view (V1 := gv_up (gv_up (gv_up (gv_up (gv_up (gv_up V wc (.inl (cI, 120, .inl (upd (upd fc (4 * i + g) (nI 0)) (4 * i + g) (-2 : Int32))))) wr (.inl (cI, 57600, .inl fr))) wn (.inl (cI, 6, .inl fw))) wv (.inl (cI, 30, .inl fv))) wk (.inl (cI, 80, .inl fk))) wp (.inl (cI, 80, .inl fp))) (gv_id ((gv_up_n (Ne.symm hwkp)).trans ((gv_up_n ne15).trans ((gv_up_n ne14).trans ((gv_up_n ne13).trans ((gv_up_n ne12).trans h_wp)))))).symm ?_
                refine k_view (V1 := gv_up (gv_up (gv_up (gv_up (gv_up (gv_up V wr (.inl (cI, 57600, .inl fr))) wc (.inl (cI, 120, .inl (upd (upd fc (4 * i + g) (nI 0)) (4 * i + g) (-2 : Int32))))) wn (.inl (cI, 6, .inl fw))) wv (.inl (cI, 30, .inl fv))) wk (.inl (cI, 80, .inl fk))) wp (.inl (cI, 80, .inl fp))) (congrArg (fun W => gv_up W wp (.inl (cI, 80, .inl fp))) (congrArg (fun W => gv_up W wk (.inl (cI, 80, .inl fk))) (congrArg (fun W => gv_up W wv (.inl (cI, 30, .inl fv))) (congrArg (fun W => gv_up W wn (.inl (cI, 6, .inl fw))) (gv_uc ne2))))) ?_
                exact k_vret C zr zlk ⟨fr, upd (upd fc (4 * i + g) (nI 0)) (4 * i + g) (-2 : Int32), fw, fv, fk, fp, rfl, rfl, (MTb.no (by rw [isN0 b151]; rfl) upd_at), (Kp.up.tr Kp.up)⟩ (Nat.le_refl _) (Nat.le_refl _) dX7_reckon_190
            · skip
              have b151 : ((S a g).isNone) = false := bI_0.mp c151
              obtain ⟨A, eA⟩ := isN b151
              obtain ⟨hcA, hA⟩ := (hS0 a g ha (by omega)).sm eA
              refine k_iload C dX7_reckon_154 0 rfl ?_
              refine k_if_eq (tgt := 173) C dX7_reckon_156 (by decide) (fun c156 => ?_) (fun c156 => ?_)
              · skip
                have b156 : 0 = 0 := (nI_eq (a := 0) (b := 0) (by omega) (by omega)).mp c156
                refine k_iconst (v := nI 0) C dX7_reckon_173 rfl ?_
                refine k_istore (lv' := [(9, .int (nI 0)), (8, .int (nI 0)), (7, .int (nI (4 * i + g))), (6, .int (nI u0)), (5, .int (nI a)), (4, .int (nI 9)), (3, .int (nI (6 * i))), (0, .ref m), (1, .int (nI i)), (2, .int (nI g))]) C dX7_reckon_174 (by decide) rfl ?_
                refine k_iload C dX7_reckon_176 0 rfl ?_
                refine k_if_eq (tgt := 191) C dX7_reckon_178 (by decide) (fun c178 => ?_) (fun c178 => ?_)
                · skip
                  have b178 : 0 = 0 := (nI_eq (a := 0) (b := 0) (by omega) (by omega)).mp c178
                  refine k_iload C dX7_reckon_191 4 rfl ?_
                  refine k_iload_n C dX7_reckon_193 rfl 9 rfl ?_
                  refine k_callS_pi C ms_7_140 (c_X7_table   ) rfl rfl (by simp [Value.category]) ⟨Nat.le_of_ble_eq_true rfl, Nat.le_of_ble_eq_true rfl⟩ ⟨(by decide), (by decide)⟩ dX7_reckon_194 ?_
                  refine k_istore (lv' := [(10, .int (nI (4 * a + g))), (9, .int (nI 0)), (8, .int (nI 0)), (7, .int (nI (4 * i + g))), (6, .int (nI u0)), (5, .int (nI a)), (4, .int (nI 9)), (3, .int (nI (6 * i))), (0, .ref m), (1, .int (nI i)), (2, .int (nI g))]) C dX7_reckon_197 (by decide) rfl ?_
                  refine k_iload C dX7_reckon_199 6 rfl ?_
                  refine k_tableIn (tgt := 434) C dX7_reckon_201 (by decide) (by decide) rfl (by decide) ?_
                  refine k_aload_n C dX7_reckon_434 rfl 8 rfl ?_
                  refine k_iload C dX7_reckon_435 3 rfl ?_
                  refine k_iload C dX7_reckon_437 0 rfl ?_
                  refine k_iload C dX7_reckon_439 6 rfl ?_
                  refine k_iload C dX7_reckon_441 4 rfl ?_
                  refine k_aload_n C dX7_reckon_443 rfl 8 rfl ?_
                  refine k_get (ci := 7) (k := 6) C fl_7_19 ((gv_up_n ne1).trans h_m) rfl dX7_reckon_444 ?_
                  refine k_iload_n C dX7_reckon_447 rfl 7 rfl ?_
                  refine k_iconst (v := nI 3) C dX7_reckon_448 rfl ?_
                  refine k_iadd C dX7_reckon_449 ?_
                  refine k_val (y := nI ((6 * i) + 3)) (nI_add (6 * i) 3) ?_
                  have ne16 : nq wm wc := gv_ne h_wc h_wm (by simp)
                  refine k_iald (v := fm ((6 * i) + 3)) C 0 ((gv_up_n ne16).trans h_wm) rfl (vp_in_nI (by omega) (by omega)) (by rw [nI_clamp (by omega)]) dX7_reckon_450 ?_
                  refine k_val (y := nI u1) hm3 ?_
                  have ne17 : nq wr wc := gv_ne h_wc h_wr (by simp)
                  have ne18 : nq wn wc := gv_ne h_wc h_wn (by simp)
                  refine k_callV C mv_7_155 (c_each9  ((gv_up_n ne1).trans h_m) ((gv_up_n ne17).trans h_wr) gv_up_s ((gv_up_n ne18).trans h_wn) (by first | assumption | omega) (by first | assumption | omega) (by first | assumption | omega) (by first | assumption | omega) (by first | assumption | omega) (MRep.nil hc0) (by first | assumption | omega) (by first | assumption | omega)) ((gv_up_n ne1).trans h_m) rfl rfl (by simp [Value.category]) ⟨Nat.le_of_ble_eq_true rfl, Nat.le_of_ble_eq_true rfl⟩ ⟨(by decide), (by decide)⟩ dX7_reckon_451 (fun zv zV zh => ?_)
                  obtain ⟨fr1_w19, fc1_w19, fw1_w19, rfl, rfl, hR1_w19, hK1_w19⟩ := zh
                  refine k_pc (pc' := 454) (st' := []) rfl rfl ?_
                  refine k_view (V1 := gv_up (gv_up (gv_up V wc (.inl (cI, 120, .inl fc1_w19))) wr (.inl (cI, 57600, .inl fr1_w19))) wn (.inl (cI, 6, .inl fw1_w19))) (congrArg (fun W => gv_up W wn (.inl (cI, 6, .inl fw1_w19))) ((gv_uc (Ne.symm ne17)).trans (congrArg (fun W => gv_up W wr (.inl (cI, 57600, .inl fr1_w19))) gv_uu))) ?_
                  have ne20 : nq wv wc := gv_ne h_wc h_wv (by simp)
                  have ne21 : nq wv wr := gv_ne h_wr h_wv (by simp)
                  have ne22 : nq wv wn := gv_ne h_wn h_wv (by simp)
                  refine k_view (V1 := gv_up (gv_up (gv_up (gv_up V wc (.inl (cI, 120, .inl fc1_w19))) wr (.inl (cI, 57600, .inl fr1_w19))) wn (.inl (cI, 6, .inl fw1_w19))) wv (.inl (cI, 30, .inl fv))) (gv_id ((gv_up_n ne22).trans ((gv_up_n ne21).trans ((gv_up_n ne20).trans h_wv)))).symm ?_
                  have ne23 : nq wk wc := gv_ne h_wc h_wk (by simp)
                  have ne24 : nq wk wr := gv_ne h_wr h_wk (by simp)
                  have ne25 : nq wk wn := gv_ne h_wn h_wk (by simp)
                  have ne26 : nq wk wv := gv_ne h_wv h_wk (by simp)
                  refine k_view (V1 := gv_up (gv_up (gv_up (gv_up (gv_up V wc (.inl (cI, 120, .inl fc1_w19))) wr (.inl (cI, 57600, .inl fr1_w19))) wn (.inl (cI, 6, .inl fw1_w19))) wv (.inl (cI, 30, .inl fv))) wk (.inl (cI, 80, .inl fk))) (gv_id ((gv_up_n ne26).trans ((gv_up_n ne25).trans ((gv_up_n ne24).trans ((gv_up_n ne23).trans h_wk))))).symm ?_
                  have ne27 : nq wp wc := gv_ne h_wc h_wp (by simp)
                  have ne28 : nq wp wr := gv_ne h_wr h_wp (by simp)
                  have ne29 : nq wp wn := gv_ne h_wn h_wp (by simp)
                  have ne30 : nq wp wv := gv_ne h_wv h_wp (by simp)
                  refine k_view (V1 := gv_up (gv_up (gv_up (gv_up (gv_up (gv_up V wc (.inl (cI, 120, .inl fc1_w19))) wr (.inl (cI, 57600, .inl fr1_w19))) wn (.inl (cI, 6, .inl fw1_w19))) wv (.inl (cI, 30, .inl fv))) wk (.inl (cI, 80, .inl fk))) wp (.inl (cI, 80, .inl fp))) (gv_id ((gv_up_n (Ne.symm hwkp)).trans ((gv_up_n ne30).trans ((gv_up_n ne29).trans ((gv_up_n ne28).trans ((gv_up_n ne27).trans h_wp)))))).symm ?_
                  refine k_view (V1 := gv_up (gv_up (gv_up (gv_up (gv_up (gv_up V wr (.inl (cI, 57600, .inl fr1_w19))) wc (.inl (cI, 120, .inl fc1_w19))) wn (.inl (cI, 6, .inl fw1_w19))) wv (.inl (cI, 30, .inl fv))) wk (.inl (cI, 80, .inl fk))) wp (.inl (cI, 80, .inl fp))) (congrArg (fun W => gv_up W wp (.inl (cI, 80, .inl fp))) (congrArg (fun W => gv_up W wk (.inl (cI, 80, .inl fk))) (congrArg (fun W => gv_up W wv (.inl (cI, 30, .inl fv))) (congrArg (fun W => gv_up W wn (.inl (cI, 6, .inl fw1_w19))) (gv_uc ne17))))) ?_
                  exact k_vret C zr zlk ⟨fr1_w19, fc1_w19, fw1_w19, fv, fk, fp, rfl, rfl, (by rw [eA]; exact (MRep.tb hR1_w19)), (Kp.up.tr hK1_w19)⟩ (Nat.le_refl _) (Nat.le_refl _) dX7_reckon_454
                · exact absurd c178 (by decide)
              · exact absurd c156 (by decide)
          · exact absurd c103 (by decide)
        · exact absurd c85 (by decide)
      · exact absurd c71 (by decide)
  · exact absurd c50 (by decide)
set_option maxHeartbeats 4000000 in
set_option maxRecDepth 100000 in
theorem c_reckon10n {zl : Launch} {D : va_G} {cI cN cR : ClassId} {base : Nat} {V : gv_V} {m wt wa wv wm wr wc wn ws wk wp nt ne nn sh : Nat} {kn : Int32} {ft fa fv fm fr fc fw fk fp : Nat → Int32} {i g a e : Nat} {S : Nat → Nat → Option (List Row)} {E : Nat → Ex}  (h_m : V m = some (.inr (7, [.int (nI nt), .ref wt, .int (nI ne), .ref wa, .ref wv, .int (nI nn), .ref wm, .int kn, .ref wr, .ref wc, .ref wn, .int (nI sh), .ref ws, .ref wk, .ref wp]))) (h_wr : V wr = some (.inl (cI, 57600, .inl fr))) (h_wc : V wc = some (.inl (cI, 120, .inl fc))) (h_wn : V wn = some (.inl (cI, 6, .inl fw))) (h_wv : V wv = some (.inl (cI, 30, .inl fv))) (h_wk : V wk = some (.inl (cI, 80, .inl fk))) (h_wp : V wp = some (.inl (cI, 80, .inl fp))) (h_wa : V wa = some (.inl (cI, 90, .inl fa))) (h_wm : V wm = some (.inl (cI, 180, .inl fm))) (h_wt : V wt = some (.inl (cI, 240, .inl ft))) (hi : i < 30) (hg : g < 4) (hm0 : fm (6 * i) = nI 10) (hwkp : nq wk wp) (hm1 : fm (6 * i + 1) = nI a) (ha : a < i) (hm2 : fm (6 * i + 2) = nI e) (hm3 : fm (6 * i + 3) = nI 0) (hM : MA E ne fa) (he : e < ne) (hS : ∀ j z1, j < i → z1 < 4 → MTb (S j z1) (fc (4 * j + z1)) (tbl fr (4 * j + z1))) : ct zl D [(cI, .int), (cN, .object "AlgebraTree$Node"), (cR, .object "AlgebraTree$Rows")] base yX7_reckon cX7_reckon 11 none 5 0 0 [.ref m, .int (nI i), .int (nI g)] V (fun zv zV => ∃ fr1 : Nat → Int32, ∃ fc1 : Nat → Int32, ∃ fw1 : Nat → Int32, ∃ fv1 : Nat → Int32, ∃ fk1 : Nat → Int32, ∃ fp1 : Nat → Int32, zv = none ∧ zV = gv_up (gv_up (gv_up (gv_up (gv_up (gv_up V wr (.inl (cI, 57600, .inl fr1))) wc (.inl (cI, 120, .inl fc1))) wn (.inl (cI, 6, .inl fw1))) wv (.inl (cI, 30, .inl fv1))) wk (.inl (cI, 80, .inl fk1))) wp (.inl (cI, 80, .inl fp1)) ∧ (MTb ((S a g).bind (fun A => cap (orderL (nI 0) (fun x => ev E x e) A))) (fc1 (4 * i + g)) (tbl fr1 (4 * i + g))) ∧ (Kp (4 * i + g) fc fr fc1 fr1)) := by
  refine ct_of "AlgebraTreeModel" rfl (by decide) (Nat.le_of_ble_eq_true rfl) ?_
  intro zp ze zs zm zargs zbelow zmeth zc C zr zlk znm
  refine k_pc (pc' := 0) (st' := []) rfl rfl ?_
  show K zp zl ze (gv_rm 5 0 0) zs zm zargs zbelow zmeth zc D base 11 (gv_E D [(cI, .int), (cN, .object "AlgebraTree$Node"), (cR, .object "AlgebraTree$Rows")] base zbelow zargs zs 0 0 (fun zv zV => ∃ fr1 : Nat → Int32, ∃ fc1 : Nat → Int32, ∃ fw1 : Nat → Int32, ∃ fv1 : Nat → Int32, ∃ fk1 : Nat → Int32, ∃ fp1 : Nat → Int32, zv = none ∧ zV = gv_up (gv_up (gv_up (gv_up (gv_up (gv_up V wr (.inl (cI, 57600, .inl fr1))) wc (.inl (cI, 120, .inl fc1))) wn (.inl (cI, 6, .inl fw1))) wv (.inl (cI, 30, .inl fv1))) wk (.inl (cI, 80, .inl fk1))) wp (.inl (cI, 80, .inl fp1)) ∧ (MTb ((S a g).bind (fun A => cap (orderL (nI 0) (fun x => ev E x e) A))) (fc1 (4 * i + g)) (tbl fr1 (4 * i + g))) ∧ (Kp (4 * i + g) fc fr fc1 fr1))) V 0 0 [(0, .ref m), (1, .int (nI i)), (2, .int (nI g))] 0 []
  refine k_bipush (v := nI 6) C dX7_reckon_0 rfl ?_
  refine k_iload_n C dX7_reckon_2 rfl 1 rfl ?_
  refine k_imul C dX7_reckon_3 ?_
  refine k_val (y := nI (6 * i)) (pk_mul 6 i) ?_
  refine k_istore_n (lv' := [(3, .int (nI (6 * i))), (0, .ref m), (1, .int (nI i)), (2, .int (nI g))]) C dX7_reckon_4 rfl (by decide) rfl ?_
  refine k_aload_n C dX7_reckon_5 rfl 1 rfl ?_
  refine k_get (ci := 7) (k := 6) C fl_7_19 h_m rfl dX7_reckon_6 ?_
  refine k_iload_n C dX7_reckon_9 rfl 0 rfl ?_
  refine k_iald (v := fm (6 * i)) C 0 h_wm rfl (vp_in_nI (by omega) (by omega)) (by rw [nI_clamp (by omega)]) dX7_reckon_10 ?_
  refine k_val (y := nI 10) hm0 ?_
  refine k_istore (lv' := [(4, .int (nI 10)), (3, .int (nI (6 * i))), (0, .ref m), (1, .int (nI i)), (2, .int (nI g))]) C dX7_reckon_11 (by decide) rfl ?_
  refine k_aload_n C dX7_reckon_13 rfl 2 rfl ?_
  refine k_get (ci := 7) (k := 6) C fl_7_19 h_m rfl dX7_reckon_14 ?_
  refine k_iload_n C dX7_reckon_17 rfl 1 rfl ?_
  refine k_iconst (v := nI 1) C dX7_reckon_18 rfl ?_
  refine k_iadd C dX7_reckon_19 ?_
  refine k_val (y := nI ((6 * i) + 1)) (nI_add (6 * i) 1) ?_
  refine k_iald (v := fm ((6 * i) + 1)) C 0 h_wm rfl (vp_in_nI (by omega) (by omega)) (by rw [nI_clamp (by omega)]) dX7_reckon_20 ?_
  refine k_val (y := nI a) hm1 ?_
  refine k_istore (lv' := [(5, .int (nI a)), (4, .int (nI 10)), (3, .int (nI (6 * i))), (0, .ref m), (1, .int (nI i)), (2, .int (nI g))]) C dX7_reckon_21 (by decide) rfl ?_
  refine k_aload_n C dX7_reckon_23 rfl 3 rfl ?_
  refine k_get (ci := 7) (k := 6) C fl_7_19 h_m rfl dX7_reckon_24 ?_
  refine k_iload_n C dX7_reckon_27 rfl 2 rfl ?_
  refine k_iconst (v := nI 2) C dX7_reckon_28 rfl ?_
  refine k_iadd C dX7_reckon_29 ?_
  refine k_val (y := nI ((6 * i) + 2)) (nI_add (6 * i) 2) ?_
  refine k_iald (v := fm ((6 * i) + 2)) C 0 h_wm rfl (vp_in_nI (by omega) (by omega)) (by rw [nI_clamp (by omega)]) dX7_reckon_30 ?_
  refine k_val (y := nI e) hm2 ?_
  refine k_istore (lv' := [(6, .int (nI e)), (5, .int (nI a)), (4, .int (nI 10)), (3, .int (nI (6 * i))), (0, .ref m), (1, .int (nI i)), (2, .int (nI g))]) C dX7_reckon_31 (by decide) rfl ?_
  refine k_iload_n C dX7_reckon_33 rfl 5 rfl ?_
  refine k_iload_n C dX7_reckon_34 rfl 6 rfl ?_
  refine k_callS_pi C ms_7_140 (c_X7_table   ) rfl rfl (by simp [Value.category]) ⟨Nat.le_of_ble_eq_true rfl, Nat.le_of_ble_eq_true rfl⟩ ⟨(by decide), (by decide)⟩ dX7_reckon_35 ?_
  refine k_istore (lv' := [(7, .int (nI (4 * i + g))), (6, .int (nI e)), (5, .int (nI a)), (4, .int (nI 10)), (3, .int (nI (6 * i))), (0, .ref m), (1, .int (nI i)), (2, .int (nI g))]) C dX7_reckon_38 (by decide) rfl ?_
  refine k_aload_n C dX7_reckon_40 rfl 5 rfl ?_
  refine k_get (ci := 7) (k := 9) C fl_7_26 h_m rfl dX7_reckon_41 ?_
  refine k_iload C dX7_reckon_44 0 rfl ?_
  refine k_iconst (v := nI 0) C dX7_reckon_46 rfl ?_
  refine k_iast (f' := upd fc (4 * i + g) (nI 0)) C 0 h_wc rfl (vp_in_nI (by omega) (by omega)) (by rw [nI_clamp (by omega)]) dX7_reckon_47 ?_
  have hS0 : ∀ j z, j < i → z < 4 → MTb (S j z) (upd fc (4 * i + g) (nI 0) (4 * j + z)) (tbl fr (4 * j + z)) := fun j z hj hz => (hS j z hj hz).up (by omega)
  have hc0 : upd fc (4 * i + g) (nI 0) (4 * i + g) = 0 := upd_at
  refine k_iload C dX7_reckon_48 3 rfl ?_
  refine k_if_ne (tgt := 62) C dX7_reckon_50 (by decide) (fun c50 => ?_) (fun c50 => ?_)
  · skip
    have b50 : ¬ 10 = 0 := fun z => c50 ((nI_eq (a := 10) (b := 0) (by omega) (by omega)).mpr z)
    refine k_iload C dX7_reckon_62 3 rfl ?_
    refine k_iconst (v := nI 1) C dX7_reckon_64 rfl ?_
    refine k_icmp_lt (tgt := 78) C dX7_reckon_65 (by decide) (fun c65 => ?_) (fun c65 => ?_)
    · exact absurd c65 (by decide)
    · skip
      have b65 : ¬ 10 < 1 := fun z => c65 ((nI_ltI (a := 10) (b := 1) (by omega) (by omega)).mpr z)
      refine k_iload C dX7_reckon_68 3 rfl ?_
      refine k_iconst (v := nI 4) C dX7_reckon_70 rfl ?_
      refine k_icmp_gt (tgt := 78) C dX7_reckon_71 (by decide) (fun c71 => ?_) (fun c71 => ?_)
      · skip
        have b71 : 4 < 10 := (nI_ltI (a := 4) (b := 10) (by omega) (by omega)).mp c71
        refine k_iconst (v := nI 0) C dX7_reckon_78 rfl ?_
        refine k_istore (lv' := [(8, .int (nI 0)), (7, .int (nI (4 * i + g))), (6, .int (nI e)), (5, .int (nI a)), (4, .int (nI 10)), (3, .int (nI (6 * i))), (0, .ref m), (1, .int (nI i)), (2, .int (nI g))]) C dX7_reckon_79 (by decide) rfl ?_
        refine k_iload C dX7_reckon_81 4 rfl ?_
        refine k_bipush (v := nI 12) C dX7_reckon_83 rfl ?_
        refine k_icmp_ne (tgt := 99) C dX7_reckon_85 (by decide) (fun c85 => ?_) (fun c85 => ?_)
        · skip
          have b85 : ¬ 10 = 12 := fun z => c85 ((nI_eq (a := 10) (b := 12) (by omega) (by omega)).mpr z)
          refine k_iload C dX7_reckon_99 4 rfl ?_
          refine k_bipush (v := nI 13) C dX7_reckon_101 rfl ?_
          refine k_icmp_ne (tgt := 144) C dX7_reckon_103 (by decide) (fun c103 => ?_) (fun c103 => ?_)
          · skip
            have b103 : ¬ 10 = 13 := fun z => c103 ((nI_eq (a := 10) (b := 13) (by omega) (by omega)).mpr z)
            refine k_aload_n C dX7_reckon_144 rfl 6 rfl ?_
            refine k_iload C dX7_reckon_145 3 rfl ?_
            refine k_iload_n C dX7_reckon_147 rfl 8 rfl ?_
            have ne1 : nq m wc := gv_ne h_wc h_m (by simp)
            refine k_callV_pi C mv_7_148 (c_X7_isLong  ((gv_up_n ne1).trans h_m) gv_up_s (by omega) (by omega) (hS0 a g (by omega) (by omega))) ((gv_up_n ne1).trans h_m) rfl rfl (by simp [Value.category]) ⟨Nat.le_of_ble_eq_true rfl, Nat.le_of_ble_eq_true rfl⟩ ⟨(by decide), (by decide)⟩ dX7_reckon_148 ?_
            refine k_if_ne (tgt := 169) C dX7_reckon_151 (by decide) (fun c151 => ?_) (fun c151 => ?_)
            · skip
              have b151 : ((S a g).isNone) = true := bI_n.mp c151
              refine k_iconst (v := nI 1) C dX7_reckon_169 rfl ?_
              refine k_goto (tgt := 174) C dX7_reckon_170 (by decide) ?_
              refine k_istore (lv' := [(9, .int (nI 1)), (8, .int (nI 0)), (7, .int (nI (4 * i + g))), (6, .int (nI e)), (5, .int (nI a)), (4, .int (nI 10)), (3, .int (nI (6 * i))), (0, .ref m), (1, .int (nI i)), (2, .int (nI g))]) C dX7_reckon_174 (by decide) rfl ?_
              refine k_iload C dX7_reckon_176 0 rfl ?_
              refine k_if_eq (tgt := 191) C dX7_reckon_178 (by decide) (fun c178 => ?_) (fun c178 => ?_)
              · exact absurd c178 (by decide)
              · skip
                have b178 : ¬ 1 = 0 := fun z => c178 ((nI_eq (a := 1) (b := 0) (by omega) (by omega)).mpr z)
                refine k_aload_n C dX7_reckon_181 rfl 7 rfl ?_
                refine k_get (ci := 7) (k := 9) C fl_7_26 ((gv_up_n ne1).trans h_m) rfl dX7_reckon_182 ?_
                refine k_iload C dX7_reckon_185 2 rfl ?_
                refine k_bipush (v := (-2 : Int32)) C dX7_reckon_187 (by decide) ?_
                refine k_iast (f' := upd (upd fc (4 * i + g) (nI 0)) (4 * i + g) (-2 : Int32)) C 0 gv_up_s rfl (vp_in_nI (by omega) (by omega)) (by rw [nI_clamp (by omega)]) dX7_reckon_189 ?_
                refine k_view (V1 := gv_up V wc (.inl (cI, 120, .inl (upd (upd fc (4 * i + g) (nI 0)) (4 * i + g) (-2 : Int32))))) gv_uu ?_
                have ne2 : nq wr wc := gv_ne h_wc h_wr (by simp)
                refine k_view (V1 := gv_up (gv_up V wc (.inl (cI, 120, .inl (upd (upd fc (4 * i + g) (nI 0)) (4 * i + g) (-2 : Int32))))) wr (.inl (cI, 57600, .inl fr))) (gv_id ((gv_up_n ne2).trans h_wr)).symm ?_
                have ne3 : nq wn wc := gv_ne h_wc h_wn (by simp)
                have ne4 : nq wn wr := gv_ne h_wr h_wn (by simp)
                refine k_view (V1 := gv_up (gv_up (gv_up V wc (.inl (cI, 120, .inl (upd (upd fc (4 * i + g) (nI 0)) (4 * i + g) (-2 : Int32))))) wr (.inl (cI, 57600, .inl fr))) wn (.inl (cI, 6, .inl fw))) (gv_id ((gv_up_n ne4).trans ((gv_up_n ne3).trans h_wn))).symm ?_
                have ne5 : nq wv wc := gv_ne h_wc h_wv (by simp)
                have ne6 : nq wv wr := gv_ne h_wr h_wv (by simp)
                have ne7 : nq wv wn := gv_ne h_wn h_wv (by simp)
                refine k_view (V1 := gv_up (gv_up (gv_up (gv_up V wc (.inl (cI, 120, .inl (upd (upd fc (4 * i + g) (nI 0)) (4 * i + g) (-2 : Int32))))) wr (.inl (cI, 57600, .inl fr))) wn (.inl (cI, 6, .inl fw))) wv (.inl (cI, 30, .inl fv))) (gv_id ((gv_up_n ne7).trans ((gv_up_n ne6).trans ((gv_up_n ne5).trans h_wv)))).symm ?_
                have ne8 : nq wk wc := gv_ne h_wc h_wk (by simp)
                have ne9 : nq wk wr := gv_ne h_wr h_wk (by simp)
                have ne10 : nq wk wn := gv_ne h_wn h_wk (by simp)
                have ne11 : nq wk wv := gv_ne h_wv h_wk (by simp)
                refine k_view (V1 := gv_up (gv_up (gv_up (gv_up (gv_up V wc (.inl (cI, 120, .inl (upd (upd fc (4 * i + g) (nI 0)) (4 * i + g) (-2 : Int32))))) wr (.inl (cI, 57600, .inl fr))) wn (.inl (cI, 6, .inl fw))) wv (.inl (cI, 30, .inl fv))) wk (.inl (cI, 80, .inl fk))) (gv_id ((gv_up_n ne11).trans ((gv_up_n ne10).trans ((gv_up_n ne9).trans ((gv_up_n ne8).trans h_wk))))).symm ?_
                have ne12 : nq wp wc := gv_ne h_wc h_wp (by simp)
                have ne13 : nq wp wr := gv_ne h_wr h_wp (by simp)
                have ne14 : nq wp wn := gv_ne h_wn h_wp (by simp)
                have ne15 : nq wp wv := gv_ne h_wv h_wp (by simp)
                refine k_view (V1 := gv_up (gv_up (gv_up (gv_up (gv_up (gv_up V wc (.inl (cI, 120, .inl (upd (upd fc (4 * i + g) (nI 0)) (4 * i + g) (-2 : Int32))))) wr (.inl (cI, 57600, .inl fr))) wn (.inl (cI, 6, .inl fw))) wv (.inl (cI, 30, .inl fv))) wk (.inl (cI, 80, .inl fk))) wp (.inl (cI, 80, .inl fp))) (gv_id ((gv_up_n (Ne.symm hwkp)).trans ((gv_up_n ne15).trans ((gv_up_n ne14).trans ((gv_up_n ne13).trans ((gv_up_n ne12).trans h_wp)))))).symm ?_
                refine k_view (V1 := gv_up (gv_up (gv_up (gv_up (gv_up (gv_up V wr (.inl (cI, 57600, .inl fr))) wc (.inl (cI, 120, .inl (upd (upd fc (4 * i + g) (nI 0)) (4 * i + g) (-2 : Int32))))) wn (.inl (cI, 6, .inl fw))) wv (.inl (cI, 30, .inl fv))) wk (.inl (cI, 80, .inl fk))) wp (.inl (cI, 80, .inl fp))) (congrArg (fun W => gv_up W wp (.inl (cI, 80, .inl fp))) (congrArg (fun W => gv_up W wk (.inl (cI, 80, .inl fk))) (congrArg (fun W => gv_up W wv (.inl (cI, 30, .inl fv))) (congrArg (fun W => gv_up W wn (.inl (cI, 6, .inl fw))) (gv_uc ne2))))) ?_
                exact k_vret C zr zlk ⟨fr, upd (upd fc (4 * i + g) (nI 0)) (4 * i + g) (-2 : Int32), fw, fv, fk, fp, rfl, rfl, (MTb.no (by rw [isN0 b151]; rfl) upd_at), (Kp.up.tr Kp.up)⟩ (Nat.le_refl _) (Nat.le_refl _) dX7_reckon_190
            · skip
              have b151 : ((S a g).isNone) = false := bI_0.mp c151
              obtain ⟨A, eA⟩ := isN b151
              obtain ⟨hcA, hA⟩ := (hS0 a g ha (by omega)).sm eA
              refine k_iload C dX7_reckon_154 0 rfl ?_
              refine k_if_eq (tgt := 173) C dX7_reckon_156 (by decide) (fun c156 => ?_) (fun c156 => ?_)
              · skip
                have b156 : 0 = 0 := (nI_eq (a := 0) (b := 0) (by omega) (by omega)).mp c156
                refine k_iconst (v := nI 0) C dX7_reckon_173 rfl ?_
                refine k_istore (lv' := [(9, .int (nI 0)), (8, .int (nI 0)), (7, .int (nI (4 * i + g))), (6, .int (nI e)), (5, .int (nI a)), (4, .int (nI 10)), (3, .int (nI (6 * i))), (0, .ref m), (1, .int (nI i)), (2, .int (nI g))]) C dX7_reckon_174 (by decide) rfl ?_
                refine k_iload C dX7_reckon_176 0 rfl ?_
                refine k_if_eq (tgt := 191) C dX7_reckon_178 (by decide) (fun c178 => ?_) (fun c178 => ?_)
                · skip
                  have b178 : 0 = 0 := (nI_eq (a := 0) (b := 0) (by omega) (by omega)).mp c178
                  refine k_iload C dX7_reckon_191 4 rfl ?_
                  refine k_iload_n C dX7_reckon_193 rfl 9 rfl ?_
                  refine k_callS_pi C ms_7_140 (c_X7_table   ) rfl rfl (by simp [Value.category]) ⟨Nat.le_of_ble_eq_true rfl, Nat.le_of_ble_eq_true rfl⟩ ⟨(by decide), (by decide)⟩ dX7_reckon_194 ?_
                  refine k_istore (lv' := [(10, .int (nI (4 * a + g))), (9, .int (nI 0)), (8, .int (nI 0)), (7, .int (nI (4 * i + g))), (6, .int (nI e)), (5, .int (nI a)), (4, .int (nI 10)), (3, .int (nI (6 * i))), (0, .ref m), (1, .int (nI i)), (2, .int (nI g))]) C dX7_reckon_197 (by decide) rfl ?_
                  refine k_iload C dX7_reckon_199 6 rfl ?_
                  refine k_tableIn (tgt := 359) C dX7_reckon_201 (by decide) (by decide) rfl (by decide) ?_
                  refine k_aload_n C dX7_reckon_359 rfl 8 rfl ?_
                  refine k_iload C dX7_reckon_360 3 rfl ?_
                  refine k_iload C dX7_reckon_362 0 rfl ?_
                  refine k_iload C dX7_reckon_364 4 rfl ?_
                  refine k_aload_n C dX7_reckon_366 rfl 8 rfl ?_
                  refine k_get (ci := 7) (k := 6) C fl_7_19 ((gv_up_n ne1).trans h_m) rfl dX7_reckon_367 ?_
                  refine k_iload_n C dX7_reckon_370 rfl 7 rfl ?_
                  refine k_iconst (v := nI 3) C dX7_reckon_371 rfl ?_
                  refine k_iadd C dX7_reckon_372 ?_
                  refine k_val (y := nI ((6 * i) + 3)) (nI_add (6 * i) 3) ?_
                  have ne16 : nq wm wc := gv_ne h_wc h_wm (by simp)
                  refine k_iald (v := fm ((6 * i) + 3)) C 0 ((gv_up_n ne16).trans h_wm) rfl (vp_in_nI (by omega) (by omega)) (by rw [nI_clamp (by omega)]) dX7_reckon_373 ?_
                  refine k_val (y := nI 0) hm3 ?_
                  refine k_iconst (v := nI 1) C dX7_reckon_374 rfl ?_
                  refine k_icmp_ne (tgt := 382) C dX7_reckon_375 (by decide) (fun c375 => ?_) (fun c375 => ?_)
                  · skip
                    have b375 : ¬ 0 = 1 := fun z => c375 ((nI_eq (a := 0) (b := 1) (by omega) (by omega)).mpr z)
                    refine k_iconst (v := nI 0) C dX7_reckon_382 rfl ?_
                    have ne17 : nq wr wc := gv_ne h_wc h_wr (by simp)
                    have ne18 : nq wn wc := gv_ne h_wc h_wn (by simp)
                    have ne19 : nq wv wc := gv_ne h_wc h_wv (by simp)
                    have ne20 : nq wk wc := gv_ne h_wc h_wk (by simp)
                    have ne21 : nq wp wc := gv_ne h_wc h_wp (by simp)
                    have ne22 : nq wa wc := gv_ne h_wc h_wa (by simp)
                    refine k_callV C mv_7_162 (c_X7_reckonOrder  ((gv_up_n ne1).trans h_m) ((gv_up_n ne17).trans h_wr) gv_up_s ((gv_up_n ne18).trans h_wn) ((gv_up_n ne19).trans h_wv) ((gv_up_n ne20).trans h_wk) ((gv_up_n ne21).trans h_wp) ((gv_up_n ne22).trans h_wa) (by first | assumption | omega) (by first | assumption | omega) (by first | assumption | omega) (by first | assumption | omega) (by first | assumption | omega) (by first | assumption | omega) (by first | assumption | omega) hwkp (by first | assumption | omega)) ((gv_up_n ne1).trans h_m) rfl rfl (by simp [Value.category]) ⟨Nat.le_of_ble_eq_true rfl, Nat.le_of_ble_eq_true rfl⟩ ⟨(by decide), (by decide)⟩ dX7_reckon_383 (fun zv zV zh => ?_)
                    obtain ⟨fr1_w23, fc1_w23, fw1_w23, fv1_w23, fk1_w23, fp1_w23, rfl, rfl, hR1_w23, hK1_w23⟩ := zh
                    refine k_pc (pc' := 386) (st' := []) rfl rfl ?_
                    refine k_view (V1 := gv_up (gv_up (gv_up (gv_up (gv_up (gv_up V wc (.inl (cI, 120, .inl fc1_w23))) wr (.inl (cI, 57600, .inl fr1_w23))) wn (.inl (cI, 6, .inl fw1_w23))) wv (.inl (cI, 30, .inl fv1_w23))) wk (.inl (cI, 80, .inl fk1_w23))) wp (.inl (cI, 80, .inl fp1_w23))) (congrArg (fun W => gv_up W wp (.inl (cI, 80, .inl fp1_w23))) (congrArg (fun W => gv_up W wk (.inl (cI, 80, .inl fk1_w23))) (congrArg (fun W => gv_up W wv (.inl (cI, 30, .inl fv1_w23))) (congrArg (fun W => gv_up W wn (.inl (cI, 6, .inl fw1_w23))) ((gv_uc (Ne.symm ne17)).trans (congrArg (fun W => gv_up W wr (.inl (cI, 57600, .inl fr1_w23))) gv_uu)))))) ?_
                    refine k_goto (tgt := 454) C dX7_reckon_386 (by decide) ?_
                    refine k_view (V1 := gv_up (gv_up (gv_up (gv_up (gv_up (gv_up V wr (.inl (cI, 57600, .inl fr1_w23))) wc (.inl (cI, 120, .inl fc1_w23))) wn (.inl (cI, 6, .inl fw1_w23))) wv (.inl (cI, 30, .inl fv1_w23))) wk (.inl (cI, 80, .inl fk1_w23))) wp (.inl (cI, 80, .inl fp1_w23))) (congrArg (fun W => gv_up W wp (.inl (cI, 80, .inl fp1_w23))) (congrArg (fun W => gv_up W wk (.inl (cI, 80, .inl fk1_w23))) (congrArg (fun W => gv_up W wv (.inl (cI, 30, .inl fv1_w23))) (congrArg (fun W => gv_up W wn (.inl (cI, 6, .inl fw1_w23))) (gv_uc ne17))))) ?_
                    exact k_vret C zr zlk ⟨fr1_w23, fc1_w23, fw1_w23, fv1_w23, fk1_w23, fp1_w23, rfl, rfl, (by rw [eA]; exact (MRep.tb hR1_w23)), (Kp.up.tr hK1_w23)⟩ (Nat.le_refl _) (Nat.le_refl _) dX7_reckon_454
                  · exact absurd c375 (by decide)
                · exact absurd c178 (by decide)
              · exact absurd c156 (by decide)
          · exact absurd c103 (by decide)
        · exact absurd c85 (by decide)
      · exact absurd c71 (by decide)
  · exact absurd c50 (by decide)
set_option maxHeartbeats 4000000 in
set_option maxRecDepth 100000 in
theorem c_reckon10d {zl : Launch} {D : va_G} {cI cN cR : ClassId} {base : Nat} {V : gv_V} {m wt wa wv wm wr wc wn ws wk wp nt ne nn sh : Nat} {kn : Int32} {ft fa fv fm fr fc fw fk fp : Nat → Int32} {i g a e : Nat} {S : Nat → Nat → Option (List Row)} {E : Nat → Ex}  (h_m : V m = some (.inr (7, [.int (nI nt), .ref wt, .int (nI ne), .ref wa, .ref wv, .int (nI nn), .ref wm, .int kn, .ref wr, .ref wc, .ref wn, .int (nI sh), .ref ws, .ref wk, .ref wp]))) (h_wr : V wr = some (.inl (cI, 57600, .inl fr))) (h_wc : V wc = some (.inl (cI, 120, .inl fc))) (h_wn : V wn = some (.inl (cI, 6, .inl fw))) (h_wv : V wv = some (.inl (cI, 30, .inl fv))) (h_wk : V wk = some (.inl (cI, 80, .inl fk))) (h_wp : V wp = some (.inl (cI, 80, .inl fp))) (h_wa : V wa = some (.inl (cI, 90, .inl fa))) (h_wm : V wm = some (.inl (cI, 180, .inl fm))) (h_wt : V wt = some (.inl (cI, 240, .inl ft))) (hi : i < 30) (hg : g < 4) (hm0 : fm (6 * i) = nI 10) (hwkp : nq wk wp) (hm1 : fm (6 * i + 1) = nI a) (ha : a < i) (hm2 : fm (6 * i + 2) = nI e) (hm3 : fm (6 * i + 3) = nI 1) (hM : MA E ne fa) (he : e < ne) (hS : ∀ j z1, j < i → z1 < 4 → MTb (S j z1) (fc (4 * j + z1)) (tbl fr (4 * j + z1))) : ct zl D [(cI, .int), (cN, .object "AlgebraTree$Node"), (cR, .object "AlgebraTree$Rows")] base yX7_reckon cX7_reckon 11 none 5 0 0 [.ref m, .int (nI i), .int (nI g)] V (fun zv zV => ∃ fr1 : Nat → Int32, ∃ fc1 : Nat → Int32, ∃ fw1 : Nat → Int32, ∃ fv1 : Nat → Int32, ∃ fk1 : Nat → Int32, ∃ fp1 : Nat → Int32, zv = none ∧ zV = gv_up (gv_up (gv_up (gv_up (gv_up (gv_up V wr (.inl (cI, 57600, .inl fr1))) wc (.inl (cI, 120, .inl fc1))) wn (.inl (cI, 6, .inl fw1))) wv (.inl (cI, 30, .inl fv1))) wk (.inl (cI, 80, .inl fk1))) wp (.inl (cI, 80, .inl fp1)) ∧ (MTb ((S a g).bind (fun A => cap (orderL (nI 1) (fun x => ev E x e) A))) (fc1 (4 * i + g)) (tbl fr1 (4 * i + g))) ∧ (Kp (4 * i + g) fc fr fc1 fr1)) := by
  refine ct_of "AlgebraTreeModel" rfl (by decide) (Nat.le_of_ble_eq_true rfl) ?_
  intro zp ze zs zm zargs zbelow zmeth zc C zr zlk znm
  refine k_pc (pc' := 0) (st' := []) rfl rfl ?_
  show K zp zl ze (gv_rm 5 0 0) zs zm zargs zbelow zmeth zc D base 11 (gv_E D [(cI, .int), (cN, .object "AlgebraTree$Node"), (cR, .object "AlgebraTree$Rows")] base zbelow zargs zs 0 0 (fun zv zV => ∃ fr1 : Nat → Int32, ∃ fc1 : Nat → Int32, ∃ fw1 : Nat → Int32, ∃ fv1 : Nat → Int32, ∃ fk1 : Nat → Int32, ∃ fp1 : Nat → Int32, zv = none ∧ zV = gv_up (gv_up (gv_up (gv_up (gv_up (gv_up V wr (.inl (cI, 57600, .inl fr1))) wc (.inl (cI, 120, .inl fc1))) wn (.inl (cI, 6, .inl fw1))) wv (.inl (cI, 30, .inl fv1))) wk (.inl (cI, 80, .inl fk1))) wp (.inl (cI, 80, .inl fp1)) ∧ (MTb ((S a g).bind (fun A => cap (orderL (nI 1) (fun x => ev E x e) A))) (fc1 (4 * i + g)) (tbl fr1 (4 * i + g))) ∧ (Kp (4 * i + g) fc fr fc1 fr1))) V 0 0 [(0, .ref m), (1, .int (nI i)), (2, .int (nI g))] 0 []
  refine k_bipush (v := nI 6) C dX7_reckon_0 rfl ?_
  refine k_iload_n C dX7_reckon_2 rfl 1 rfl ?_
  refine k_imul C dX7_reckon_3 ?_
  refine k_val (y := nI (6 * i)) (pk_mul 6 i) ?_
  refine k_istore_n (lv' := [(3, .int (nI (6 * i))), (0, .ref m), (1, .int (nI i)), (2, .int (nI g))]) C dX7_reckon_4 rfl (by decide) rfl ?_
  refine k_aload_n C dX7_reckon_5 rfl 1 rfl ?_
  refine k_get (ci := 7) (k := 6) C fl_7_19 h_m rfl dX7_reckon_6 ?_
  refine k_iload_n C dX7_reckon_9 rfl 0 rfl ?_
  refine k_iald (v := fm (6 * i)) C 0 h_wm rfl (vp_in_nI (by omega) (by omega)) (by rw [nI_clamp (by omega)]) dX7_reckon_10 ?_
  refine k_val (y := nI 10) hm0 ?_
  refine k_istore (lv' := [(4, .int (nI 10)), (3, .int (nI (6 * i))), (0, .ref m), (1, .int (nI i)), (2, .int (nI g))]) C dX7_reckon_11 (by decide) rfl ?_
  refine k_aload_n C dX7_reckon_13 rfl 2 rfl ?_
  refine k_get (ci := 7) (k := 6) C fl_7_19 h_m rfl dX7_reckon_14 ?_
  refine k_iload_n C dX7_reckon_17 rfl 1 rfl ?_
  refine k_iconst (v := nI 1) C dX7_reckon_18 rfl ?_
  refine k_iadd C dX7_reckon_19 ?_
  refine k_val (y := nI ((6 * i) + 1)) (nI_add (6 * i) 1) ?_
  refine k_iald (v := fm ((6 * i) + 1)) C 0 h_wm rfl (vp_in_nI (by omega) (by omega)) (by rw [nI_clamp (by omega)]) dX7_reckon_20 ?_
  refine k_val (y := nI a) hm1 ?_
  refine k_istore (lv' := [(5, .int (nI a)), (4, .int (nI 10)), (3, .int (nI (6 * i))), (0, .ref m), (1, .int (nI i)), (2, .int (nI g))]) C dX7_reckon_21 (by decide) rfl ?_
  refine k_aload_n C dX7_reckon_23 rfl 3 rfl ?_
  refine k_get (ci := 7) (k := 6) C fl_7_19 h_m rfl dX7_reckon_24 ?_
  refine k_iload_n C dX7_reckon_27 rfl 2 rfl ?_
  refine k_iconst (v := nI 2) C dX7_reckon_28 rfl ?_
  refine k_iadd C dX7_reckon_29 ?_
  refine k_val (y := nI ((6 * i) + 2)) (nI_add (6 * i) 2) ?_
  refine k_iald (v := fm ((6 * i) + 2)) C 0 h_wm rfl (vp_in_nI (by omega) (by omega)) (by rw [nI_clamp (by omega)]) dX7_reckon_30 ?_
  refine k_val (y := nI e) hm2 ?_
  refine k_istore (lv' := [(6, .int (nI e)), (5, .int (nI a)), (4, .int (nI 10)), (3, .int (nI (6 * i))), (0, .ref m), (1, .int (nI i)), (2, .int (nI g))]) C dX7_reckon_31 (by decide) rfl ?_
  refine k_iload_n C dX7_reckon_33 rfl 5 rfl ?_
  refine k_iload_n C dX7_reckon_34 rfl 6 rfl ?_
  refine k_callS_pi C ms_7_140 (c_X7_table   ) rfl rfl (by simp [Value.category]) ⟨Nat.le_of_ble_eq_true rfl, Nat.le_of_ble_eq_true rfl⟩ ⟨(by decide), (by decide)⟩ dX7_reckon_35 ?_
  refine k_istore (lv' := [(7, .int (nI (4 * i + g))), (6, .int (nI e)), (5, .int (nI a)), (4, .int (nI 10)), (3, .int (nI (6 * i))), (0, .ref m), (1, .int (nI i)), (2, .int (nI g))]) C dX7_reckon_38 (by decide) rfl ?_
  refine k_aload_n C dX7_reckon_40 rfl 5 rfl ?_
  refine k_get (ci := 7) (k := 9) C fl_7_26 h_m rfl dX7_reckon_41 ?_
  refine k_iload C dX7_reckon_44 0 rfl ?_
  refine k_iconst (v := nI 0) C dX7_reckon_46 rfl ?_
  refine k_iast (f' := upd fc (4 * i + g) (nI 0)) C 0 h_wc rfl (vp_in_nI (by omega) (by omega)) (by rw [nI_clamp (by omega)]) dX7_reckon_47 ?_
  have hS0 : ∀ j z, j < i → z < 4 → MTb (S j z) (upd fc (4 * i + g) (nI 0) (4 * j + z)) (tbl fr (4 * j + z)) := fun j z hj hz => (hS j z hj hz).up (by omega)
  have hc0 : upd fc (4 * i + g) (nI 0) (4 * i + g) = 0 := upd_at
  refine k_iload C dX7_reckon_48 3 rfl ?_
  refine k_if_ne (tgt := 62) C dX7_reckon_50 (by decide) (fun c50 => ?_) (fun c50 => ?_)
  · skip
    have b50 : ¬ 10 = 0 := fun z => c50 ((nI_eq (a := 10) (b := 0) (by omega) (by omega)).mpr z)
    refine k_iload C dX7_reckon_62 3 rfl ?_
    refine k_iconst (v := nI 1) C dX7_reckon_64 rfl ?_
    refine k_icmp_lt (tgt := 78) C dX7_reckon_65 (by decide) (fun c65 => ?_) (fun c65 => ?_)
    · exact absurd c65 (by decide)
    · skip
      have b65 : ¬ 10 < 1 := fun z => c65 ((nI_ltI (a := 10) (b := 1) (by omega) (by omega)).mpr z)
      refine k_iload C dX7_reckon_68 3 rfl ?_
      refine k_iconst (v := nI 4) C dX7_reckon_70 rfl ?_
      refine k_icmp_gt (tgt := 78) C dX7_reckon_71 (by decide) (fun c71 => ?_) (fun c71 => ?_)
      · skip
        have b71 : 4 < 10 := (nI_ltI (a := 4) (b := 10) (by omega) (by omega)).mp c71
        refine k_iconst (v := nI 0) C dX7_reckon_78 rfl ?_
        refine k_istore (lv' := [(8, .int (nI 0)), (7, .int (nI (4 * i + g))), (6, .int (nI e)), (5, .int (nI a)), (4, .int (nI 10)), (3, .int (nI (6 * i))), (0, .ref m), (1, .int (nI i)), (2, .int (nI g))]) C dX7_reckon_79 (by decide) rfl ?_
        refine k_iload C dX7_reckon_81 4 rfl ?_
        refine k_bipush (v := nI 12) C dX7_reckon_83 rfl ?_
        refine k_icmp_ne (tgt := 99) C dX7_reckon_85 (by decide) (fun c85 => ?_) (fun c85 => ?_)
        · skip
          have b85 : ¬ 10 = 12 := fun z => c85 ((nI_eq (a := 10) (b := 12) (by omega) (by omega)).mpr z)
          refine k_iload C dX7_reckon_99 4 rfl ?_
          refine k_bipush (v := nI 13) C dX7_reckon_101 rfl ?_
          refine k_icmp_ne (tgt := 144) C dX7_reckon_103 (by decide) (fun c103 => ?_) (fun c103 => ?_)
          · skip
            have b103 : ¬ 10 = 13 := fun z => c103 ((nI_eq (a := 10) (b := 13) (by omega) (by omega)).mpr z)
            refine k_aload_n C dX7_reckon_144 rfl 6 rfl ?_
            refine k_iload C dX7_reckon_145 3 rfl ?_
            refine k_iload_n C dX7_reckon_147 rfl 8 rfl ?_
            have ne1 : nq m wc := gv_ne h_wc h_m (by simp)
            refine k_callV_pi C mv_7_148 (c_X7_isLong  ((gv_up_n ne1).trans h_m) gv_up_s (by omega) (by omega) (hS0 a g (by omega) (by omega))) ((gv_up_n ne1).trans h_m) rfl rfl (by simp [Value.category]) ⟨Nat.le_of_ble_eq_true rfl, Nat.le_of_ble_eq_true rfl⟩ ⟨(by decide), (by decide)⟩ dX7_reckon_148 ?_
            refine k_if_ne (tgt := 169) C dX7_reckon_151 (by decide) (fun c151 => ?_) (fun c151 => ?_)
            · skip
              have b151 : ((S a g).isNone) = true := bI_n.mp c151
              refine k_iconst (v := nI 1) C dX7_reckon_169 rfl ?_
              refine k_goto (tgt := 174) C dX7_reckon_170 (by decide) ?_
              refine k_istore (lv' := [(9, .int (nI 1)), (8, .int (nI 0)), (7, .int (nI (4 * i + g))), (6, .int (nI e)), (5, .int (nI a)), (4, .int (nI 10)), (3, .int (nI (6 * i))), (0, .ref m), (1, .int (nI i)), (2, .int (nI g))]) C dX7_reckon_174 (by decide) rfl ?_
              refine k_iload C dX7_reckon_176 0 rfl ?_
              refine k_if_eq (tgt := 191) C dX7_reckon_178 (by decide) (fun c178 => ?_) (fun c178 => ?_)
              · exact absurd c178 (by decide)
              · skip
                have b178 : ¬ 1 = 0 := fun z => c178 ((nI_eq (a := 1) (b := 0) (by omega) (by omega)).mpr z)
                refine k_aload_n C dX7_reckon_181 rfl 7 rfl ?_
                refine k_get (ci := 7) (k := 9) C fl_7_26 ((gv_up_n ne1).trans h_m) rfl dX7_reckon_182 ?_
                refine k_iload C dX7_reckon_185 2 rfl ?_
                refine k_bipush (v := (-2 : Int32)) C dX7_reckon_187 (by decide) ?_
                refine k_iast (f' := upd (upd fc (4 * i + g) (nI 0)) (4 * i + g) (-2 : Int32)) C 0 gv_up_s rfl (vp_in_nI (by omega) (by omega)) (by rw [nI_clamp (by omega)]) dX7_reckon_189 ?_
                refine k_view (V1 := gv_up V wc (.inl (cI, 120, .inl (upd (upd fc (4 * i + g) (nI 0)) (4 * i + g) (-2 : Int32))))) gv_uu ?_
                have ne2 : nq wr wc := gv_ne h_wc h_wr (by simp)
                refine k_view (V1 := gv_up (gv_up V wc (.inl (cI, 120, .inl (upd (upd fc (4 * i + g) (nI 0)) (4 * i + g) (-2 : Int32))))) wr (.inl (cI, 57600, .inl fr))) (gv_id ((gv_up_n ne2).trans h_wr)).symm ?_
                have ne3 : nq wn wc := gv_ne h_wc h_wn (by simp)
                have ne4 : nq wn wr := gv_ne h_wr h_wn (by simp)
                refine k_view (V1 := gv_up (gv_up (gv_up V wc (.inl (cI, 120, .inl (upd (upd fc (4 * i + g) (nI 0)) (4 * i + g) (-2 : Int32))))) wr (.inl (cI, 57600, .inl fr))) wn (.inl (cI, 6, .inl fw))) (gv_id ((gv_up_n ne4).trans ((gv_up_n ne3).trans h_wn))).symm ?_
                have ne5 : nq wv wc := gv_ne h_wc h_wv (by simp)
                have ne6 : nq wv wr := gv_ne h_wr h_wv (by simp)
                have ne7 : nq wv wn := gv_ne h_wn h_wv (by simp)
                refine k_view (V1 := gv_up (gv_up (gv_up (gv_up V wc (.inl (cI, 120, .inl (upd (upd fc (4 * i + g) (nI 0)) (4 * i + g) (-2 : Int32))))) wr (.inl (cI, 57600, .inl fr))) wn (.inl (cI, 6, .inl fw))) wv (.inl (cI, 30, .inl fv))) (gv_id ((gv_up_n ne7).trans ((gv_up_n ne6).trans ((gv_up_n ne5).trans h_wv)))).symm ?_
                have ne8 : nq wk wc := gv_ne h_wc h_wk (by simp)
                have ne9 : nq wk wr := gv_ne h_wr h_wk (by simp)
                have ne10 : nq wk wn := gv_ne h_wn h_wk (by simp)
                have ne11 : nq wk wv := gv_ne h_wv h_wk (by simp)
                refine k_view (V1 := gv_up (gv_up (gv_up (gv_up (gv_up V wc (.inl (cI, 120, .inl (upd (upd fc (4 * i + g) (nI 0)) (4 * i + g) (-2 : Int32))))) wr (.inl (cI, 57600, .inl fr))) wn (.inl (cI, 6, .inl fw))) wv (.inl (cI, 30, .inl fv))) wk (.inl (cI, 80, .inl fk))) (gv_id ((gv_up_n ne11).trans ((gv_up_n ne10).trans ((gv_up_n ne9).trans ((gv_up_n ne8).trans h_wk))))).symm ?_
                have ne12 : nq wp wc := gv_ne h_wc h_wp (by simp)
                have ne13 : nq wp wr := gv_ne h_wr h_wp (by simp)
                have ne14 : nq wp wn := gv_ne h_wn h_wp (by simp)
                have ne15 : nq wp wv := gv_ne h_wv h_wp (by simp)
                refine k_view (V1 := gv_up (gv_up (gv_up (gv_up (gv_up (gv_up V wc (.inl (cI, 120, .inl (upd (upd fc (4 * i + g) (nI 0)) (4 * i + g) (-2 : Int32))))) wr (.inl (cI, 57600, .inl fr))) wn (.inl (cI, 6, .inl fw))) wv (.inl (cI, 30, .inl fv))) wk (.inl (cI, 80, .inl fk))) wp (.inl (cI, 80, .inl fp))) (gv_id ((gv_up_n (Ne.symm hwkp)).trans ((gv_up_n ne15).trans ((gv_up_n ne14).trans ((gv_up_n ne13).trans ((gv_up_n ne12).trans h_wp)))))).symm ?_
                refine k_view (V1 := gv_up (gv_up (gv_up (gv_up (gv_up (gv_up V wr (.inl (cI, 57600, .inl fr))) wc (.inl (cI, 120, .inl (upd (upd fc (4 * i + g) (nI 0)) (4 * i + g) (-2 : Int32))))) wn (.inl (cI, 6, .inl fw))) wv (.inl (cI, 30, .inl fv))) wk (.inl (cI, 80, .inl fk))) wp (.inl (cI, 80, .inl fp))) (congrArg (fun W => gv_up W wp (.inl (cI, 80, .inl fp))) (congrArg (fun W => gv_up W wk (.inl (cI, 80, .inl fk))) (congrArg (fun W => gv_up W wv (.inl (cI, 30, .inl fv))) (congrArg (fun W => gv_up W wn (.inl (cI, 6, .inl fw))) (gv_uc ne2))))) ?_
                exact k_vret C zr zlk ⟨fr, upd (upd fc (4 * i + g) (nI 0)) (4 * i + g) (-2 : Int32), fw, fv, fk, fp, rfl, rfl, (MTb.no (by rw [isN0 b151]; rfl) upd_at), (Kp.up.tr Kp.up)⟩ (Nat.le_refl _) (Nat.le_refl _) dX7_reckon_190
            · skip
              have b151 : ((S a g).isNone) = false := bI_0.mp c151
              obtain ⟨A, eA⟩ := isN b151
              obtain ⟨hcA, hA⟩ := (hS0 a g ha (by omega)).sm eA
              refine k_iload C dX7_reckon_154 0 rfl ?_
              refine k_if_eq (tgt := 173) C dX7_reckon_156 (by decide) (fun c156 => ?_) (fun c156 => ?_)
              · skip
                have b156 : 0 = 0 := (nI_eq (a := 0) (b := 0) (by omega) (by omega)).mp c156
                refine k_iconst (v := nI 0) C dX7_reckon_173 rfl ?_
                refine k_istore (lv' := [(9, .int (nI 0)), (8, .int (nI 0)), (7, .int (nI (4 * i + g))), (6, .int (nI e)), (5, .int (nI a)), (4, .int (nI 10)), (3, .int (nI (6 * i))), (0, .ref m), (1, .int (nI i)), (2, .int (nI g))]) C dX7_reckon_174 (by decide) rfl ?_
                refine k_iload C dX7_reckon_176 0 rfl ?_
                refine k_if_eq (tgt := 191) C dX7_reckon_178 (by decide) (fun c178 => ?_) (fun c178 => ?_)
                · skip
                  have b178 : 0 = 0 := (nI_eq (a := 0) (b := 0) (by omega) (by omega)).mp c178
                  refine k_iload C dX7_reckon_191 4 rfl ?_
                  refine k_iload_n C dX7_reckon_193 rfl 9 rfl ?_
                  refine k_callS_pi C ms_7_140 (c_X7_table   ) rfl rfl (by simp [Value.category]) ⟨Nat.le_of_ble_eq_true rfl, Nat.le_of_ble_eq_true rfl⟩ ⟨(by decide), (by decide)⟩ dX7_reckon_194 ?_
                  refine k_istore (lv' := [(10, .int (nI (4 * a + g))), (9, .int (nI 0)), (8, .int (nI 0)), (7, .int (nI (4 * i + g))), (6, .int (nI e)), (5, .int (nI a)), (4, .int (nI 10)), (3, .int (nI (6 * i))), (0, .ref m), (1, .int (nI i)), (2, .int (nI g))]) C dX7_reckon_197 (by decide) rfl ?_
                  refine k_iload C dX7_reckon_199 6 rfl ?_
                  refine k_tableIn (tgt := 359) C dX7_reckon_201 (by decide) (by decide) rfl (by decide) ?_
                  refine k_aload_n C dX7_reckon_359 rfl 8 rfl ?_
                  refine k_iload C dX7_reckon_360 3 rfl ?_
                  refine k_iload C dX7_reckon_362 0 rfl ?_
                  refine k_iload C dX7_reckon_364 4 rfl ?_
                  refine k_aload_n C dX7_reckon_366 rfl 8 rfl ?_
                  refine k_get (ci := 7) (k := 6) C fl_7_19 ((gv_up_n ne1).trans h_m) rfl dX7_reckon_367 ?_
                  refine k_iload_n C dX7_reckon_370 rfl 7 rfl ?_
                  refine k_iconst (v := nI 3) C dX7_reckon_371 rfl ?_
                  refine k_iadd C dX7_reckon_372 ?_
                  refine k_val (y := nI ((6 * i) + 3)) (nI_add (6 * i) 3) ?_
                  have ne16 : nq wm wc := gv_ne h_wc h_wm (by simp)
                  refine k_iald (v := fm ((6 * i) + 3)) C 0 ((gv_up_n ne16).trans h_wm) rfl (vp_in_nI (by omega) (by omega)) (by rw [nI_clamp (by omega)]) dX7_reckon_373 ?_
                  refine k_val (y := nI 1) hm3 ?_
                  refine k_iconst (v := nI 1) C dX7_reckon_374 rfl ?_
                  refine k_icmp_ne (tgt := 382) C dX7_reckon_375 (by decide) (fun c375 => ?_) (fun c375 => ?_)
                  · exact absurd c375 (by decide)
                  · skip
                    have b375 : 1 = 1 := (nI_eq (a := 1) (b := 1) (by omega) (by omega)).mp c375
                    refine k_iconst (v := nI 1) C dX7_reckon_378 rfl ?_
                    refine k_goto (tgt := 383) C dX7_reckon_379 (by decide) ?_
                    have ne17 : nq wr wc := gv_ne h_wc h_wr (by simp)
                    have ne18 : nq wn wc := gv_ne h_wc h_wn (by simp)
                    have ne19 : nq wv wc := gv_ne h_wc h_wv (by simp)
                    have ne20 : nq wk wc := gv_ne h_wc h_wk (by simp)
                    have ne21 : nq wp wc := gv_ne h_wc h_wp (by simp)
                    have ne22 : nq wa wc := gv_ne h_wc h_wa (by simp)
                    refine k_callV C mv_7_162 (c_X7_reckonOrder  ((gv_up_n ne1).trans h_m) ((gv_up_n ne17).trans h_wr) gv_up_s ((gv_up_n ne18).trans h_wn) ((gv_up_n ne19).trans h_wv) ((gv_up_n ne20).trans h_wk) ((gv_up_n ne21).trans h_wp) ((gv_up_n ne22).trans h_wa) (by first | assumption | omega) (by first | assumption | omega) (by first | assumption | omega) (by first | assumption | omega) (by first | assumption | omega) (by first | assumption | omega) (by first | assumption | omega) hwkp (by first | assumption | omega)) ((gv_up_n ne1).trans h_m) rfl rfl (by simp [Value.category]) ⟨Nat.le_of_ble_eq_true rfl, Nat.le_of_ble_eq_true rfl⟩ ⟨(by decide), (by decide)⟩ dX7_reckon_383 (fun zv zV zh => ?_)
                    obtain ⟨fr1_w23, fc1_w23, fw1_w23, fv1_w23, fk1_w23, fp1_w23, rfl, rfl, hR1_w23, hK1_w23⟩ := zh
                    refine k_pc (pc' := 386) (st' := []) rfl rfl ?_
                    refine k_view (V1 := gv_up (gv_up (gv_up (gv_up (gv_up (gv_up V wc (.inl (cI, 120, .inl fc1_w23))) wr (.inl (cI, 57600, .inl fr1_w23))) wn (.inl (cI, 6, .inl fw1_w23))) wv (.inl (cI, 30, .inl fv1_w23))) wk (.inl (cI, 80, .inl fk1_w23))) wp (.inl (cI, 80, .inl fp1_w23))) (congrArg (fun W => gv_up W wp (.inl (cI, 80, .inl fp1_w23))) (congrArg (fun W => gv_up W wk (.inl (cI, 80, .inl fk1_w23))) (congrArg (fun W => gv_up W wv (.inl (cI, 30, .inl fv1_w23))) (congrArg (fun W => gv_up W wn (.inl (cI, 6, .inl fw1_w23))) ((gv_uc (Ne.symm ne17)).trans (congrArg (fun W => gv_up W wr (.inl (cI, 57600, .inl fr1_w23))) gv_uu)))))) ?_
                    refine k_goto (tgt := 454) C dX7_reckon_386 (by decide) ?_
                    refine k_view (V1 := gv_up (gv_up (gv_up (gv_up (gv_up (gv_up V wr (.inl (cI, 57600, .inl fr1_w23))) wc (.inl (cI, 120, .inl fc1_w23))) wn (.inl (cI, 6, .inl fw1_w23))) wv (.inl (cI, 30, .inl fv1_w23))) wk (.inl (cI, 80, .inl fk1_w23))) wp (.inl (cI, 80, .inl fp1_w23))) (congrArg (fun W => gv_up W wp (.inl (cI, 80, .inl fp1_w23))) (congrArg (fun W => gv_up W wk (.inl (cI, 80, .inl fk1_w23))) (congrArg (fun W => gv_up W wv (.inl (cI, 30, .inl fv1_w23))) (congrArg (fun W => gv_up W wn (.inl (cI, 6, .inl fw1_w23))) (gv_uc ne17))))) ?_
                    exact k_vret C zr zlk ⟨fr1_w23, fc1_w23, fw1_w23, fv1_w23, fk1_w23, fp1_w23, rfl, rfl, (by rw [eA]; exact (MRep.tb hR1_w23)), (Kp.up.tr hK1_w23)⟩ (Nat.le_refl _) (Nat.le_refl _) dX7_reckon_454
                · exact absurd c178 (by decide)
              · exact absurd c156 (by decide)
          · exact absurd c103 (by decide)
        · exact absurd c85 (by decide)
      · exact absurd c71 (by decide)
  · exact absurd c50 (by decide)
set_option maxHeartbeats 4000000 in
set_option maxRecDepth 100000 in
theorem c_reckon11 {zl : Launch} {D : va_G} {cI cN cR : ClassId} {base : Nat} {V : gv_V} {m wt wa wv wm wr wc wn ws wk wp nt ne nn sh : Nat} {kn : Int32} {ft fa fv fm fr fc fw fk fp : Nat → Int32} {i g a e vv w : Nat} {st : Int32} {S : Nat → Nat → Option (List Row)} {E : Nat → Ex}  (h_m : V m = some (.inr (7, [.int (nI nt), .ref wt, .int (nI ne), .ref wa, .ref wv, .int (nI nn), .ref wm, .int kn, .ref wr, .ref wc, .ref wn, .int (nI sh), .ref ws, .ref wk, .ref wp]))) (h_wr : V wr = some (.inl (cI, 57600, .inl fr))) (h_wc : V wc = some (.inl (cI, 120, .inl fc))) (h_wn : V wn = some (.inl (cI, 6, .inl fw))) (h_wv : V wv = some (.inl (cI, 30, .inl fv))) (h_wk : V wk = some (.inl (cI, 80, .inl fk))) (h_wp : V wp = some (.inl (cI, 80, .inl fp))) (h_wa : V wa = some (.inl (cI, 90, .inl fa))) (h_wm : V wm = some (.inl (cI, 180, .inl fm))) (h_wt : V wt = some (.inl (cI, 240, .inl ft))) (hi : i < 30) (hg : g < 4) (hm0 : fm (6 * i) = nI 11) (hwkp : nq wk wp) (hm1 : fm (6 * i + 1) = nI a) (ha : a < i) (hm2 : fm (6 * i + 2) = st) (hm3 : fm (6 * i + 3) = nI w) (hm4 : fm (6 * i + 4) = nI e) (hm5 : fm (6 * i + 5) = nI vv) (hw : w < 4) (hvv : vv < 6) (hM : MA E ne fa) (he : e < ne) (hS : ∀ j z1, j < i → z1 < 4 → MTb (S j z1) (fc (4 * j + z1)) (tbl fr (4 * j + z1))) : ct zl D [(cI, .int), (cN, .object "AlgebraTree$Node"), (cR, .object "AlgebraTree$Rows")] base yX7_reckon cX7_reckon 11 none 5 0 0 [.ref m, .int (nI i), .int (nI g)] V (fun zv zV => ∃ fr1 : Nat → Int32, ∃ fc1 : Nat → Int32, ∃ fw1 : Nat → Int32, ∃ fv1 : Nat → Int32, ∃ fk1 : Nat → Int32, ∃ fp1 : Nat → Int32, zv = none ∧ zV = gv_up (gv_up (gv_up (gv_up (gv_up (gv_up V wr (.inl (cI, 57600, .inl fr1))) wc (.inl (cI, 120, .inl fc1))) wn (.inl (cI, 6, .inl fw1))) wv (.inl (cI, 30, .inl fv1))) wk (.inl (cI, 80, .inl fk1))) wp (.inl (cI, 80, .inl fp1)) ∧ (MTb ((S a g).bind (fun A => cap (groupL st (nI w) vv (fun x => ev E x e) A))) (fc1 (4 * i + g)) (tbl fr1 (4 * i + g))) ∧ (Kp (4 * i + g) fc fr fc1 fr1)) := by
  refine ct_of "AlgebraTreeModel" rfl (by decide) (Nat.le_of_ble_eq_true rfl) ?_
  intro zp ze zs zm zargs zbelow zmeth zc C zr zlk znm
  refine k_pc (pc' := 0) (st' := []) rfl rfl ?_
  show K zp zl ze (gv_rm 5 0 0) zs zm zargs zbelow zmeth zc D base 11 (gv_E D [(cI, .int), (cN, .object "AlgebraTree$Node"), (cR, .object "AlgebraTree$Rows")] base zbelow zargs zs 0 0 (fun zv zV => ∃ fr1 : Nat → Int32, ∃ fc1 : Nat → Int32, ∃ fw1 : Nat → Int32, ∃ fv1 : Nat → Int32, ∃ fk1 : Nat → Int32, ∃ fp1 : Nat → Int32, zv = none ∧ zV = gv_up (gv_up (gv_up (gv_up (gv_up (gv_up V wr (.inl (cI, 57600, .inl fr1))) wc (.inl (cI, 120, .inl fc1))) wn (.inl (cI, 6, .inl fw1))) wv (.inl (cI, 30, .inl fv1))) wk (.inl (cI, 80, .inl fk1))) wp (.inl (cI, 80, .inl fp1)) ∧ (MTb ((S a g).bind (fun A => cap (groupL st (nI w) vv (fun x => ev E x e) A))) (fc1 (4 * i + g)) (tbl fr1 (4 * i + g))) ∧ (Kp (4 * i + g) fc fr fc1 fr1))) V 0 0 [(0, .ref m), (1, .int (nI i)), (2, .int (nI g))] 0 []
  refine k_bipush (v := nI 6) C dX7_reckon_0 rfl ?_
  refine k_iload_n C dX7_reckon_2 rfl 1 rfl ?_
  refine k_imul C dX7_reckon_3 ?_
  refine k_val (y := nI (6 * i)) (pk_mul 6 i) ?_
  refine k_istore_n (lv' := [(3, .int (nI (6 * i))), (0, .ref m), (1, .int (nI i)), (2, .int (nI g))]) C dX7_reckon_4 rfl (by decide) rfl ?_
  refine k_aload_n C dX7_reckon_5 rfl 1 rfl ?_
  refine k_get (ci := 7) (k := 6) C fl_7_19 h_m rfl dX7_reckon_6 ?_
  refine k_iload_n C dX7_reckon_9 rfl 0 rfl ?_
  refine k_iald (v := fm (6 * i)) C 0 h_wm rfl (vp_in_nI (by omega) (by omega)) (by rw [nI_clamp (by omega)]) dX7_reckon_10 ?_
  refine k_val (y := nI 11) hm0 ?_
  refine k_istore (lv' := [(4, .int (nI 11)), (3, .int (nI (6 * i))), (0, .ref m), (1, .int (nI i)), (2, .int (nI g))]) C dX7_reckon_11 (by decide) rfl ?_
  refine k_aload_n C dX7_reckon_13 rfl 2 rfl ?_
  refine k_get (ci := 7) (k := 6) C fl_7_19 h_m rfl dX7_reckon_14 ?_
  refine k_iload_n C dX7_reckon_17 rfl 1 rfl ?_
  refine k_iconst (v := nI 1) C dX7_reckon_18 rfl ?_
  refine k_iadd C dX7_reckon_19 ?_
  refine k_val (y := nI ((6 * i) + 1)) (nI_add (6 * i) 1) ?_
  refine k_iald (v := fm ((6 * i) + 1)) C 0 h_wm rfl (vp_in_nI (by omega) (by omega)) (by rw [nI_clamp (by omega)]) dX7_reckon_20 ?_
  refine k_val (y := nI a) hm1 ?_
  refine k_istore (lv' := [(5, .int (nI a)), (4, .int (nI 11)), (3, .int (nI (6 * i))), (0, .ref m), (1, .int (nI i)), (2, .int (nI g))]) C dX7_reckon_21 (by decide) rfl ?_
  refine k_aload_n C dX7_reckon_23 rfl 3 rfl ?_
  refine k_get (ci := 7) (k := 6) C fl_7_19 h_m rfl dX7_reckon_24 ?_
  refine k_iload_n C dX7_reckon_27 rfl 2 rfl ?_
  refine k_iconst (v := nI 2) C dX7_reckon_28 rfl ?_
  refine k_iadd C dX7_reckon_29 ?_
  refine k_val (y := nI ((6 * i) + 2)) (nI_add (6 * i) 2) ?_
  refine k_iald (v := fm ((6 * i) + 2)) C 0 h_wm rfl (vp_in_nI (by omega) (by omega)) (by rw [nI_clamp (by omega)]) dX7_reckon_30 ?_
  refine k_val (y := st) hm2 ?_
  refine k_istore (lv' := [(6, .int st), (5, .int (nI a)), (4, .int (nI 11)), (3, .int (nI (6 * i))), (0, .ref m), (1, .int (nI i)), (2, .int (nI g))]) C dX7_reckon_31 (by decide) rfl ?_
  refine k_iload_n C dX7_reckon_33 rfl 5 rfl ?_
  refine k_iload_n C dX7_reckon_34 rfl 6 rfl ?_
  refine k_callS_pi C ms_7_140 (c_X7_table   ) rfl rfl (by simp [Value.category]) ⟨Nat.le_of_ble_eq_true rfl, Nat.le_of_ble_eq_true rfl⟩ ⟨(by decide), (by decide)⟩ dX7_reckon_35 ?_
  refine k_istore (lv' := [(7, .int (nI (4 * i + g))), (6, .int st), (5, .int (nI a)), (4, .int (nI 11)), (3, .int (nI (6 * i))), (0, .ref m), (1, .int (nI i)), (2, .int (nI g))]) C dX7_reckon_38 (by decide) rfl ?_
  refine k_aload_n C dX7_reckon_40 rfl 5 rfl ?_
  refine k_get (ci := 7) (k := 9) C fl_7_26 h_m rfl dX7_reckon_41 ?_
  refine k_iload C dX7_reckon_44 0 rfl ?_
  refine k_iconst (v := nI 0) C dX7_reckon_46 rfl ?_
  refine k_iast (f' := upd fc (4 * i + g) (nI 0)) C 0 h_wc rfl (vp_in_nI (by omega) (by omega)) (by rw [nI_clamp (by omega)]) dX7_reckon_47 ?_
  have hS0 : ∀ j z, j < i → z < 4 → MTb (S j z) (upd fc (4 * i + g) (nI 0) (4 * j + z)) (tbl fr (4 * j + z)) := fun j z hj hz => (hS j z hj hz).up (by omega)
  have hc0 : upd fc (4 * i + g) (nI 0) (4 * i + g) = 0 := upd_at
  refine k_iload C dX7_reckon_48 3 rfl ?_
  refine k_if_ne (tgt := 62) C dX7_reckon_50 (by decide) (fun c50 => ?_) (fun c50 => ?_)
  · skip
    have b50 : ¬ 11 = 0 := fun z => c50 ((nI_eq (a := 11) (b := 0) (by omega) (by omega)).mpr z)
    refine k_iload C dX7_reckon_62 3 rfl ?_
    refine k_iconst (v := nI 1) C dX7_reckon_64 rfl ?_
    refine k_icmp_lt (tgt := 78) C dX7_reckon_65 (by decide) (fun c65 => ?_) (fun c65 => ?_)
    · exact absurd c65 (by decide)
    · skip
      have b65 : ¬ 11 < 1 := fun z => c65 ((nI_ltI (a := 11) (b := 1) (by omega) (by omega)).mpr z)
      refine k_iload C dX7_reckon_68 3 rfl ?_
      refine k_iconst (v := nI 4) C dX7_reckon_70 rfl ?_
      refine k_icmp_gt (tgt := 78) C dX7_reckon_71 (by decide) (fun c71 => ?_) (fun c71 => ?_)
      · skip
        have b71 : 4 < 11 := (nI_ltI (a := 4) (b := 11) (by omega) (by omega)).mp c71
        refine k_iconst (v := nI 0) C dX7_reckon_78 rfl ?_
        refine k_istore (lv' := [(8, .int (nI 0)), (7, .int (nI (4 * i + g))), (6, .int st), (5, .int (nI a)), (4, .int (nI 11)), (3, .int (nI (6 * i))), (0, .ref m), (1, .int (nI i)), (2, .int (nI g))]) C dX7_reckon_79 (by decide) rfl ?_
        refine k_iload C dX7_reckon_81 4 rfl ?_
        refine k_bipush (v := nI 12) C dX7_reckon_83 rfl ?_
        refine k_icmp_ne (tgt := 99) C dX7_reckon_85 (by decide) (fun c85 => ?_) (fun c85 => ?_)
        · skip
          have b85 : ¬ 11 = 12 := fun z => c85 ((nI_eq (a := 11) (b := 12) (by omega) (by omega)).mpr z)
          refine k_iload C dX7_reckon_99 4 rfl ?_
          refine k_bipush (v := nI 13) C dX7_reckon_101 rfl ?_
          refine k_icmp_ne (tgt := 144) C dX7_reckon_103 (by decide) (fun c103 => ?_) (fun c103 => ?_)
          · skip
            have b103 : ¬ 11 = 13 := fun z => c103 ((nI_eq (a := 11) (b := 13) (by omega) (by omega)).mpr z)
            refine k_aload_n C dX7_reckon_144 rfl 6 rfl ?_
            refine k_iload C dX7_reckon_145 3 rfl ?_
            refine k_iload_n C dX7_reckon_147 rfl 8 rfl ?_
            have ne1 : nq m wc := gv_ne h_wc h_m (by simp)
            refine k_callV_pi C mv_7_148 (c_X7_isLong  ((gv_up_n ne1).trans h_m) gv_up_s (by omega) (by omega) (hS0 a g (by omega) (by omega))) ((gv_up_n ne1).trans h_m) rfl rfl (by simp [Value.category]) ⟨Nat.le_of_ble_eq_true rfl, Nat.le_of_ble_eq_true rfl⟩ ⟨(by decide), (by decide)⟩ dX7_reckon_148 ?_
            refine k_if_ne (tgt := 169) C dX7_reckon_151 (by decide) (fun c151 => ?_) (fun c151 => ?_)
            · skip
              have b151 : ((S a g).isNone) = true := bI_n.mp c151
              refine k_iconst (v := nI 1) C dX7_reckon_169 rfl ?_
              refine k_goto (tgt := 174) C dX7_reckon_170 (by decide) ?_
              refine k_istore (lv' := [(9, .int (nI 1)), (8, .int (nI 0)), (7, .int (nI (4 * i + g))), (6, .int st), (5, .int (nI a)), (4, .int (nI 11)), (3, .int (nI (6 * i))), (0, .ref m), (1, .int (nI i)), (2, .int (nI g))]) C dX7_reckon_174 (by decide) rfl ?_
              refine k_iload C dX7_reckon_176 0 rfl ?_
              refine k_if_eq (tgt := 191) C dX7_reckon_178 (by decide) (fun c178 => ?_) (fun c178 => ?_)
              · exact absurd c178 (by decide)
              · skip
                have b178 : ¬ 1 = 0 := fun z => c178 ((nI_eq (a := 1) (b := 0) (by omega) (by omega)).mpr z)
                refine k_aload_n C dX7_reckon_181 rfl 7 rfl ?_
                refine k_get (ci := 7) (k := 9) C fl_7_26 ((gv_up_n ne1).trans h_m) rfl dX7_reckon_182 ?_
                refine k_iload C dX7_reckon_185 2 rfl ?_
                refine k_bipush (v := (-2 : Int32)) C dX7_reckon_187 (by decide) ?_
                refine k_iast (f' := upd (upd fc (4 * i + g) (nI 0)) (4 * i + g) (-2 : Int32)) C 0 gv_up_s rfl (vp_in_nI (by omega) (by omega)) (by rw [nI_clamp (by omega)]) dX7_reckon_189 ?_
                refine k_view (V1 := gv_up V wc (.inl (cI, 120, .inl (upd (upd fc (4 * i + g) (nI 0)) (4 * i + g) (-2 : Int32))))) gv_uu ?_
                have ne2 : nq wr wc := gv_ne h_wc h_wr (by simp)
                refine k_view (V1 := gv_up (gv_up V wc (.inl (cI, 120, .inl (upd (upd fc (4 * i + g) (nI 0)) (4 * i + g) (-2 : Int32))))) wr (.inl (cI, 57600, .inl fr))) (gv_id ((gv_up_n ne2).trans h_wr)).symm ?_
                have ne3 : nq wn wc := gv_ne h_wc h_wn (by simp)
                have ne4 : nq wn wr := gv_ne h_wr h_wn (by simp)
                refine k_view (V1 := gv_up (gv_up (gv_up V wc (.inl (cI, 120, .inl (upd (upd fc (4 * i + g) (nI 0)) (4 * i + g) (-2 : Int32))))) wr (.inl (cI, 57600, .inl fr))) wn (.inl (cI, 6, .inl fw))) (gv_id ((gv_up_n ne4).trans ((gv_up_n ne3).trans h_wn))).symm ?_
                have ne5 : nq wv wc := gv_ne h_wc h_wv (by simp)
                have ne6 : nq wv wr := gv_ne h_wr h_wv (by simp)
                have ne7 : nq wv wn := gv_ne h_wn h_wv (by simp)
                refine k_view (V1 := gv_up (gv_up (gv_up (gv_up V wc (.inl (cI, 120, .inl (upd (upd fc (4 * i + g) (nI 0)) (4 * i + g) (-2 : Int32))))) wr (.inl (cI, 57600, .inl fr))) wn (.inl (cI, 6, .inl fw))) wv (.inl (cI, 30, .inl fv))) (gv_id ((gv_up_n ne7).trans ((gv_up_n ne6).trans ((gv_up_n ne5).trans h_wv)))).symm ?_
                have ne8 : nq wk wc := gv_ne h_wc h_wk (by simp)
                have ne9 : nq wk wr := gv_ne h_wr h_wk (by simp)
                have ne10 : nq wk wn := gv_ne h_wn h_wk (by simp)
                have ne11 : nq wk wv := gv_ne h_wv h_wk (by simp)
                refine k_view (V1 := gv_up (gv_up (gv_up (gv_up (gv_up V wc (.inl (cI, 120, .inl (upd (upd fc (4 * i + g) (nI 0)) (4 * i + g) (-2 : Int32))))) wr (.inl (cI, 57600, .inl fr))) wn (.inl (cI, 6, .inl fw))) wv (.inl (cI, 30, .inl fv))) wk (.inl (cI, 80, .inl fk))) (gv_id ((gv_up_n ne11).trans ((gv_up_n ne10).trans ((gv_up_n ne9).trans ((gv_up_n ne8).trans h_wk))))).symm ?_
                have ne12 : nq wp wc := gv_ne h_wc h_wp (by simp)
                have ne13 : nq wp wr := gv_ne h_wr h_wp (by simp)
                have ne14 : nq wp wn := gv_ne h_wn h_wp (by simp)
                have ne15 : nq wp wv := gv_ne h_wv h_wp (by simp)
                refine k_view (V1 := gv_up (gv_up (gv_up (gv_up (gv_up (gv_up V wc (.inl (cI, 120, .inl (upd (upd fc (4 * i + g) (nI 0)) (4 * i + g) (-2 : Int32))))) wr (.inl (cI, 57600, .inl fr))) wn (.inl (cI, 6, .inl fw))) wv (.inl (cI, 30, .inl fv))) wk (.inl (cI, 80, .inl fk))) wp (.inl (cI, 80, .inl fp))) (gv_id ((gv_up_n (Ne.symm hwkp)).trans ((gv_up_n ne15).trans ((gv_up_n ne14).trans ((gv_up_n ne13).trans ((gv_up_n ne12).trans h_wp)))))).symm ?_
                refine k_view (V1 := gv_up (gv_up (gv_up (gv_up (gv_up (gv_up V wr (.inl (cI, 57600, .inl fr))) wc (.inl (cI, 120, .inl (upd (upd fc (4 * i + g) (nI 0)) (4 * i + g) (-2 : Int32))))) wn (.inl (cI, 6, .inl fw))) wv (.inl (cI, 30, .inl fv))) wk (.inl (cI, 80, .inl fk))) wp (.inl (cI, 80, .inl fp))) (congrArg (fun W => gv_up W wp (.inl (cI, 80, .inl fp))) (congrArg (fun W => gv_up W wk (.inl (cI, 80, .inl fk))) (congrArg (fun W => gv_up W wv (.inl (cI, 30, .inl fv))) (congrArg (fun W => gv_up W wn (.inl (cI, 6, .inl fw))) (gv_uc ne2))))) ?_
                exact k_vret C zr zlk ⟨fr, upd (upd fc (4 * i + g) (nI 0)) (4 * i + g) (-2 : Int32), fw, fv, fk, fp, rfl, rfl, (MTb.no (by rw [isN0 b151]; rfl) upd_at), (Kp.up.tr Kp.up)⟩ (Nat.le_refl _) (Nat.le_refl _) dX7_reckon_190
            · skip
              have b151 : ((S a g).isNone) = false := bI_0.mp c151
              obtain ⟨A, eA⟩ := isN b151
              obtain ⟨hcA, hA⟩ := (hS0 a g ha (by omega)).sm eA
              refine k_iload C dX7_reckon_154 0 rfl ?_
              refine k_if_eq (tgt := 173) C dX7_reckon_156 (by decide) (fun c156 => ?_) (fun c156 => ?_)
              · skip
                have b156 : 0 = 0 := (nI_eq (a := 0) (b := 0) (by omega) (by omega)).mp c156
                refine k_iconst (v := nI 0) C dX7_reckon_173 rfl ?_
                refine k_istore (lv' := [(9, .int (nI 0)), (8, .int (nI 0)), (7, .int (nI (4 * i + g))), (6, .int st), (5, .int (nI a)), (4, .int (nI 11)), (3, .int (nI (6 * i))), (0, .ref m), (1, .int (nI i)), (2, .int (nI g))]) C dX7_reckon_174 (by decide) rfl ?_
                refine k_iload C dX7_reckon_176 0 rfl ?_
                refine k_if_eq (tgt := 191) C dX7_reckon_178 (by decide) (fun c178 => ?_) (fun c178 => ?_)
                · skip
                  have b178 : 0 = 0 := (nI_eq (a := 0) (b := 0) (by omega) (by omega)).mp c178
                  refine k_iload C dX7_reckon_191 4 rfl ?_
                  refine k_iload_n C dX7_reckon_193 rfl 9 rfl ?_
                  refine k_callS_pi C ms_7_140 (c_X7_table   ) rfl rfl (by simp [Value.category]) ⟨Nat.le_of_ble_eq_true rfl, Nat.le_of_ble_eq_true rfl⟩ ⟨(by decide), (by decide)⟩ dX7_reckon_194 ?_
                  refine k_istore (lv' := [(10, .int (nI (4 * a + g))), (9, .int (nI 0)), (8, .int (nI 0)), (7, .int (nI (4 * i + g))), (6, .int st), (5, .int (nI a)), (4, .int (nI 11)), (3, .int (nI (6 * i))), (0, .ref m), (1, .int (nI i)), (2, .int (nI g))]) C dX7_reckon_197 (by decide) rfl ?_
                  refine k_iload C dX7_reckon_199 6 rfl ?_
                  refine k_tableIn (tgt := 389) C dX7_reckon_201 (by decide) (by decide) rfl (by decide) ?_
                  refine k_aload_n C dX7_reckon_389 rfl 8 rfl ?_
                  refine k_iload C dX7_reckon_390 3 rfl ?_
                  refine k_iload C dX7_reckon_392 0 rfl ?_
                  refine k_iload_n C dX7_reckon_394 rfl 7 rfl ?_
                  have ne16 : nq wr wc := gv_ne h_wc h_wr (by simp)
                  have ne17 : nq wn wc := gv_ne h_wc h_wn (by simp)
                  have ne18 : nq wv wc := gv_ne h_wc h_wv (by simp)
                  have ne19 : nq wa wc := gv_ne h_wc h_wa (by simp)
                  have ne20 : nq wm wc := gv_ne h_wc h_wm (by simp)
                  refine k_callV C mv_7_166 (c_X7_reckonGroup  ((gv_up_n ne1).trans h_m) ((gv_up_n ne16).trans h_wr) gv_up_s ((gv_up_n ne17).trans h_wn) ((gv_up_n ne18).trans h_wv) ((gv_up_n ne19).trans h_wa) ((gv_up_n ne20).trans h_wm) (by first | assumption | omega) (by first | assumption | omega) (by first | assumption | omega) (by first | assumption | omega) (by first | assumption | omega) (by first | assumption | omega) (by first | assumption | omega) (by first | assumption | omega) (by first | assumption | omega) (by first | assumption | omega) (by first | assumption | omega) (by first | assumption | omega) (by first | assumption | omega) (by first | assumption | omega) (by first | assumption | omega)) ((gv_up_n ne1).trans h_m) rfl rfl (by simp [Value.category]) ⟨Nat.le_of_ble_eq_true rfl, Nat.le_of_ble_eq_true rfl⟩ ⟨(by decide), (by decide)⟩ dX7_reckon_395 (fun zv zV zh => ?_)
                  obtain ⟨fr1_w21, fc1_w21, fw1_w21, fv1_w21, rfl, rfl, hR1_w21, hK1_w21⟩ := zh
                  refine k_pc (pc' := 398) (st' := []) rfl rfl ?_
                  refine k_view (V1 := gv_up (gv_up (gv_up (gv_up V wc (.inl (cI, 120, .inl fc1_w21))) wr (.inl (cI, 57600, .inl fr1_w21))) wn (.inl (cI, 6, .inl fw1_w21))) wv (.inl (cI, 30, .inl fv1_w21))) (congrArg (fun W => gv_up W wv (.inl (cI, 30, .inl fv1_w21))) (congrArg (fun W => gv_up W wn (.inl (cI, 6, .inl fw1_w21))) ((gv_uc (Ne.symm ne16)).trans (congrArg (fun W => gv_up W wr (.inl (cI, 57600, .inl fr1_w21))) gv_uu)))) ?_
                  refine k_goto (tgt := 454) C dX7_reckon_398 (by decide) ?_
                  have ne22 : nq wk wc := gv_ne h_wc h_wk (by simp)
                  have ne23 : nq wk wr := gv_ne h_wr h_wk (by simp)
                  have ne24 : nq wk wn := gv_ne h_wn h_wk (by simp)
                  have ne25 : nq wk wv := gv_ne h_wv h_wk (by simp)
                  refine k_view (V1 := gv_up (gv_up (gv_up (gv_up (gv_up V wc (.inl (cI, 120, .inl fc1_w21))) wr (.inl (cI, 57600, .inl fr1_w21))) wn (.inl (cI, 6, .inl fw1_w21))) wv (.inl (cI, 30, .inl fv1_w21))) wk (.inl (cI, 80, .inl fk))) (gv_id ((gv_up_n ne25).trans ((gv_up_n ne24).trans ((gv_up_n ne23).trans ((gv_up_n ne22).trans h_wk))))).symm ?_
                  have ne26 : nq wp wc := gv_ne h_wc h_wp (by simp)
                  have ne27 : nq wp wr := gv_ne h_wr h_wp (by simp)
                  have ne28 : nq wp wn := gv_ne h_wn h_wp (by simp)
                  have ne29 : nq wp wv := gv_ne h_wv h_wp (by simp)
                  refine k_view (V1 := gv_up (gv_up (gv_up (gv_up (gv_up (gv_up V wc (.inl (cI, 120, .inl fc1_w21))) wr (.inl (cI, 57600, .inl fr1_w21))) wn (.inl (cI, 6, .inl fw1_w21))) wv (.inl (cI, 30, .inl fv1_w21))) wk (.inl (cI, 80, .inl fk))) wp (.inl (cI, 80, .inl fp))) (gv_id ((gv_up_n (Ne.symm hwkp)).trans ((gv_up_n ne29).trans ((gv_up_n ne28).trans ((gv_up_n ne27).trans ((gv_up_n ne26).trans h_wp)))))).symm ?_
                  refine k_view (V1 := gv_up (gv_up (gv_up (gv_up (gv_up (gv_up V wr (.inl (cI, 57600, .inl fr1_w21))) wc (.inl (cI, 120, .inl fc1_w21))) wn (.inl (cI, 6, .inl fw1_w21))) wv (.inl (cI, 30, .inl fv1_w21))) wk (.inl (cI, 80, .inl fk))) wp (.inl (cI, 80, .inl fp))) (congrArg (fun W => gv_up W wp (.inl (cI, 80, .inl fp))) (congrArg (fun W => gv_up W wk (.inl (cI, 80, .inl fk))) (congrArg (fun W => gv_up W wv (.inl (cI, 30, .inl fv1_w21))) (congrArg (fun W => gv_up W wn (.inl (cI, 6, .inl fw1_w21))) (gv_uc ne16))))) ?_
                  exact k_vret C zr zlk ⟨fr1_w21, fc1_w21, fw1_w21, fv1_w21, fk, fp, rfl, rfl, (by rw [eA]; exact (MRep.tb hR1_w21)), (Kp.up.tr hK1_w21)⟩ (Nat.le_refl _) (Nat.le_refl _) dX7_reckon_454
                · exact absurd c178 (by decide)
              · exact absurd c156 (by decide)
          · exact absurd c103 (by decide)
        · exact absurd c85 (by decide)
      · exact absurd c71 (by decide)
  · exact absurd c50 (by decide)
set_option maxHeartbeats 4000000 in
set_option maxRecDepth 100000 in
theorem c_reckon12 {zl : Launch} {D : va_G} {cI cN cR : ClassId} {base : Nat} {V : gv_V} {m wt wa wv wm wr wc wn ws wk wp nt ne nn sh : Nat} {kn : Int32} {ft fa fv fm fr fc fw fk fp : Nat → Int32} {i g a z : Nat} {S : Nat → Nat → Option (List Row)}  (h_m : V m = some (.inr (7, [.int (nI nt), .ref wt, .int (nI ne), .ref wa, .ref wv, .int (nI nn), .ref wm, .int kn, .ref wr, .ref wc, .ref wn, .int (nI sh), .ref ws, .ref wk, .ref wp]))) (h_wr : V wr = some (.inl (cI, 57600, .inl fr))) (h_wc : V wc = some (.inl (cI, 120, .inl fc))) (h_wn : V wn = some (.inl (cI, 6, .inl fw))) (h_wv : V wv = some (.inl (cI, 30, .inl fv))) (h_wk : V wk = some (.inl (cI, 80, .inl fk))) (h_wp : V wp = some (.inl (cI, 80, .inl fp))) (h_wa : V wa = some (.inl (cI, 90, .inl fa))) (h_wm : V wm = some (.inl (cI, 180, .inl fm))) (h_wt : V wt = some (.inl (cI, 240, .inl ft))) (hi : i < 30) (hg : g < 4) (hm0 : fm (6 * i) = nI 12) (hwkp : nq wk wp) (hm1 : fm (6 * i + 1) = nI a) (ha : a < i) (hm2 : fm (6 * i + 2) = nI z) (hz : z < 4) (hS : ∀ j z1, j < i → z1 < 4 → MTb (S j z1) (fc (4 * j + z1)) (tbl fr (4 * j + z1))) : ct zl D [(cI, .int), (cN, .object "AlgebraTree$Node"), (cR, .object "AlgebraTree$Rows")] base yX7_reckon cX7_reckon 11 none 5 0 0 [.ref m, .int (nI i), .int (nI g)] V (fun zv zV => ∃ fr1 : Nat → Int32, ∃ fc1 : Nat → Int32, ∃ fw1 : Nat → Int32, ∃ fv1 : Nat → Int32, ∃ fk1 : Nat → Int32, ∃ fp1 : Nat → Int32, zv = none ∧ zV = gv_up (gv_up (gv_up (gv_up (gv_up (gv_up V wr (.inl (cI, 57600, .inl fr1))) wc (.inl (cI, 120, .inl fc1))) wn (.inl (cI, 6, .inl fw1))) wv (.inl (cI, 30, .inl fv1))) wk (.inl (cI, 80, .inl fk1))) wp (.inl (cI, 80, .inl fp1)) ∧ (MTb ((S a z).bind (fun A => cap (A))) (fc1 (4 * i + g)) (tbl fr1 (4 * i + g))) ∧ (Kp (4 * i + g) fc fr fc1 fr1)) := by
  refine ct_of "AlgebraTreeModel" rfl (by decide) (Nat.le_of_ble_eq_true rfl) ?_
  intro zp ze zs zm zargs zbelow zmeth zc C zr zlk znm
  refine k_pc (pc' := 0) (st' := []) rfl rfl ?_
  show K zp zl ze (gv_rm 5 0 0) zs zm zargs zbelow zmeth zc D base 11 (gv_E D [(cI, .int), (cN, .object "AlgebraTree$Node"), (cR, .object "AlgebraTree$Rows")] base zbelow zargs zs 0 0 (fun zv zV => ∃ fr1 : Nat → Int32, ∃ fc1 : Nat → Int32, ∃ fw1 : Nat → Int32, ∃ fv1 : Nat → Int32, ∃ fk1 : Nat → Int32, ∃ fp1 : Nat → Int32, zv = none ∧ zV = gv_up (gv_up (gv_up (gv_up (gv_up (gv_up V wr (.inl (cI, 57600, .inl fr1))) wc (.inl (cI, 120, .inl fc1))) wn (.inl (cI, 6, .inl fw1))) wv (.inl (cI, 30, .inl fv1))) wk (.inl (cI, 80, .inl fk1))) wp (.inl (cI, 80, .inl fp1)) ∧ (MTb ((S a z).bind (fun A => cap (A))) (fc1 (4 * i + g)) (tbl fr1 (4 * i + g))) ∧ (Kp (4 * i + g) fc fr fc1 fr1))) V 0 0 [(0, .ref m), (1, .int (nI i)), (2, .int (nI g))] 0 []
  refine k_bipush (v := nI 6) C dX7_reckon_0 rfl ?_
  refine k_iload_n C dX7_reckon_2 rfl 1 rfl ?_
  refine k_imul C dX7_reckon_3 ?_
  refine k_val (y := nI (6 * i)) (pk_mul 6 i) ?_
  refine k_istore_n (lv' := [(3, .int (nI (6 * i))), (0, .ref m), (1, .int (nI i)), (2, .int (nI g))]) C dX7_reckon_4 rfl (by decide) rfl ?_
  refine k_aload_n C dX7_reckon_5 rfl 1 rfl ?_
  refine k_get (ci := 7) (k := 6) C fl_7_19 h_m rfl dX7_reckon_6 ?_
  refine k_iload_n C dX7_reckon_9 rfl 0 rfl ?_
  refine k_iald (v := fm (6 * i)) C 0 h_wm rfl (vp_in_nI (by omega) (by omega)) (by rw [nI_clamp (by omega)]) dX7_reckon_10 ?_
  refine k_val (y := nI 12) hm0 ?_
  refine k_istore (lv' := [(4, .int (nI 12)), (3, .int (nI (6 * i))), (0, .ref m), (1, .int (nI i)), (2, .int (nI g))]) C dX7_reckon_11 (by decide) rfl ?_
  refine k_aload_n C dX7_reckon_13 rfl 2 rfl ?_
  refine k_get (ci := 7) (k := 6) C fl_7_19 h_m rfl dX7_reckon_14 ?_
  refine k_iload_n C dX7_reckon_17 rfl 1 rfl ?_
  refine k_iconst (v := nI 1) C dX7_reckon_18 rfl ?_
  refine k_iadd C dX7_reckon_19 ?_
  refine k_val (y := nI ((6 * i) + 1)) (nI_add (6 * i) 1) ?_
  refine k_iald (v := fm ((6 * i) + 1)) C 0 h_wm rfl (vp_in_nI (by omega) (by omega)) (by rw [nI_clamp (by omega)]) dX7_reckon_20 ?_
  refine k_val (y := nI a) hm1 ?_
  refine k_istore (lv' := [(5, .int (nI a)), (4, .int (nI 12)), (3, .int (nI (6 * i))), (0, .ref m), (1, .int (nI i)), (2, .int (nI g))]) C dX7_reckon_21 (by decide) rfl ?_
  refine k_aload_n C dX7_reckon_23 rfl 3 rfl ?_
  refine k_get (ci := 7) (k := 6) C fl_7_19 h_m rfl dX7_reckon_24 ?_
  refine k_iload_n C dX7_reckon_27 rfl 2 rfl ?_
  refine k_iconst (v := nI 2) C dX7_reckon_28 rfl ?_
  refine k_iadd C dX7_reckon_29 ?_
  refine k_val (y := nI ((6 * i) + 2)) (nI_add (6 * i) 2) ?_
  refine k_iald (v := fm ((6 * i) + 2)) C 0 h_wm rfl (vp_in_nI (by omega) (by omega)) (by rw [nI_clamp (by omega)]) dX7_reckon_30 ?_
  refine k_val (y := nI z) hm2 ?_
  refine k_istore (lv' := [(6, .int (nI z)), (5, .int (nI a)), (4, .int (nI 12)), (3, .int (nI (6 * i))), (0, .ref m), (1, .int (nI i)), (2, .int (nI g))]) C dX7_reckon_31 (by decide) rfl ?_
  refine k_iload_n C dX7_reckon_33 rfl 5 rfl ?_
  refine k_iload_n C dX7_reckon_34 rfl 6 rfl ?_
  refine k_callS_pi C ms_7_140 (c_X7_table   ) rfl rfl (by simp [Value.category]) ⟨Nat.le_of_ble_eq_true rfl, Nat.le_of_ble_eq_true rfl⟩ ⟨(by decide), (by decide)⟩ dX7_reckon_35 ?_
  refine k_istore (lv' := [(7, .int (nI (4 * i + g))), (6, .int (nI z)), (5, .int (nI a)), (4, .int (nI 12)), (3, .int (nI (6 * i))), (0, .ref m), (1, .int (nI i)), (2, .int (nI g))]) C dX7_reckon_38 (by decide) rfl ?_
  refine k_aload_n C dX7_reckon_40 rfl 5 rfl ?_
  refine k_get (ci := 7) (k := 9) C fl_7_26 h_m rfl dX7_reckon_41 ?_
  refine k_iload C dX7_reckon_44 0 rfl ?_
  refine k_iconst (v := nI 0) C dX7_reckon_46 rfl ?_
  refine k_iast (f' := upd fc (4 * i + g) (nI 0)) C 0 h_wc rfl (vp_in_nI (by omega) (by omega)) (by rw [nI_clamp (by omega)]) dX7_reckon_47 ?_
  have hS0 : ∀ j z, j < i → z < 4 → MTb (S j z) (upd fc (4 * i + g) (nI 0) (4 * j + z)) (tbl fr (4 * j + z)) := fun j z hj hz => (hS j z hj hz).up (by omega)
  have hc0 : upd fc (4 * i + g) (nI 0) (4 * i + g) = 0 := upd_at
  refine k_iload C dX7_reckon_48 3 rfl ?_
  refine k_if_ne (tgt := 62) C dX7_reckon_50 (by decide) (fun c50 => ?_) (fun c50 => ?_)
  · skip
    have b50 : ¬ 12 = 0 := fun z => c50 ((nI_eq (a := 12) (b := 0) (by omega) (by omega)).mpr z)
    refine k_iload C dX7_reckon_62 3 rfl ?_
    refine k_iconst (v := nI 1) C dX7_reckon_64 rfl ?_
    refine k_icmp_lt (tgt := 78) C dX7_reckon_65 (by decide) (fun c65 => ?_) (fun c65 => ?_)
    · exact absurd c65 (by decide)
    · skip
      have b65 : ¬ 12 < 1 := fun z => c65 ((nI_ltI (a := 12) (b := 1) (by omega) (by omega)).mpr z)
      refine k_iload C dX7_reckon_68 3 rfl ?_
      refine k_iconst (v := nI 4) C dX7_reckon_70 rfl ?_
      refine k_icmp_gt (tgt := 78) C dX7_reckon_71 (by decide) (fun c71 => ?_) (fun c71 => ?_)
      · skip
        have b71 : 4 < 12 := (nI_ltI (a := 4) (b := 12) (by omega) (by omega)).mp c71
        refine k_iconst (v := nI 0) C dX7_reckon_78 rfl ?_
        refine k_istore (lv' := [(8, .int (nI 0)), (7, .int (nI (4 * i + g))), (6, .int (nI z)), (5, .int (nI a)), (4, .int (nI 12)), (3, .int (nI (6 * i))), (0, .ref m), (1, .int (nI i)), (2, .int (nI g))]) C dX7_reckon_79 (by decide) rfl ?_
        refine k_iload C dX7_reckon_81 4 rfl ?_
        refine k_bipush (v := nI 12) C dX7_reckon_83 rfl ?_
        refine k_icmp_ne (tgt := 99) C dX7_reckon_85 (by decide) (fun c85 => ?_) (fun c85 => ?_)
        · exact absurd c85 (by decide)
        · skip
          have b85 : 12 = 12 := (nI_eq (a := 12) (b := 12) (by omega) (by omega)).mp c85
          refine k_aload_n C dX7_reckon_88 rfl 6 rfl ?_
          refine k_iload C dX7_reckon_89 3 rfl ?_
          refine k_iload C dX7_reckon_91 2 rfl ?_
          have ne1 : nq m wc := gv_ne h_wc h_m (by simp)
          refine k_callV_pi C mv_7_148 (c_X7_isLong  ((gv_up_n ne1).trans h_m) gv_up_s (by omega) (by omega) (hS0 a z (by omega) (by omega))) ((gv_up_n ne1).trans h_m) rfl rfl (by simp [Value.category]) ⟨Nat.le_of_ble_eq_true rfl, Nat.le_of_ble_eq_true rfl⟩ ⟨(by decide), (by decide)⟩ dX7_reckon_93 ?_
          refine k_goto (tgt := 174) C dX7_reckon_96 (by decide) ?_
          refine k_istore (lv' := [(9, .int (bI (S a z).isNone)), (8, .int (nI 0)), (7, .int (nI (4 * i + g))), (6, .int (nI z)), (5, .int (nI a)), (4, .int (nI 12)), (3, .int (nI (6 * i))), (0, .ref m), (1, .int (nI i)), (2, .int (nI g))]) C dX7_reckon_174 (by decide) rfl ?_
          refine k_iload C dX7_reckon_176 0 rfl ?_
          refine k_if_eq (tgt := 191) C dX7_reckon_178 (by decide) (fun c178 => ?_) (fun c178 => ?_)
          · skip
            have b178 : ((S a z).isNone) = false := bI_0.mp c178
            obtain ⟨A, eA⟩ := isN b178
            obtain ⟨hcA, hA⟩ := (hS0 a z ha (by omega)).sm eA
            refine k_iload C dX7_reckon_191 4 rfl ?_
            refine k_iload_n C dX7_reckon_193 rfl 9 rfl ?_
            refine k_callS_pi C ms_7_140 (c_X7_table   ) rfl rfl (by simp [Value.category]) ⟨Nat.le_of_ble_eq_true rfl, Nat.le_of_ble_eq_true rfl⟩ ⟨(by decide), (by decide)⟩ dX7_reckon_194 ?_
            refine k_istore (lv' := [(10, .int (nI (4 * a + g))), (9, .int (bI (S a z).isNone)), (8, .int (nI 0)), (7, .int (nI (4 * i + g))), (6, .int (nI z)), (5, .int (nI a)), (4, .int (nI 12)), (3, .int (nI (6 * i))), (0, .ref m), (1, .int (nI i)), (2, .int (nI g))]) C dX7_reckon_197 (by decide) rfl ?_
            refine k_iload C dX7_reckon_199 6 rfl ?_
            refine k_tableIn (tgt := 401) C dX7_reckon_201 (by decide) (by decide) rfl (by decide) ?_
            refine k_aload_n C dX7_reckon_401 rfl 8 rfl ?_
            refine k_iload C dX7_reckon_402 3 rfl ?_
            refine k_iload C dX7_reckon_404 5 rfl ?_
            refine k_iload C dX7_reckon_406 4 rfl ?_
            refine k_callS_pi C ms_7_140 (c_X7_table   ) rfl rfl (by simp [Value.category]) ⟨Nat.le_of_ble_eq_true rfl, Nat.le_of_ble_eq_true rfl⟩ ⟨(by decide), (by decide)⟩ dX7_reckon_408 ?_
            refine k_bipush (v := nI 12) C dX7_reckon_411 rfl ?_
            refine k_iconst (v := nI 0) C dX7_reckon_413 rfl ?_
            refine k_iconst (v := nI 0) C dX7_reckon_414 rfl ?_
            have ne2 : nq wr wc := gv_ne h_wc h_wr (by simp)
            have ne3 : nq wn wc := gv_ne h_wc h_wn (by simp)
            refine k_callV C mv_7_155 (c_each12  ((gv_up_n ne1).trans h_m) ((gv_up_n ne2).trans h_wr) gv_up_s ((gv_up_n ne3).trans h_wn) (by first | assumption | omega) (by first | assumption | omega) (by first | assumption | omega) (by first | assumption | omega) (by first | assumption | omega) (MRep.nil hc0)) ((gv_up_n ne1).trans h_m) rfl rfl (by simp [Value.category]) ⟨Nat.le_of_ble_eq_true rfl, Nat.le_of_ble_eq_true rfl⟩ ⟨(by decide), (by decide)⟩ dX7_reckon_415 (fun zv zV zh => ?_)
            obtain ⟨fr1_w4, fc1_w4, fw1_w4, rfl, rfl, hR1_w4, hK1_w4⟩ := zh
            refine k_pc (pc' := 418) (st' := []) rfl rfl ?_
            refine k_view (V1 := gv_up (gv_up (gv_up V wc (.inl (cI, 120, .inl fc1_w4))) wr (.inl (cI, 57600, .inl fr1_w4))) wn (.inl (cI, 6, .inl fw1_w4))) (congrArg (fun W => gv_up W wn (.inl (cI, 6, .inl fw1_w4))) ((gv_uc (Ne.symm ne2)).trans (congrArg (fun W => gv_up W wr (.inl (cI, 57600, .inl fr1_w4))) gv_uu))) ?_
            refine k_goto (tgt := 454) C dX7_reckon_418 (by decide) ?_
            have ne5 : nq wv wc := gv_ne h_wc h_wv (by simp)
            have ne6 : nq wv wr := gv_ne h_wr h_wv (by simp)
            have ne7 : nq wv wn := gv_ne h_wn h_wv (by simp)
            refine k_view (V1 := gv_up (gv_up (gv_up (gv_up V wc (.inl (cI, 120, .inl fc1_w4))) wr (.inl (cI, 57600, .inl fr1_w4))) wn (.inl (cI, 6, .inl fw1_w4))) wv (.inl (cI, 30, .inl fv))) (gv_id ((gv_up_n ne7).trans ((gv_up_n ne6).trans ((gv_up_n ne5).trans h_wv)))).symm ?_
            have ne8 : nq wk wc := gv_ne h_wc h_wk (by simp)
            have ne9 : nq wk wr := gv_ne h_wr h_wk (by simp)
            have ne10 : nq wk wn := gv_ne h_wn h_wk (by simp)
            have ne11 : nq wk wv := gv_ne h_wv h_wk (by simp)
            refine k_view (V1 := gv_up (gv_up (gv_up (gv_up (gv_up V wc (.inl (cI, 120, .inl fc1_w4))) wr (.inl (cI, 57600, .inl fr1_w4))) wn (.inl (cI, 6, .inl fw1_w4))) wv (.inl (cI, 30, .inl fv))) wk (.inl (cI, 80, .inl fk))) (gv_id ((gv_up_n ne11).trans ((gv_up_n ne10).trans ((gv_up_n ne9).trans ((gv_up_n ne8).trans h_wk))))).symm ?_
            have ne12 : nq wp wc := gv_ne h_wc h_wp (by simp)
            have ne13 : nq wp wr := gv_ne h_wr h_wp (by simp)
            have ne14 : nq wp wn := gv_ne h_wn h_wp (by simp)
            have ne15 : nq wp wv := gv_ne h_wv h_wp (by simp)
            refine k_view (V1 := gv_up (gv_up (gv_up (gv_up (gv_up (gv_up V wc (.inl (cI, 120, .inl fc1_w4))) wr (.inl (cI, 57600, .inl fr1_w4))) wn (.inl (cI, 6, .inl fw1_w4))) wv (.inl (cI, 30, .inl fv))) wk (.inl (cI, 80, .inl fk))) wp (.inl (cI, 80, .inl fp))) (gv_id ((gv_up_n (Ne.symm hwkp)).trans ((gv_up_n ne15).trans ((gv_up_n ne14).trans ((gv_up_n ne13).trans ((gv_up_n ne12).trans h_wp)))))).symm ?_
            refine k_view (V1 := gv_up (gv_up (gv_up (gv_up (gv_up (gv_up V wr (.inl (cI, 57600, .inl fr1_w4))) wc (.inl (cI, 120, .inl fc1_w4))) wn (.inl (cI, 6, .inl fw1_w4))) wv (.inl (cI, 30, .inl fv))) wk (.inl (cI, 80, .inl fk))) wp (.inl (cI, 80, .inl fp))) (congrArg (fun W => gv_up W wp (.inl (cI, 80, .inl fp))) (congrArg (fun W => gv_up W wk (.inl (cI, 80, .inl fk))) (congrArg (fun W => gv_up W wv (.inl (cI, 30, .inl fv))) (congrArg (fun W => gv_up W wn (.inl (cI, 6, .inl fw1_w4))) (gv_uc ne2))))) ?_
            exact k_vret C zr zlk ⟨fr1_w4, fc1_w4, fw1_w4, fv, fk, fp, rfl, rfl, (by rw [eA]; exact (MRep.tb hR1_w4)), (Kp.up.tr hK1_w4)⟩ (Nat.le_refl _) (Nat.le_refl _) dX7_reckon_454
          · skip
            have b178 : ((S a z).isNone) = true := bI_n.mp c178
            refine k_aload_n C dX7_reckon_181 rfl 7 rfl ?_
            refine k_get (ci := 7) (k := 9) C fl_7_26 ((gv_up_n ne1).trans h_m) rfl dX7_reckon_182 ?_
            refine k_iload C dX7_reckon_185 2 rfl ?_
            refine k_bipush (v := (-2 : Int32)) C dX7_reckon_187 (by decide) ?_
            refine k_iast (f' := upd (upd fc (4 * i + g) (nI 0)) (4 * i + g) (-2 : Int32)) C 0 gv_up_s rfl (vp_in_nI (by omega) (by omega)) (by rw [nI_clamp (by omega)]) dX7_reckon_189 ?_
            refine k_view (V1 := gv_up V wc (.inl (cI, 120, .inl (upd (upd fc (4 * i + g) (nI 0)) (4 * i + g) (-2 : Int32))))) gv_uu ?_
            have ne16 : nq wr wc := gv_ne h_wc h_wr (by simp)
            refine k_view (V1 := gv_up (gv_up V wc (.inl (cI, 120, .inl (upd (upd fc (4 * i + g) (nI 0)) (4 * i + g) (-2 : Int32))))) wr (.inl (cI, 57600, .inl fr))) (gv_id ((gv_up_n ne16).trans h_wr)).symm ?_
            have ne17 : nq wn wc := gv_ne h_wc h_wn (by simp)
            have ne18 : nq wn wr := gv_ne h_wr h_wn (by simp)
            refine k_view (V1 := gv_up (gv_up (gv_up V wc (.inl (cI, 120, .inl (upd (upd fc (4 * i + g) (nI 0)) (4 * i + g) (-2 : Int32))))) wr (.inl (cI, 57600, .inl fr))) wn (.inl (cI, 6, .inl fw))) (gv_id ((gv_up_n ne18).trans ((gv_up_n ne17).trans h_wn))).symm ?_
            have ne19 : nq wv wc := gv_ne h_wc h_wv (by simp)
            have ne20 : nq wv wr := gv_ne h_wr h_wv (by simp)
            have ne21 : nq wv wn := gv_ne h_wn h_wv (by simp)
            refine k_view (V1 := gv_up (gv_up (gv_up (gv_up V wc (.inl (cI, 120, .inl (upd (upd fc (4 * i + g) (nI 0)) (4 * i + g) (-2 : Int32))))) wr (.inl (cI, 57600, .inl fr))) wn (.inl (cI, 6, .inl fw))) wv (.inl (cI, 30, .inl fv))) (gv_id ((gv_up_n ne21).trans ((gv_up_n ne20).trans ((gv_up_n ne19).trans h_wv)))).symm ?_
            have ne22 : nq wk wc := gv_ne h_wc h_wk (by simp)
            have ne23 : nq wk wr := gv_ne h_wr h_wk (by simp)
            have ne24 : nq wk wn := gv_ne h_wn h_wk (by simp)
            have ne25 : nq wk wv := gv_ne h_wv h_wk (by simp)
            refine k_view (V1 := gv_up (gv_up (gv_up (gv_up (gv_up V wc (.inl (cI, 120, .inl (upd (upd fc (4 * i + g) (nI 0)) (4 * i + g) (-2 : Int32))))) wr (.inl (cI, 57600, .inl fr))) wn (.inl (cI, 6, .inl fw))) wv (.inl (cI, 30, .inl fv))) wk (.inl (cI, 80, .inl fk))) (gv_id ((gv_up_n ne25).trans ((gv_up_n ne24).trans ((gv_up_n ne23).trans ((gv_up_n ne22).trans h_wk))))).symm ?_
            have ne26 : nq wp wc := gv_ne h_wc h_wp (by simp)
            have ne27 : nq wp wr := gv_ne h_wr h_wp (by simp)
            have ne28 : nq wp wn := gv_ne h_wn h_wp (by simp)
            have ne29 : nq wp wv := gv_ne h_wv h_wp (by simp)
            refine k_view (V1 := gv_up (gv_up (gv_up (gv_up (gv_up (gv_up V wc (.inl (cI, 120, .inl (upd (upd fc (4 * i + g) (nI 0)) (4 * i + g) (-2 : Int32))))) wr (.inl (cI, 57600, .inl fr))) wn (.inl (cI, 6, .inl fw))) wv (.inl (cI, 30, .inl fv))) wk (.inl (cI, 80, .inl fk))) wp (.inl (cI, 80, .inl fp))) (gv_id ((gv_up_n (Ne.symm hwkp)).trans ((gv_up_n ne29).trans ((gv_up_n ne28).trans ((gv_up_n ne27).trans ((gv_up_n ne26).trans h_wp)))))).symm ?_
            refine k_view (V1 := gv_up (gv_up (gv_up (gv_up (gv_up (gv_up V wr (.inl (cI, 57600, .inl fr))) wc (.inl (cI, 120, .inl (upd (upd fc (4 * i + g) (nI 0)) (4 * i + g) (-2 : Int32))))) wn (.inl (cI, 6, .inl fw))) wv (.inl (cI, 30, .inl fv))) wk (.inl (cI, 80, .inl fk))) wp (.inl (cI, 80, .inl fp))) (congrArg (fun W => gv_up W wp (.inl (cI, 80, .inl fp))) (congrArg (fun W => gv_up W wk (.inl (cI, 80, .inl fk))) (congrArg (fun W => gv_up W wv (.inl (cI, 30, .inl fv))) (congrArg (fun W => gv_up W wn (.inl (cI, 6, .inl fw))) (gv_uc ne16))))) ?_
            exact k_vret C zr zlk ⟨fr, upd (upd fc (4 * i + g) (nI 0)) (4 * i + g) (-2 : Int32), fw, fv, fk, fp, rfl, rfl, (MTb.no (by rw [isN0 b178]; rfl) upd_at), (Kp.up.tr Kp.up)⟩ (Nat.le_refl _) (Nat.le_refl _) dX7_reckon_190
      · exact absurd c71 (by decide)
  · exact absurd c50 (by decide)
set_option maxHeartbeats 4000000 in
set_option maxRecDepth 100000 in
theorem c_reckon13 {zl : Launch} {D : va_G} {cI cN cR : ClassId} {base : Nat} {V : gv_V} {m wt wa wv wm wr wc wn ws wk wp nt ne nn sh : Nat} {kn : Int32} {ft fa fv fm fr fc fw fk fp : Nat → Int32} {i g a vv : Nat} {S : Nat → Nat → Option (List Row)}  (h_m : V m = some (.inr (7, [.int (nI nt), .ref wt, .int (nI ne), .ref wa, .ref wv, .int (nI nn), .ref wm, .int kn, .ref wr, .ref wc, .ref wn, .int (nI sh), .ref ws, .ref wk, .ref wp]))) (h_wr : V wr = some (.inl (cI, 57600, .inl fr))) (h_wc : V wc = some (.inl (cI, 120, .inl fc))) (h_wn : V wn = some (.inl (cI, 6, .inl fw))) (h_wv : V wv = some (.inl (cI, 30, .inl fv))) (h_wk : V wk = some (.inl (cI, 80, .inl fk))) (h_wp : V wp = some (.inl (cI, 80, .inl fp))) (h_wa : V wa = some (.inl (cI, 90, .inl fa))) (h_wm : V wm = some (.inl (cI, 180, .inl fm))) (h_wt : V wt = some (.inl (cI, 240, .inl ft))) (hi : i < 30) (hg : g < 4) (hm0 : fm (6 * i) = nI 13) (hwkp : nq wk wp) (hm1 : fm (6 * i + 1) = nI a) (ha : a < i) (hm2 : fm (6 * i + 2) = nI vv) (hvv : vv < 6) (hS : ∀ j z1, j < i → z1 < 4 → MTb (S j z1) (fc (4 * j + z1)) (tbl fr (4 * j + z1))) : ct zl D [(cI, .int), (cN, .object "AlgebraTree$Node"), (cR, .object "AlgebraTree$Rows")] base yX7_reckon cX7_reckon 11 none 5 0 0 [.ref m, .int (nI i), .int (nI g)] V (fun zv zV => ∃ fr1 : Nat → Int32, ∃ fc1 : Nat → Int32, ∃ fw1 : Nat → Int32, ∃ fv1 : Nat → Int32, ∃ fk1 : Nat → Int32, ∃ fp1 : Nat → Int32, zv = none ∧ zV = gv_up (gv_up (gv_up (gv_up (gv_up (gv_up V wr (.inl (cI, 57600, .inl fr1))) wc (.inl (cI, 120, .inl fc1))) wn (.inl (cI, 6, .inl fw1))) wv (.inl (cI, 30, .inl fv1))) wk (.inl (cI, 80, .inl fk1))) wp (.inl (cI, 80, .inl fp1)) ∧ (MTb (eachS (S a) vv) (fc1 (4 * i + g)) (tbl fr1 (4 * i + g))) ∧ (Kp (4 * i + g) fc fr fc1 fr1)) := by
  refine ct_of "AlgebraTreeModel" rfl (by decide) (Nat.le_of_ble_eq_true rfl) ?_
  intro zp ze zs zm zargs zbelow zmeth zc C zr zlk znm
  refine k_pc (pc' := 0) (st' := []) rfl rfl ?_
  show K zp zl ze (gv_rm 5 0 0) zs zm zargs zbelow zmeth zc D base 11 (gv_E D [(cI, .int), (cN, .object "AlgebraTree$Node"), (cR, .object "AlgebraTree$Rows")] base zbelow zargs zs 0 0 (fun zv zV => ∃ fr1 : Nat → Int32, ∃ fc1 : Nat → Int32, ∃ fw1 : Nat → Int32, ∃ fv1 : Nat → Int32, ∃ fk1 : Nat → Int32, ∃ fp1 : Nat → Int32, zv = none ∧ zV = gv_up (gv_up (gv_up (gv_up (gv_up (gv_up V wr (.inl (cI, 57600, .inl fr1))) wc (.inl (cI, 120, .inl fc1))) wn (.inl (cI, 6, .inl fw1))) wv (.inl (cI, 30, .inl fv1))) wk (.inl (cI, 80, .inl fk1))) wp (.inl (cI, 80, .inl fp1)) ∧ (MTb (eachS (S a) vv) (fc1 (4 * i + g)) (tbl fr1 (4 * i + g))) ∧ (Kp (4 * i + g) fc fr fc1 fr1))) V 0 0 [(0, .ref m), (1, .int (nI i)), (2, .int (nI g))] 0 []
  refine k_bipush (v := nI 6) C dX7_reckon_0 rfl ?_
  refine k_iload_n C dX7_reckon_2 rfl 1 rfl ?_
  refine k_imul C dX7_reckon_3 ?_
  refine k_val (y := nI (6 * i)) (pk_mul 6 i) ?_
  refine k_istore_n (lv' := [(3, .int (nI (6 * i))), (0, .ref m), (1, .int (nI i)), (2, .int (nI g))]) C dX7_reckon_4 rfl (by decide) rfl ?_
  refine k_aload_n C dX7_reckon_5 rfl 1 rfl ?_
  refine k_get (ci := 7) (k := 6) C fl_7_19 h_m rfl dX7_reckon_6 ?_
  refine k_iload_n C dX7_reckon_9 rfl 0 rfl ?_
  refine k_iald (v := fm (6 * i)) C 0 h_wm rfl (vp_in_nI (by omega) (by omega)) (by rw [nI_clamp (by omega)]) dX7_reckon_10 ?_
  refine k_val (y := nI 13) hm0 ?_
  refine k_istore (lv' := [(4, .int (nI 13)), (3, .int (nI (6 * i))), (0, .ref m), (1, .int (nI i)), (2, .int (nI g))]) C dX7_reckon_11 (by decide) rfl ?_
  refine k_aload_n C dX7_reckon_13 rfl 2 rfl ?_
  refine k_get (ci := 7) (k := 6) C fl_7_19 h_m rfl dX7_reckon_14 ?_
  refine k_iload_n C dX7_reckon_17 rfl 1 rfl ?_
  refine k_iconst (v := nI 1) C dX7_reckon_18 rfl ?_
  refine k_iadd C dX7_reckon_19 ?_
  refine k_val (y := nI ((6 * i) + 1)) (nI_add (6 * i) 1) ?_
  refine k_iald (v := fm ((6 * i) + 1)) C 0 h_wm rfl (vp_in_nI (by omega) (by omega)) (by rw [nI_clamp (by omega)]) dX7_reckon_20 ?_
  refine k_val (y := nI a) hm1 ?_
  refine k_istore (lv' := [(5, .int (nI a)), (4, .int (nI 13)), (3, .int (nI (6 * i))), (0, .ref m), (1, .int (nI i)), (2, .int (nI g))]) C dX7_reckon_21 (by decide) rfl ?_
  refine k_aload_n C dX7_reckon_23 rfl 3 rfl ?_
  refine k_get (ci := 7) (k := 6) C fl_7_19 h_m rfl dX7_reckon_24 ?_
  refine k_iload_n C dX7_reckon_27 rfl 2 rfl ?_
  refine k_iconst (v := nI 2) C dX7_reckon_28 rfl ?_
  refine k_iadd C dX7_reckon_29 ?_
  refine k_val (y := nI ((6 * i) + 2)) (nI_add (6 * i) 2) ?_
  refine k_iald (v := fm ((6 * i) + 2)) C 0 h_wm rfl (vp_in_nI (by omega) (by omega)) (by rw [nI_clamp (by omega)]) dX7_reckon_30 ?_
  refine k_val (y := nI vv) hm2 ?_
  refine k_istore (lv' := [(6, .int (nI vv)), (5, .int (nI a)), (4, .int (nI 13)), (3, .int (nI (6 * i))), (0, .ref m), (1, .int (nI i)), (2, .int (nI g))]) C dX7_reckon_31 (by decide) rfl ?_
  refine k_iload_n C dX7_reckon_33 rfl 5 rfl ?_
  refine k_iload_n C dX7_reckon_34 rfl 6 rfl ?_
  refine k_callS_pi C ms_7_140 (c_X7_table   ) rfl rfl (by simp [Value.category]) ⟨Nat.le_of_ble_eq_true rfl, Nat.le_of_ble_eq_true rfl⟩ ⟨(by decide), (by decide)⟩ dX7_reckon_35 ?_
  refine k_istore (lv' := [(7, .int (nI (4 * i + g))), (6, .int (nI vv)), (5, .int (nI a)), (4, .int (nI 13)), (3, .int (nI (6 * i))), (0, .ref m), (1, .int (nI i)), (2, .int (nI g))]) C dX7_reckon_38 (by decide) rfl ?_
  refine k_aload_n C dX7_reckon_40 rfl 5 rfl ?_
  refine k_get (ci := 7) (k := 9) C fl_7_26 h_m rfl dX7_reckon_41 ?_
  refine k_iload C dX7_reckon_44 0 rfl ?_
  refine k_iconst (v := nI 0) C dX7_reckon_46 rfl ?_
  refine k_iast (f' := upd fc (4 * i + g) (nI 0)) C 0 h_wc rfl (vp_in_nI (by omega) (by omega)) (by rw [nI_clamp (by omega)]) dX7_reckon_47 ?_
  have hS0 : ∀ j z, j < i → z < 4 → MTb (S j z) (upd fc (4 * i + g) (nI 0) (4 * j + z)) (tbl fr (4 * j + z)) := fun j z hj hz => (hS j z hj hz).up (by omega)
  have hc0 : upd fc (4 * i + g) (nI 0) (4 * i + g) = 0 := upd_at
  refine k_iload C dX7_reckon_48 3 rfl ?_
  refine k_if_ne (tgt := 62) C dX7_reckon_50 (by decide) (fun c50 => ?_) (fun c50 => ?_)
  · skip
    have b50 : ¬ 13 = 0 := fun z => c50 ((nI_eq (a := 13) (b := 0) (by omega) (by omega)).mpr z)
    refine k_iload C dX7_reckon_62 3 rfl ?_
    refine k_iconst (v := nI 1) C dX7_reckon_64 rfl ?_
    refine k_icmp_lt (tgt := 78) C dX7_reckon_65 (by decide) (fun c65 => ?_) (fun c65 => ?_)
    · exact absurd c65 (by decide)
    · skip
      have b65 : ¬ 13 < 1 := fun z => c65 ((nI_ltI (a := 13) (b := 1) (by omega) (by omega)).mpr z)
      refine k_iload C dX7_reckon_68 3 rfl ?_
      refine k_iconst (v := nI 4) C dX7_reckon_70 rfl ?_
      refine k_icmp_gt (tgt := 78) C dX7_reckon_71 (by decide) (fun c71 => ?_) (fun c71 => ?_)
      · skip
        have b71 : 4 < 13 := (nI_ltI (a := 4) (b := 13) (by omega) (by omega)).mp c71
        refine k_iconst (v := nI 0) C dX7_reckon_78 rfl ?_
        refine k_istore (lv' := [(8, .int (nI 0)), (7, .int (nI (4 * i + g))), (6, .int (nI vv)), (5, .int (nI a)), (4, .int (nI 13)), (3, .int (nI (6 * i))), (0, .ref m), (1, .int (nI i)), (2, .int (nI g))]) C dX7_reckon_79 (by decide) rfl ?_
        refine k_iload C dX7_reckon_81 4 rfl ?_
        refine k_bipush (v := nI 12) C dX7_reckon_83 rfl ?_
        refine k_icmp_ne (tgt := 99) C dX7_reckon_85 (by decide) (fun c85 => ?_) (fun c85 => ?_)
        · skip
          have b85 : ¬ 13 = 12 := fun z => c85 ((nI_eq (a := 13) (b := 12) (by omega) (by omega)).mpr z)
          refine k_iload C dX7_reckon_99 4 rfl ?_
          refine k_bipush (v := nI 13) C dX7_reckon_101 rfl ?_
          refine k_icmp_ne (tgt := 144) C dX7_reckon_103 (by decide) (fun c103 => ?_) (fun c103 => ?_)
          · exact absurd c103 (by decide)
          · skip
            have b103 : 13 = 13 := (nI_eq (a := 13) (b := 13) (by omega) (by omega)).mp c103
            refine k_aload_n C dX7_reckon_106 rfl 6 rfl ?_
            refine k_iload C dX7_reckon_107 3 rfl ?_
            refine k_iconst (v := nI 1) C dX7_reckon_109 rfl ?_
            have ne1 : nq m wc := gv_ne h_wc h_m (by simp)
            refine k_callV_pi C mv_7_148 (c_X7_isLong  ((gv_up_n ne1).trans h_m) gv_up_s (by omega) (by omega) (hS0 a 1 (by omega) (by omega))) ((gv_up_n ne1).trans h_m) rfl rfl (by simp [Value.category]) ⟨Nat.le_of_ble_eq_true rfl, Nat.le_of_ble_eq_true rfl⟩ ⟨(by decide), (by decide)⟩ dX7_reckon_110 ?_
            refine k_if_ne (tgt := 136) C dX7_reckon_113 (by decide) (fun c113 => ?_) (fun c113 => ?_)
            · skip
              have b113 : ((S a 1).isNone) = true := bI_n.mp c113
              refine k_iconst (v := nI 1) C dX7_reckon_136 rfl ?_
              refine k_goto (tgt := 174) C dX7_reckon_137 (by decide) ?_
              refine k_istore (lv' := [(9, .int (nI 1)), (8, .int (nI 0)), (7, .int (nI (4 * i + g))), (6, .int (nI vv)), (5, .int (nI a)), (4, .int (nI 13)), (3, .int (nI (6 * i))), (0, .ref m), (1, .int (nI i)), (2, .int (nI g))]) C dX7_reckon_174 (by decide) rfl ?_
              refine k_iload C dX7_reckon_176 0 rfl ?_
              refine k_if_eq (tgt := 191) C dX7_reckon_178 (by decide) (fun c178 => ?_) (fun c178 => ?_)
              · exact absurd c178 (by decide)
              · skip
                have b178 : ¬ 1 = 0 := fun z => c178 ((nI_eq (a := 1) (b := 0) (by omega) (by omega)).mpr z)
                refine k_aload_n C dX7_reckon_181 rfl 7 rfl ?_
                refine k_get (ci := 7) (k := 9) C fl_7_26 ((gv_up_n ne1).trans h_m) rfl dX7_reckon_182 ?_
                refine k_iload C dX7_reckon_185 2 rfl ?_
                refine k_bipush (v := (-2 : Int32)) C dX7_reckon_187 (by decide) ?_
                refine k_iast (f' := upd (upd fc (4 * i + g) (nI 0)) (4 * i + g) (-2 : Int32)) C 0 gv_up_s rfl (vp_in_nI (by omega) (by omega)) (by rw [nI_clamp (by omega)]) dX7_reckon_189 ?_
                refine k_view (V1 := gv_up V wc (.inl (cI, 120, .inl (upd (upd fc (4 * i + g) (nI 0)) (4 * i + g) (-2 : Int32))))) gv_uu ?_
                have ne2 : nq wr wc := gv_ne h_wc h_wr (by simp)
                refine k_view (V1 := gv_up (gv_up V wc (.inl (cI, 120, .inl (upd (upd fc (4 * i + g) (nI 0)) (4 * i + g) (-2 : Int32))))) wr (.inl (cI, 57600, .inl fr))) (gv_id ((gv_up_n ne2).trans h_wr)).symm ?_
                have ne3 : nq wn wc := gv_ne h_wc h_wn (by simp)
                have ne4 : nq wn wr := gv_ne h_wr h_wn (by simp)
                refine k_view (V1 := gv_up (gv_up (gv_up V wc (.inl (cI, 120, .inl (upd (upd fc (4 * i + g) (nI 0)) (4 * i + g) (-2 : Int32))))) wr (.inl (cI, 57600, .inl fr))) wn (.inl (cI, 6, .inl fw))) (gv_id ((gv_up_n ne4).trans ((gv_up_n ne3).trans h_wn))).symm ?_
                have ne5 : nq wv wc := gv_ne h_wc h_wv (by simp)
                have ne6 : nq wv wr := gv_ne h_wr h_wv (by simp)
                have ne7 : nq wv wn := gv_ne h_wn h_wv (by simp)
                refine k_view (V1 := gv_up (gv_up (gv_up (gv_up V wc (.inl (cI, 120, .inl (upd (upd fc (4 * i + g) (nI 0)) (4 * i + g) (-2 : Int32))))) wr (.inl (cI, 57600, .inl fr))) wn (.inl (cI, 6, .inl fw))) wv (.inl (cI, 30, .inl fv))) (gv_id ((gv_up_n ne7).trans ((gv_up_n ne6).trans ((gv_up_n ne5).trans h_wv)))).symm ?_
                have ne8 : nq wk wc := gv_ne h_wc h_wk (by simp)
                have ne9 : nq wk wr := gv_ne h_wr h_wk (by simp)
                have ne10 : nq wk wn := gv_ne h_wn h_wk (by simp)
                have ne11 : nq wk wv := gv_ne h_wv h_wk (by simp)
                refine k_view (V1 := gv_up (gv_up (gv_up (gv_up (gv_up V wc (.inl (cI, 120, .inl (upd (upd fc (4 * i + g) (nI 0)) (4 * i + g) (-2 : Int32))))) wr (.inl (cI, 57600, .inl fr))) wn (.inl (cI, 6, .inl fw))) wv (.inl (cI, 30, .inl fv))) wk (.inl (cI, 80, .inl fk))) (gv_id ((gv_up_n ne11).trans ((gv_up_n ne10).trans ((gv_up_n ne9).trans ((gv_up_n ne8).trans h_wk))))).symm ?_
                have ne12 : nq wp wc := gv_ne h_wc h_wp (by simp)
                have ne13 : nq wp wr := gv_ne h_wr h_wp (by simp)
                have ne14 : nq wp wn := gv_ne h_wn h_wp (by simp)
                have ne15 : nq wp wv := gv_ne h_wv h_wp (by simp)
                refine k_view (V1 := gv_up (gv_up (gv_up (gv_up (gv_up (gv_up V wc (.inl (cI, 120, .inl (upd (upd fc (4 * i + g) (nI 0)) (4 * i + g) (-2 : Int32))))) wr (.inl (cI, 57600, .inl fr))) wn (.inl (cI, 6, .inl fw))) wv (.inl (cI, 30, .inl fv))) wk (.inl (cI, 80, .inl fk))) wp (.inl (cI, 80, .inl fp))) (gv_id ((gv_up_n (Ne.symm hwkp)).trans ((gv_up_n ne15).trans ((gv_up_n ne14).trans ((gv_up_n ne13).trans ((gv_up_n ne12).trans h_wp)))))).symm ?_
                refine k_view (V1 := gv_up (gv_up (gv_up (gv_up (gv_up (gv_up V wr (.inl (cI, 57600, .inl fr))) wc (.inl (cI, 120, .inl (upd (upd fc (4 * i + g) (nI 0)) (4 * i + g) (-2 : Int32))))) wn (.inl (cI, 6, .inl fw))) wv (.inl (cI, 30, .inl fv))) wk (.inl (cI, 80, .inl fk))) wp (.inl (cI, 80, .inl fp))) (congrArg (fun W => gv_up W wp (.inl (cI, 80, .inl fp))) (congrArg (fun W => gv_up W wk (.inl (cI, 80, .inl fk))) (congrArg (fun W => gv_up W wv (.inl (cI, 30, .inl fv))) (congrArg (fun W => gv_up W wn (.inl (cI, 6, .inl fw))) (gv_uc ne2))))) ?_
                exact k_vret C zr zlk ⟨fr, upd (upd fc (4 * i + g) (nI 0)) (4 * i + g) (-2 : Int32), fw, fv, fk, fp, rfl, rfl, (MTb.no (eachS_no (Or.inl b113)) upd_at), (Kp.up.tr Kp.up)⟩ (Nat.le_refl _) (Nat.le_refl _) dX7_reckon_190
            · skip
              have b113 : ((S a 1).isNone) = false := bI_0.mp c113
              refine k_aload_n C dX7_reckon_116 rfl 6 rfl ?_
              refine k_iload C dX7_reckon_117 3 rfl ?_
              refine k_iconst (v := nI 2) C dX7_reckon_119 rfl ?_
              refine k_callV_pi C mv_7_148 (c_X7_isLong  ((gv_up_n ne1).trans h_m) gv_up_s (by omega) (by omega) (hS0 a 2 (by omega) (by omega))) ((gv_up_n ne1).trans h_m) rfl rfl (by simp [Value.category]) ⟨Nat.le_of_ble_eq_true rfl, Nat.le_of_ble_eq_true rfl⟩ ⟨(by decide), (by decide)⟩ dX7_reckon_120 ?_
              refine k_if_ne (tgt := 136) C dX7_reckon_123 (by decide) (fun c123 => ?_) (fun c123 => ?_)
              · skip
                have b123 : ((S a 2).isNone) = true := bI_n.mp c123
                refine k_iconst (v := nI 1) C dX7_reckon_136 rfl ?_
                refine k_goto (tgt := 174) C dX7_reckon_137 (by decide) ?_
                refine k_istore (lv' := [(9, .int (nI 1)), (8, .int (nI 0)), (7, .int (nI (4 * i + g))), (6, .int (nI vv)), (5, .int (nI a)), (4, .int (nI 13)), (3, .int (nI (6 * i))), (0, .ref m), (1, .int (nI i)), (2, .int (nI g))]) C dX7_reckon_174 (by decide) rfl ?_
                refine k_iload C dX7_reckon_176 0 rfl ?_
                refine k_if_eq (tgt := 191) C dX7_reckon_178 (by decide) (fun c178 => ?_) (fun c178 => ?_)
                · exact absurd c178 (by decide)
                · skip
                  have b178 : ¬ 1 = 0 := fun z => c178 ((nI_eq (a := 1) (b := 0) (by omega) (by omega)).mpr z)
                  refine k_aload_n C dX7_reckon_181 rfl 7 rfl ?_
                  refine k_get (ci := 7) (k := 9) C fl_7_26 ((gv_up_n ne1).trans h_m) rfl dX7_reckon_182 ?_
                  refine k_iload C dX7_reckon_185 2 rfl ?_
                  refine k_bipush (v := (-2 : Int32)) C dX7_reckon_187 (by decide) ?_
                  refine k_iast (f' := upd (upd fc (4 * i + g) (nI 0)) (4 * i + g) (-2 : Int32)) C 0 gv_up_s rfl (vp_in_nI (by omega) (by omega)) (by rw [nI_clamp (by omega)]) dX7_reckon_189 ?_
                  refine k_view (V1 := gv_up V wc (.inl (cI, 120, .inl (upd (upd fc (4 * i + g) (nI 0)) (4 * i + g) (-2 : Int32))))) gv_uu ?_
                  have ne16 : nq wr wc := gv_ne h_wc h_wr (by simp)
                  refine k_view (V1 := gv_up (gv_up V wc (.inl (cI, 120, .inl (upd (upd fc (4 * i + g) (nI 0)) (4 * i + g) (-2 : Int32))))) wr (.inl (cI, 57600, .inl fr))) (gv_id ((gv_up_n ne16).trans h_wr)).symm ?_
                  have ne17 : nq wn wc := gv_ne h_wc h_wn (by simp)
                  have ne18 : nq wn wr := gv_ne h_wr h_wn (by simp)
                  refine k_view (V1 := gv_up (gv_up (gv_up V wc (.inl (cI, 120, .inl (upd (upd fc (4 * i + g) (nI 0)) (4 * i + g) (-2 : Int32))))) wr (.inl (cI, 57600, .inl fr))) wn (.inl (cI, 6, .inl fw))) (gv_id ((gv_up_n ne18).trans ((gv_up_n ne17).trans h_wn))).symm ?_
                  have ne19 : nq wv wc := gv_ne h_wc h_wv (by simp)
                  have ne20 : nq wv wr := gv_ne h_wr h_wv (by simp)
                  have ne21 : nq wv wn := gv_ne h_wn h_wv (by simp)
                  refine k_view (V1 := gv_up (gv_up (gv_up (gv_up V wc (.inl (cI, 120, .inl (upd (upd fc (4 * i + g) (nI 0)) (4 * i + g) (-2 : Int32))))) wr (.inl (cI, 57600, .inl fr))) wn (.inl (cI, 6, .inl fw))) wv (.inl (cI, 30, .inl fv))) (gv_id ((gv_up_n ne21).trans ((gv_up_n ne20).trans ((gv_up_n ne19).trans h_wv)))).symm ?_
                  have ne22 : nq wk wc := gv_ne h_wc h_wk (by simp)
                  have ne23 : nq wk wr := gv_ne h_wr h_wk (by simp)
                  have ne24 : nq wk wn := gv_ne h_wn h_wk (by simp)
                  have ne25 : nq wk wv := gv_ne h_wv h_wk (by simp)
                  refine k_view (V1 := gv_up (gv_up (gv_up (gv_up (gv_up V wc (.inl (cI, 120, .inl (upd (upd fc (4 * i + g) (nI 0)) (4 * i + g) (-2 : Int32))))) wr (.inl (cI, 57600, .inl fr))) wn (.inl (cI, 6, .inl fw))) wv (.inl (cI, 30, .inl fv))) wk (.inl (cI, 80, .inl fk))) (gv_id ((gv_up_n ne25).trans ((gv_up_n ne24).trans ((gv_up_n ne23).trans ((gv_up_n ne22).trans h_wk))))).symm ?_
                  have ne26 : nq wp wc := gv_ne h_wc h_wp (by simp)
                  have ne27 : nq wp wr := gv_ne h_wr h_wp (by simp)
                  have ne28 : nq wp wn := gv_ne h_wn h_wp (by simp)
                  have ne29 : nq wp wv := gv_ne h_wv h_wp (by simp)
                  refine k_view (V1 := gv_up (gv_up (gv_up (gv_up (gv_up (gv_up V wc (.inl (cI, 120, .inl (upd (upd fc (4 * i + g) (nI 0)) (4 * i + g) (-2 : Int32))))) wr (.inl (cI, 57600, .inl fr))) wn (.inl (cI, 6, .inl fw))) wv (.inl (cI, 30, .inl fv))) wk (.inl (cI, 80, .inl fk))) wp (.inl (cI, 80, .inl fp))) (gv_id ((gv_up_n (Ne.symm hwkp)).trans ((gv_up_n ne29).trans ((gv_up_n ne28).trans ((gv_up_n ne27).trans ((gv_up_n ne26).trans h_wp)))))).symm ?_
                  refine k_view (V1 := gv_up (gv_up (gv_up (gv_up (gv_up (gv_up V wr (.inl (cI, 57600, .inl fr))) wc (.inl (cI, 120, .inl (upd (upd fc (4 * i + g) (nI 0)) (4 * i + g) (-2 : Int32))))) wn (.inl (cI, 6, .inl fw))) wv (.inl (cI, 30, .inl fv))) wk (.inl (cI, 80, .inl fk))) wp (.inl (cI, 80, .inl fp))) (congrArg (fun W => gv_up W wp (.inl (cI, 80, .inl fp))) (congrArg (fun W => gv_up W wk (.inl (cI, 80, .inl fk))) (congrArg (fun W => gv_up W wv (.inl (cI, 30, .inl fv))) (congrArg (fun W => gv_up W wn (.inl (cI, 6, .inl fw))) (gv_uc ne16))))) ?_
                  exact k_vret C zr zlk ⟨fr, upd (upd fc (4 * i + g) (nI 0)) (4 * i + g) (-2 : Int32), fw, fv, fk, fp, rfl, rfl, (MTb.no (eachS_no (Or.inr (Or.inl b123))) upd_at), (Kp.up.tr Kp.up)⟩ (Nat.le_refl _) (Nat.le_refl _) dX7_reckon_190
              · skip
                have b123 : ((S a 2).isNone) = false := bI_0.mp c123
                refine k_aload_n C dX7_reckon_126 rfl 6 rfl ?_
                refine k_iload C dX7_reckon_127 3 rfl ?_
                refine k_iconst (v := nI 3) C dX7_reckon_129 rfl ?_
                refine k_callV_pi C mv_7_148 (c_X7_isLong  ((gv_up_n ne1).trans h_m) gv_up_s (by omega) (by omega) (hS0 a 3 (by omega) (by omega))) ((gv_up_n ne1).trans h_m) rfl rfl (by simp [Value.category]) ⟨Nat.le_of_ble_eq_true rfl, Nat.le_of_ble_eq_true rfl⟩ ⟨(by decide), (by decide)⟩ dX7_reckon_130 ?_
                refine k_if_eq (tgt := 140) C dX7_reckon_133 (by decide) (fun c133 => ?_) (fun c133 => ?_)
                · skip
                  have b133 : ((S a 3).isNone) = false := bI_0.mp c133
                  have hSG : ∀ z, 1 ≤ z → z < 4 → Tab (opL (S a z)) (opL (S a z)).length (tbl fr (4 * a + z)) ∧ upd fc (4 * i + g) (nI 0) (4 * a + z) = nI (opL (S a z)).length ∧ ¬ 4 * a + z = 4 * i + g := fun z hz1 hz => by
                    obtain ⟨A, eA⟩ : ∃ A, S a z = some A := by
                      rcases (show z = 1 ∨ z = 2 ∨ z = 3 by omega) with rfl | rfl | rfl
                      · exact isN b113
                      · exact isN b123
                      · exact isN b133
                    have h2 := (hS0 a z ha hz).sm eA
                    rw [eA]
                    exact ⟨h2.2, h2.1, by omega⟩
                  refine k_iconst (v := nI 0) C dX7_reckon_140 rfl ?_
                  refine k_goto (tgt := 174) C dX7_reckon_141 (by decide) ?_
                  refine k_istore (lv' := [(9, .int (nI 0)), (8, .int (nI 0)), (7, .int (nI (4 * i + g))), (6, .int (nI vv)), (5, .int (nI a)), (4, .int (nI 13)), (3, .int (nI (6 * i))), (0, .ref m), (1, .int (nI i)), (2, .int (nI g))]) C dX7_reckon_174 (by decide) rfl ?_
                  refine k_iload C dX7_reckon_176 0 rfl ?_
                  refine k_if_eq (tgt := 191) C dX7_reckon_178 (by decide) (fun c178 => ?_) (fun c178 => ?_)
                  · skip
                    have b178 : 0 = 0 := (nI_eq (a := 0) (b := 0) (by omega) (by omega)).mp c178
                    refine k_iload C dX7_reckon_191 4 rfl ?_
                    refine k_iload_n C dX7_reckon_193 rfl 9 rfl ?_
                    refine k_callS_pi C ms_7_140 (c_X7_table   ) rfl rfl (by simp [Value.category]) ⟨Nat.le_of_ble_eq_true rfl, Nat.le_of_ble_eq_true rfl⟩ ⟨(by decide), (by decide)⟩ dX7_reckon_194 ?_
                    refine k_istore (lv' := [(10, .int (nI (4 * a + g))), (9, .int (nI 0)), (8, .int (nI 0)), (7, .int (nI (4 * i + g))), (6, .int (nI vv)), (5, .int (nI a)), (4, .int (nI 13)), (3, .int (nI (6 * i))), (0, .ref m), (1, .int (nI i)), (2, .int (nI g))]) C dX7_reckon_197 (by decide) rfl ?_
                    refine k_iload C dX7_reckon_199 6 rfl ?_
                    refine k_tableIn (tgt := 421) C dX7_reckon_201 (by decide) (by decide) rfl (by decide) ?_
                    refine k_aload_n C dX7_reckon_421 rfl 8 rfl ?_
                    refine k_iload C dX7_reckon_422 3 rfl ?_
                    refine k_iload C dX7_reckon_424 5 rfl ?_
                    refine k_iload C dX7_reckon_426 4 rfl ?_
                    have ne30 : nq wr wc := gv_ne h_wc h_wr (by simp)
                    have ne31 : nq wn wc := gv_ne h_wc h_wn (by simp)
                    refine k_callV C mv_7_169 (c_X7_reckonGraphs (S := S a) ((gv_up_n ne1).trans h_m) ((gv_up_n ne30).trans h_wr) gv_up_s ((gv_up_n ne31).trans h_wn) (by first | assumption | omega) (by first | assumption | omega) (by first | assumption | omega) hSG (by first | assumption | omega)) ((gv_up_n ne1).trans h_m) rfl rfl (by simp [Value.category]) ⟨Nat.le_of_ble_eq_true rfl, Nat.le_of_ble_eq_true rfl⟩ ⟨(by decide), (by decide)⟩ dX7_reckon_428 (fun zv zV zh => ?_)
                    obtain ⟨fr1_w32, fc1_w32, fw1_w32, rfl, rfl, hR1_w32, hK1_w32⟩ := zh
                    refine k_pc (pc' := 431) (st' := []) rfl rfl ?_
                    refine k_view (V1 := gv_up (gv_up (gv_up V wc (.inl (cI, 120, .inl fc1_w32))) wr (.inl (cI, 57600, .inl fr1_w32))) wn (.inl (cI, 6, .inl fw1_w32))) (congrArg (fun W => gv_up W wn (.inl (cI, 6, .inl fw1_w32))) ((gv_uc (Ne.symm ne30)).trans (congrArg (fun W => gv_up W wr (.inl (cI, 57600, .inl fr1_w32))) gv_uu))) ?_
                    refine k_goto (tgt := 454) C dX7_reckon_431 (by decide) ?_
                    have ne33 : nq wv wc := gv_ne h_wc h_wv (by simp)
                    have ne34 : nq wv wr := gv_ne h_wr h_wv (by simp)
                    have ne35 : nq wv wn := gv_ne h_wn h_wv (by simp)
                    refine k_view (V1 := gv_up (gv_up (gv_up (gv_up V wc (.inl (cI, 120, .inl fc1_w32))) wr (.inl (cI, 57600, .inl fr1_w32))) wn (.inl (cI, 6, .inl fw1_w32))) wv (.inl (cI, 30, .inl fv))) (gv_id ((gv_up_n ne35).trans ((gv_up_n ne34).trans ((gv_up_n ne33).trans h_wv)))).symm ?_
                    have ne36 : nq wk wc := gv_ne h_wc h_wk (by simp)
                    have ne37 : nq wk wr := gv_ne h_wr h_wk (by simp)
                    have ne38 : nq wk wn := gv_ne h_wn h_wk (by simp)
                    have ne39 : nq wk wv := gv_ne h_wv h_wk (by simp)
                    refine k_view (V1 := gv_up (gv_up (gv_up (gv_up (gv_up V wc (.inl (cI, 120, .inl fc1_w32))) wr (.inl (cI, 57600, .inl fr1_w32))) wn (.inl (cI, 6, .inl fw1_w32))) wv (.inl (cI, 30, .inl fv))) wk (.inl (cI, 80, .inl fk))) (gv_id ((gv_up_n ne39).trans ((gv_up_n ne38).trans ((gv_up_n ne37).trans ((gv_up_n ne36).trans h_wk))))).symm ?_
                    have ne40 : nq wp wc := gv_ne h_wc h_wp (by simp)
                    have ne41 : nq wp wr := gv_ne h_wr h_wp (by simp)
                    have ne42 : nq wp wn := gv_ne h_wn h_wp (by simp)
                    have ne43 : nq wp wv := gv_ne h_wv h_wp (by simp)
                    refine k_view (V1 := gv_up (gv_up (gv_up (gv_up (gv_up (gv_up V wc (.inl (cI, 120, .inl fc1_w32))) wr (.inl (cI, 57600, .inl fr1_w32))) wn (.inl (cI, 6, .inl fw1_w32))) wv (.inl (cI, 30, .inl fv))) wk (.inl (cI, 80, .inl fk))) wp (.inl (cI, 80, .inl fp))) (gv_id ((gv_up_n (Ne.symm hwkp)).trans ((gv_up_n ne43).trans ((gv_up_n ne42).trans ((gv_up_n ne41).trans ((gv_up_n ne40).trans h_wp)))))).symm ?_
                    refine k_view (V1 := gv_up (gv_up (gv_up (gv_up (gv_up (gv_up V wr (.inl (cI, 57600, .inl fr1_w32))) wc (.inl (cI, 120, .inl fc1_w32))) wn (.inl (cI, 6, .inl fw1_w32))) wv (.inl (cI, 30, .inl fv))) wk (.inl (cI, 80, .inl fk))) wp (.inl (cI, 80, .inl fp))) (congrArg (fun W => gv_up W wp (.inl (cI, 80, .inl fp))) (congrArg (fun W => gv_up W wk (.inl (cI, 80, .inl fk))) (congrArg (fun W => gv_up W wv (.inl (cI, 30, .inl fv))) (congrArg (fun W => gv_up W wn (.inl (cI, 6, .inl fw1_w32))) (gv_uc ne30))))) ?_
                    exact k_vret C zr zlk ⟨fr1_w32, fc1_w32, fw1_w32, fv, fk, fp, rfl, rfl, (by rw [eachS_so b113 b123 b133]; exact (MRep.tb hR1_w32)), (Kp.up.tr hK1_w32)⟩ (Nat.le_refl _) (Nat.le_refl _) dX7_reckon_454
                  · exact absurd c178 (by decide)
                · skip
                  have b133 : ((S a 3).isNone) = true := bI_n.mp c133
                  refine k_iconst (v := nI 1) C dX7_reckon_136 rfl ?_
                  refine k_goto (tgt := 174) C dX7_reckon_137 (by decide) ?_
                  refine k_istore (lv' := [(9, .int (nI 1)), (8, .int (nI 0)), (7, .int (nI (4 * i + g))), (6, .int (nI vv)), (5, .int (nI a)), (4, .int (nI 13)), (3, .int (nI (6 * i))), (0, .ref m), (1, .int (nI i)), (2, .int (nI g))]) C dX7_reckon_174 (by decide) rfl ?_
                  refine k_iload C dX7_reckon_176 0 rfl ?_
                  refine k_if_eq (tgt := 191) C dX7_reckon_178 (by decide) (fun c178 => ?_) (fun c178 => ?_)
                  · exact absurd c178 (by decide)
                  · skip
                    have b178 : ¬ 1 = 0 := fun z => c178 ((nI_eq (a := 1) (b := 0) (by omega) (by omega)).mpr z)
                    refine k_aload_n C dX7_reckon_181 rfl 7 rfl ?_
                    refine k_get (ci := 7) (k := 9) C fl_7_26 ((gv_up_n ne1).trans h_m) rfl dX7_reckon_182 ?_
                    refine k_iload C dX7_reckon_185 2 rfl ?_
                    refine k_bipush (v := (-2 : Int32)) C dX7_reckon_187 (by decide) ?_
                    refine k_iast (f' := upd (upd fc (4 * i + g) (nI 0)) (4 * i + g) (-2 : Int32)) C 0 gv_up_s rfl (vp_in_nI (by omega) (by omega)) (by rw [nI_clamp (by omega)]) dX7_reckon_189 ?_
                    refine k_view (V1 := gv_up V wc (.inl (cI, 120, .inl (upd (upd fc (4 * i + g) (nI 0)) (4 * i + g) (-2 : Int32))))) gv_uu ?_
                    have ne44 : nq wr wc := gv_ne h_wc h_wr (by simp)
                    refine k_view (V1 := gv_up (gv_up V wc (.inl (cI, 120, .inl (upd (upd fc (4 * i + g) (nI 0)) (4 * i + g) (-2 : Int32))))) wr (.inl (cI, 57600, .inl fr))) (gv_id ((gv_up_n ne44).trans h_wr)).symm ?_
                    have ne45 : nq wn wc := gv_ne h_wc h_wn (by simp)
                    have ne46 : nq wn wr := gv_ne h_wr h_wn (by simp)
                    refine k_view (V1 := gv_up (gv_up (gv_up V wc (.inl (cI, 120, .inl (upd (upd fc (4 * i + g) (nI 0)) (4 * i + g) (-2 : Int32))))) wr (.inl (cI, 57600, .inl fr))) wn (.inl (cI, 6, .inl fw))) (gv_id ((gv_up_n ne46).trans ((gv_up_n ne45).trans h_wn))).symm ?_
                    have ne47 : nq wv wc := gv_ne h_wc h_wv (by simp)
                    have ne48 : nq wv wr := gv_ne h_wr h_wv (by simp)
                    have ne49 : nq wv wn := gv_ne h_wn h_wv (by simp)
                    refine k_view (V1 := gv_up (gv_up (gv_up (gv_up V wc (.inl (cI, 120, .inl (upd (upd fc (4 * i + g) (nI 0)) (4 * i + g) (-2 : Int32))))) wr (.inl (cI, 57600, .inl fr))) wn (.inl (cI, 6, .inl fw))) wv (.inl (cI, 30, .inl fv))) (gv_id ((gv_up_n ne49).trans ((gv_up_n ne48).trans ((gv_up_n ne47).trans h_wv)))).symm ?_
                    have ne50 : nq wk wc := gv_ne h_wc h_wk (by simp)
                    have ne51 : nq wk wr := gv_ne h_wr h_wk (by simp)
                    have ne52 : nq wk wn := gv_ne h_wn h_wk (by simp)
                    have ne53 : nq wk wv := gv_ne h_wv h_wk (by simp)
                    refine k_view (V1 := gv_up (gv_up (gv_up (gv_up (gv_up V wc (.inl (cI, 120, .inl (upd (upd fc (4 * i + g) (nI 0)) (4 * i + g) (-2 : Int32))))) wr (.inl (cI, 57600, .inl fr))) wn (.inl (cI, 6, .inl fw))) wv (.inl (cI, 30, .inl fv))) wk (.inl (cI, 80, .inl fk))) (gv_id ((gv_up_n ne53).trans ((gv_up_n ne52).trans ((gv_up_n ne51).trans ((gv_up_n ne50).trans h_wk))))).symm ?_
                    have ne54 : nq wp wc := gv_ne h_wc h_wp (by simp)
                    have ne55 : nq wp wr := gv_ne h_wr h_wp (by simp)
                    have ne56 : nq wp wn := gv_ne h_wn h_wp (by simp)
                    have ne57 : nq wp wv := gv_ne h_wv h_wp (by simp)
                    refine k_view (V1 := gv_up (gv_up (gv_up (gv_up (gv_up (gv_up V wc (.inl (cI, 120, .inl (upd (upd fc (4 * i + g) (nI 0)) (4 * i + g) (-2 : Int32))))) wr (.inl (cI, 57600, .inl fr))) wn (.inl (cI, 6, .inl fw))) wv (.inl (cI, 30, .inl fv))) wk (.inl (cI, 80, .inl fk))) wp (.inl (cI, 80, .inl fp))) (gv_id ((gv_up_n (Ne.symm hwkp)).trans ((gv_up_n ne57).trans ((gv_up_n ne56).trans ((gv_up_n ne55).trans ((gv_up_n ne54).trans h_wp)))))).symm ?_
                    refine k_view (V1 := gv_up (gv_up (gv_up (gv_up (gv_up (gv_up V wr (.inl (cI, 57600, .inl fr))) wc (.inl (cI, 120, .inl (upd (upd fc (4 * i + g) (nI 0)) (4 * i + g) (-2 : Int32))))) wn (.inl (cI, 6, .inl fw))) wv (.inl (cI, 30, .inl fv))) wk (.inl (cI, 80, .inl fk))) wp (.inl (cI, 80, .inl fp))) (congrArg (fun W => gv_up W wp (.inl (cI, 80, .inl fp))) (congrArg (fun W => gv_up W wk (.inl (cI, 80, .inl fk))) (congrArg (fun W => gv_up W wv (.inl (cI, 30, .inl fv))) (congrArg (fun W => gv_up W wn (.inl (cI, 6, .inl fw))) (gv_uc ne44))))) ?_
                    exact k_vret C zr zlk ⟨fr, upd (upd fc (4 * i + g) (nI 0)) (4 * i + g) (-2 : Int32), fw, fv, fk, fp, rfl, rfl, (MTb.no (eachS_no (Or.inr (Or.inr b133))) upd_at), (Kp.up.tr Kp.up)⟩ (Nat.le_refl _) (Nat.le_refl _) dX7_reckon_190
        · exact absurd c85 (by decide)
      · exact absurd c71 (by decide)
  · exact absurd c50 (by decide)
