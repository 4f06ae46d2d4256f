/-! what the reference shows -/
theorem Tab.cp {M : List Row} {n : Nat} {f f1 : Nat → Int32} (h : Tab M n f) (hc : ∀ z, z < 6 * n → f1 z = f z) : Tab M n f1 := by
  refine ⟨h.1, h.2.1, fun i hi v hv => ?_⟩
  rw [← h.2.2 i hi v hv]
  exact hc _ (by omega)
theorem Tab.cell {M : List Row} {n i v : Nat} {f : Nat → Int32} (h : Tab M n f) (hi : i < n) (hv : v < 6) : f (6 * i + v) = rowAt M i v := by
  rw [Nat.mul_comm]; exact h.2.2 i hi v hv
theorem lkP_63 {x y : Row} {v : Nat} (h : v < 6) : lkP (nI 63) x y v = (x v == y v) := by
  unfold lkP
  rw [inS_63 h]; rfl
theorem cnt_n {P : Nat → Bool} {n : Nat} : cnt P (n + 1) = cnt P n + if P n = true then 1 else 0 := by
  simp only [cnt]
theorem same_0 {S1 S2 : Option (List Row)} (h : S1.isNone = true ∨ S2.isNone = true) : sameS S1 S2 = false := by
  cases S1 with
  | none => rfl
  | some A =>
    cases S2 with
    | none => rfl
    | some B => rcases h with h | h <;> cases h
set_option maxHeartbeats 4000000 in
set_option maxRecDepth 100000 in
theorem c_runL {zl : Launch} {D : va_G} {cI cN cR : ClassId} {base : Nat} {V : gv_V} {m wt wa wv wm wr wc wn ws wk wp nt ne nn sh : Nat} {kn : Int32} {ft fa fv fm fr fc fw fk fp : Nat → Int32} {E : Nat → Ex} {T : List Tr} {qk : Nat → Nat} {nv : Nat → Nat → Int32} {r : Nat}  (h_m : V m = some (.inr (7, [.int (nI nt), .ref wt, .int (nI ne), .ref wa, .ref wv, .int (nI nn), .ref wm, .int kn, .ref wr, .ref wc, .ref wn, .int (nI sh), .ref ws, .ref wk, .ref wp]))) (h_wr : V wr = some (.inl (cI, 57600, .inl fr))) (h_wc : V wc = some (.inl (cI, 120, .inl fc))) (h_wn : V wn = some (.inl (cI, 6, .inl fw))) (h_wv : V wv = some (.inl (cI, 30, .inl fv))) (h_wk : V wk = some (.inl (cI, 80, .inl fk))) (h_wp : V wp = some (.inl (cI, 80, .inl fp))) (h_wa : V wa = some (.inl (cI, 90, .inl fa))) (h_wm : V wm = some (.inl (cI, 180, .inl fm))) (h_wt : V wt = some (.inl (cI, 240, .inl ft))) (hwkp : nq wk wp) (hM : MA E ne fa) (hT : MT T nt ft) (hnn : nn ≤ 30) (hNW : ∀ k, k < nn → NW ne k (qk k) (nv k)) (hMK : ∀ k, k < nn → MK fm k (qk k) (nv k)) (hkn : kn = nI 0 ∨ (kn = nI 1 ∧ ∀ j z, j < nn → z < 4 → MTb (sem T E qk nv j z) (fc (4 * j + z)) (tbl fr (4 * j + z)))) (hr : r < nn) (hs : sem T E qk nv r 0 = none) : ct zl D [(cI, .int), (cN, .object "AlgebraTree$Node"), (cR, .object "AlgebraTree$Rows")] base yX7_run cX7_run 4 (some .int) 7 0 0 [.ref m, .int (nI r)] V (fun zv zV => ∃ fr1 : Nat → Int32, ∃ fc1 : Nat → Int32, ∃ fw1 : Nat → Int32, ∃ fv1 : Nat → Int32, ∃ fk1 : Nat → Int32, ∃ fp1 : Nat → Int32, zv = some (.int (-2 : Int32)) ∧ zV = gv_up (gv_up (gv_up (gv_up (gv_up (gv_up (gv_up V wr (.inl (cI, 57600, .inl fr1))) wc (.inl (cI, 120, .inl fc1))) wn (.inl (cI, 6, .inl fw1))) wv (.inl (cI, 30, .inl fv1))) wk (.inl (cI, 80, .inl fk1))) wp (.inl (cI, 80, .inl fp1))) m (.inr (7, [.int (nI nt), .ref wt, .int (nI ne), .ref wa, .ref wv, .int (nI nn), .ref wm, .int (nI 1), .ref wr, .ref wc, .ref wn, .int (nI sh), .ref ws, .ref wk, .ref wp])) ∧ (∀ j z, j < nn → z < 4 → MTb (sem T E qk nv j z) (fc1 (4 * j + z)) (tbl fr1 (4 * j + z)))) := by
  refine ct_of "AlgebraTreeModel" rfl (by decide) (Nat.le_of_ble_eq_true rfl) ?_
  intro zp ze zs zm zargs zbelow zmeth zc C zr zlk znm
  refine k_pc (pc' := 0) (st' := []) rfl rfl ?_
  show K zp zl ze (gv_rm 7 0 0) zs zm zargs zbelow zmeth zc D base 4 (gv_E D [(cI, .int), (cN, .object "AlgebraTree$Node"), (cR, .object "AlgebraTree$Rows")] base zbelow zargs zs 0 0 (fun zv zV => ∃ fr1 : Nat → Int32, ∃ fc1 : Nat → Int32, ∃ fw1 : Nat → Int32, ∃ fv1 : Nat → Int32, ∃ fk1 : Nat → Int32, ∃ fp1 : Nat → Int32, zv = some (.int (-2 : Int32)) ∧ zV = gv_up (gv_up (gv_up (gv_up (gv_up (gv_up (gv_up V wr (.inl (cI, 57600, .inl fr1))) wc (.inl (cI, 120, .inl fc1))) wn (.inl (cI, 6, .inl fw1))) wv (.inl (cI, 30, .inl fv1))) wk (.inl (cI, 80, .inl fk1))) wp (.inl (cI, 80, .inl fp1))) m (.inr (7, [.int (nI nt), .ref wt, .int (nI ne), .ref wa, .ref wv, .int (nI nn), .ref wm, .int (nI 1), .ref wr, .ref wc, .ref wn, .int (nI sh), .ref ws, .ref wk, .ref wp])) ∧ (∀ j z, j < nn → z < 4 → MTb (sem T E qk nv j z) (fc1 (4 * j + z)) (tbl fr1 (4 * j + z))))) V 0 0 [(0, .ref m), (1, .int (nI r))] 0 []
  refine k_aload_n C dX7_run_0 rfl 0 rfl ?_
  refine k_iload_n C dX7_run_1 rfl 1 rfl ?_
  refine k_callV_pi C mv_7_95 (c_X7_isNode  h_m ) h_m rfl rfl (by simp [Value.category]) ⟨Nat.le_of_ble_eq_true rfl, Nat.le_of_ble_eq_true rfl⟩ ⟨(by decide), (by decide)⟩ dX7_run_2 ?_
  refine k_if_ne (tgt := 10) C dX7_run_5 (by decide) (fun c5 => ?_) (fun c5 => ?_)
  · skip
    have b5 : (blw (nI r) (nI nn)) = true := bI_n.mp c5
    refine k_aload_n C dX7_run_10 rfl 0 rfl ?_
    refine k_callV C mv_7_175 (c_learn  h_m h_wr h_wc h_wn h_wv h_wk h_wp h_wa h_wm h_wt hwkp hM hT hnn hNW hMK hkn) h_m rfl rfl (by simp [Value.category]) ⟨Nat.le_of_ble_eq_true rfl, Nat.le_of_ble_eq_true rfl⟩ ⟨(by decide), (by decide)⟩ dX7_run_11 (fun zv zV zh => ?_)
    obtain ⟨fr1_w1, fc1_w1, fw1_w1, fv1_w1, fk1_w1, fp1_w1, rfl, rfl, hL1_w1⟩ := zh
    refine k_pc (pc' := 14) (st' := []) rfl rfl ?_
    refine k_iload_n C dX7_run_14 rfl 1 rfl ?_
    refine k_iconst (v := nI 0) C dX7_run_15 rfl ?_
    refine k_callS_pi C ms_7_140 (c_X7_table   ) rfl rfl (by simp [Value.category]) ⟨Nat.le_of_ble_eq_true rfl, Nat.le_of_ble_eq_true rfl⟩ ⟨(by decide), (by decide)⟩ dX7_run_16 ?_
    refine k_istore_n (lv' := [(2, .int (nI (4 * r + 0))), (0, .ref m), (1, .int (nI r))]) C dX7_run_19 rfl (by decide) rfl ?_
    refine k_aload_n C dX7_run_20 rfl 1 rfl ?_
    refine k_get (ci := 7) (k := 9) C fl_7_26 gv_up_s rfl dX7_run_21 ?_
    refine k_iload_n C dX7_run_24 rfl 0 rfl ?_
    have ne2 : nq wc wn := gv_ne h_wn h_wc (by simp)
    have ne3 : nq wc wv := gv_ne h_wv h_wc (by simp)
    have ne4 : nq wc wk := gv_ne h_wk h_wc (by simp)
    have ne5 : nq wc wp := gv_ne h_wp h_wc (by simp)
    have ne6 : nq wc m := gv_ne h_m h_wc (by simp)
    refine k_iald (v := fc1_w1 (4 * r + 0)) C 0 ((gv_up_n ne6).trans ((gv_up_n ne5).trans ((gv_up_n ne4).trans ((gv_up_n ne3).trans ((gv_up_n ne2).trans gv_up_s))))) rfl (vp_in_nI (by omega) (by omega)) (by rw [nI_clamp (by omega)]) dX7_run_25 ?_
    refine k_bipush (v := (-2 : Int32)) C dX7_run_26 (by decide) ?_
    refine k_icmp_ne (tgt := 34) C dX7_run_28 (by decide) (fun c28 => ?_) (fun c28 => ?_)
    · skip
      exact absurd ((hL1_w1 r 0 hr (by omega)).lg.mp (by rw [hs]; rfl)) c28
    · skip
      refine k_bipush (v := (-2 : Int32)) C dX7_run_31 (by decide) ?_
      exact k_iret C zr zlk ⟨fr1_w1, fc1_w1, fw1_w1, fv1_w1, fk1_w1, fp1_w1, rfl, rfl, hL1_w1⟩ (Nat.le_refl _) (Nat.le_refl _) dX7_run_33
  · skip
    exact absurd ((bI_0.mp c5).symm.trans (blw_of (by omega) (show r < nn by assumption))) (by decide)
set_option maxHeartbeats 4000000 in
set_option maxRecDepth 100000 in
theorem c_runS {zl : Launch} {D : va_G} {cI cN cR : ClassId} {base : Nat} {V : gv_V} {m wt wa wv wm wr wc wn ws wk wp nt ne nn sh : Nat} {kn : Int32} {ft fa fv fm fr fc fw fs fk fp : Nat → Int32} {E : Nat → Ex} {T : List Tr} {qk : Nat → Nat} {nv : Nat → Nat → Int32} {r : Nat} {M : List Row}  (h_m : V m = some (.inr (7, [.int (nI nt), .ref wt, .int (nI ne), .ref wa, .ref wv, .int (nI nn), .ref wm, .int kn, .ref wr, .ref wc, .ref wn, .int (nI sh), .ref ws, .ref wk, .ref wp]))) (h_wr : V wr = some (.inl (cI, 57600, .inl fr))) (h_wc : V wc = some (.inl (cI, 120, .inl fc))) (h_wn : V wn = some (.inl (cI, 6, .inl fw))) (h_wv : V wv = some (.inl (cI, 30, .inl fv))) (h_wk : V wk = some (.inl (cI, 80, .inl fk))) (h_wp : V wp = some (.inl (cI, 80, .inl fp))) (h_wa : V wa = some (.inl (cI, 90, .inl fa))) (h_wm : V wm = some (.inl (cI, 180, .inl fm))) (h_wt : V wt = some (.inl (cI, 240, .inl ft))) (h_ws : V ws = some (.inl (cI, 480, .inl fs))) (hwkp : nq wk wp) (hM : MA E ne fa) (hT : MT T nt ft) (hnn : nn ≤ 30) (hNW : ∀ k, k < nn → NW ne k (qk k) (nv k)) (hMK : ∀ k, k < nn → MK fm k (qk k) (nv k)) (hkn : kn = nI 0 ∨ (kn = nI 1 ∧ ∀ j z, j < nn → z < 4 → MTb (sem T E qk nv j z) (fc (4 * j + z)) (tbl fr (4 * j + z)))) (hr : r < nn) (hs : sem T E qk nv r 0 = some M) : ct zl D [(cI, .int), (cN, .object "AlgebraTree$Node"), (cR, .object "AlgebraTree$Rows")] base yX7_run cX7_run 4 (some .int) 7 0 0 [.ref m, .int (nI r)] V (fun zv zV => ∃ fr1 : Nat → Int32, ∃ fc1 : Nat → Int32, ∃ fw1 : Nat → Int32, ∃ fv1 : Nat → Int32, ∃ fk1 : Nat → Int32, ∃ fp1 : Nat → Int32, ∃ fs1 : Nat → Int32, zv = some (.int (nI M.length)) ∧ zV = gv_up (gv_up (gv_up (gv_up (gv_up (gv_up (gv_up (gv_up V wr (.inl (cI, 57600, .inl fr1))) wc (.inl (cI, 120, .inl fc1))) wn (.inl (cI, 6, .inl fw1))) wv (.inl (cI, 30, .inl fv1))) wk (.inl (cI, 80, .inl fk1))) wp (.inl (cI, 80, .inl fp1))) ws (.inl (cI, 480, .inl fs1))) m (.inr (7, [.int (nI nt), .ref wt, .int (nI ne), .ref wa, .ref wv, .int (nI nn), .ref wm, .int (nI 1), .ref wr, .ref wc, .ref wn, .int (nI M.length), .ref ws, .ref wk, .ref wp])) ∧ (∀ j z, j < nn → z < 4 → MTb (sem T E qk nv j z) (fc1 (4 * j + z)) (tbl fr1 (4 * j + z))) ∧ (Tab M M.length fs1)) := by
  refine ct_of "AlgebraTreeModel" rfl (by decide) (Nat.le_of_ble_eq_true rfl) ?_
  intro zp ze zs zm zargs zbelow zmeth zc C zr zlk znm
  refine k_pc (pc' := 0) (st' := []) rfl rfl ?_
  show K zp zl ze (gv_rm 7 0 0) zs zm zargs zbelow zmeth zc D base 4 (gv_E D [(cI, .int), (cN, .object "AlgebraTree$Node"), (cR, .object "AlgebraTree$Rows")] base zbelow zargs zs 0 0 (fun zv zV => ∃ fr1 : Nat → Int32, ∃ fc1 : Nat → Int32, ∃ fw1 : Nat → Int32, ∃ fv1 : Nat → Int32, ∃ fk1 : Nat → Int32, ∃ fp1 : Nat → Int32, ∃ fs1 : Nat → Int32, zv = some (.int (nI M.length)) ∧ zV = gv_up (gv_up (gv_up (gv_up (gv_up (gv_up (gv_up (gv_up V wr (.inl (cI, 57600, .inl fr1))) wc (.inl (cI, 120, .inl fc1))) wn (.inl (cI, 6, .inl fw1))) wv (.inl (cI, 30, .inl fv1))) wk (.inl (cI, 80, .inl fk1))) wp (.inl (cI, 80, .inl fp1))) ws (.inl (cI, 480, .inl fs1))) m (.inr (7, [.int (nI nt), .ref wt, .int (nI ne), .ref wa, .ref wv, .int (nI nn), .ref wm, .int (nI 1), .ref wr, .ref wc, .ref wn, .int (nI M.length), .ref ws, .ref wk, .ref wp])) ∧ (∀ j z, j < nn → z < 4 → MTb (sem T E qk nv j z) (fc1 (4 * j + z)) (tbl fr1 (4 * j + z))) ∧ (Tab M M.length fs1))) V 0 0 [(0, .ref m), (1, .int (nI r))] 0 []
  refine k_aload_n C dX7_run_0 rfl 0 rfl ?_
  refine k_iload_n C dX7_run_1 rfl 1 rfl ?_
  refine k_callV_pi C mv_7_95 (c_X7_isNode  h_m ) h_m rfl rfl (by simp [Value.category]) ⟨Nat.le_of_ble_eq_true rfl, Nat.le_of_ble_eq_true rfl⟩ ⟨(by decide), (by decide)⟩ dX7_run_2 ?_
  refine k_if_ne (tgt := 10) C dX7_run_5 (by decide) (fun c5 => ?_) (fun c5 => ?_)
  · skip
    have b5 : (blw (nI r) (nI nn)) = true := bI_n.mp c5
    refine k_aload_n C dX7_run_10 rfl 0 rfl ?_
    refine k_callV C mv_7_175 (c_learn  h_m h_wr h_wc h_wn h_wv h_wk h_wp h_wa h_wm h_wt hwkp hM hT hnn hNW hMK hkn) h_m rfl rfl (by simp [Value.category]) ⟨Nat.le_of_ble_eq_true rfl, Nat.le_of_ble_eq_true rfl⟩ ⟨(by decide), (by decide)⟩ dX7_run_11 (fun zv zV zh => ?_)
    obtain ⟨fr1_w1, fc1_w1, fw1_w1, fv1_w1, fk1_w1, fp1_w1, rfl, rfl, hL1_w1⟩ := zh
    refine k_pc (pc' := 14) (st' := []) rfl rfl ?_
    refine k_iload_n C dX7_run_14 rfl 1 rfl ?_
    refine k_iconst (v := nI 0) C dX7_run_15 rfl ?_
    refine k_callS_pi C ms_7_140 (c_X7_table   ) rfl rfl (by simp [Value.category]) ⟨Nat.le_of_ble_eq_true rfl, Nat.le_of_ble_eq_true rfl⟩ ⟨(by decide), (by decide)⟩ dX7_run_16 ?_
    refine k_istore_n (lv' := [(2, .int (nI (4 * r + 0))), (0, .ref m), (1, .int (nI r))]) C dX7_run_19 rfl (by decide) rfl ?_
    refine k_aload_n C dX7_run_20 rfl 1 rfl ?_
    refine k_get (ci := 7) (k := 9) C fl_7_26 gv_up_s rfl dX7_run_21 ?_
    refine k_iload_n C dX7_run_24 rfl 0 rfl ?_
    have ne2 : nq wc wn := gv_ne h_wn h_wc (by simp)
    have ne3 : nq wc wv := gv_ne h_wv h_wc (by simp)
    have ne4 : nq wc wk := gv_ne h_wk h_wc (by simp)
    have ne5 : nq wc wp := gv_ne h_wp h_wc (by simp)
    have ne6 : nq wc m := gv_ne h_m h_wc (by simp)
    refine k_iald (v := fc1_w1 (4 * r + 0)) C 0 ((gv_up_n ne6).trans ((gv_up_n ne5).trans ((gv_up_n ne4).trans ((gv_up_n ne3).trans ((gv_up_n ne2).trans gv_up_s))))) rfl (vp_in_nI (by omega) (by omega)) (by rw [nI_clamp (by omega)]) dX7_run_25 ?_
    refine k_bipush (v := (-2 : Int32)) C dX7_run_26 (by decide) ?_
    refine k_icmp_ne (tgt := 34) C dX7_run_28 (by decide) (fun c28 => ?_) (fun c28 => ?_)
    · skip
      obtain ⟨hcM, hTM⟩ := (hL1_w1 r 0 hr (by omega)).sm hs
      have hM80 := hTM.2.1
      refine k_aload_n C dX7_run_34 rfl 1 rfl ?_
      refine k_aload_n C dX7_run_35 rfl 1 rfl ?_
      refine k_get (ci := 7) (k := 9) C fl_7_26 gv_up_s rfl dX7_run_36 ?_
      refine k_iload_n C dX7_run_39 rfl 0 rfl ?_
      refine k_iald (v := fc1_w1 (4 * r + 0)) C 0 ((gv_up_n ne6).trans ((gv_up_n ne5).trans ((gv_up_n ne4).trans ((gv_up_n ne3).trans ((gv_up_n ne2).trans gv_up_s))))) rfl (vp_in_nI (by omega) (by omega)) (by rw [nI_clamp (by omega)]) dX7_run_40 ?_
      refine k_val (y := nI M.length) hcM ?_
      refine k_put (ci := 7) (k := 11) (fs' := [.int (nI nt), .ref wt, .int (nI ne), .ref wa, .ref wv, .int (nI nn), .ref wm, .int (nI 1), .ref wr, .ref wc, .ref wn, .int (nI M.length), .ref ws, .ref wk, .ref wp]) C fl_7_178 pf_7_11 gv_up_s rfl rfl (Nat.le_of_ble_eq_true rfl) rfl dX7_run_41 ?_
      refine k_view (V1 := gv_up (gv_up (gv_up (gv_up (gv_up (gv_up (gv_up V wr (.inl (cI, 57600, .inl fr1_w1))) wc (.inl (cI, 120, .inl fc1_w1))) wn (.inl (cI, 6, .inl fw1_w1))) wv (.inl (cI, 30, .inl fv1_w1))) wk (.inl (cI, 80, .inl fk1_w1))) wp (.inl (cI, 80, .inl fp1_w1))) m (.inr (7, [.int (nI nt), .ref wt, .int (nI ne), .ref wa, .ref wv, .int (nI nn), .ref wm, .int (nI 1), .ref wr, .ref wc, .ref wn, .int (nI M.length), .ref ws, .ref wk, .ref wp]))) gv_uu ?_
      refine k_iconst (v := nI 0) C dX7_run_44 rfl ?_
      refine k_istore_n (lv' := [(3, .int (nI 0)), (2, .int (nI (4 * r + 0))), (0, .ref m), (1, .int (nI r))]) C dX7_run_45 rfl (by decide) rfl ?_
      have L46 : ∀ (zn7 : Nat) (k : Nat) (fs2 : Nat → Int32), 6 * M.length - k < zn7 → (k ≤ 6 * M.length) → (∀ z, z < k → fs2 z = tbl fr1_w1 (4 * r + 0) z) → K zp zl ze (gv_rm 7 0 0) zs zm zargs zbelow zmeth zc D base 4 (gv_E D [(cI, .int), (cN, .object "AlgebraTree$Node"), (cR, .object "AlgebraTree$Rows")] base zbelow zargs zs 0 0 (fun zv zV => ∃ fr1 : Nat → Int32, ∃ fc1 : Nat → Int32, ∃ fw1 : Nat → Int32, ∃ fv1 : Nat → Int32, ∃ fk1 : Nat → Int32, ∃ fp1 : Nat → Int32, ∃ fs1 : Nat → Int32, zv = some (.int (nI M.length)) ∧ zV = gv_up (gv_up (gv_up (gv_up (gv_up (gv_up (gv_up (gv_up V wr (.inl (cI, 57600, .inl fr1))) wc (.inl (cI, 120, .inl fc1))) wn (.inl (cI, 6, .inl fw1))) wv (.inl (cI, 30, .inl fv1))) wk (.inl (cI, 80, .inl fk1))) wp (.inl (cI, 80, .inl fp1))) ws (.inl (cI, 480, .inl fs1))) m (.inr (7, [.int (nI nt), .ref wt, .int (nI ne), .ref wa, .ref wv, .int (nI nn), .ref wm, .int (nI 1), .ref wr, .ref wc, .ref wn, .int (nI M.length), .ref ws, .ref wk, .ref wp])) ∧ (∀ j z, j < nn → z < 4 → MTb (sem T E qk nv j z) (fc1 (4 * j + z)) (tbl fr1 (4 * j + z))) ∧ (Tab M M.length fs1))) (gv_up (gv_up (gv_up (gv_up (gv_up (gv_up (gv_up (gv_up V wr (.inl (cI, 57600, .inl fr1_w1))) wc (.inl (cI, 120, .inl fc1_w1))) wn (.inl (cI, 6, .inl fw1_w1))) wv (.inl (cI, 30, .inl fv1_w1))) wk (.inl (cI, 80, .inl fk1_w1))) wp (.inl (cI, 80, .inl fp1_w1))) m (.inr (7, [.int (nI nt), .ref wt, .int (nI ne), .ref wa, .ref wv, .int (nI nn), .ref wm, .int (nI 1), .ref wr, .ref wc, .ref wn, .int (nI M.length), .ref ws, .ref wk, .ref wp]))) ws (.inl (cI, 480, .inl fs2))) 0 0 [(3, .int (nI k)), (2, .int (nI (4 * r + 0))), (0, .ref m), (1, .int (nI r))] 46 [] := by
        intro zn7
        induction zn7 with
        | zero => intro k fs2 hlt; exact absurd hlt (Nat.not_lt_zero _)
        | succ zn7 ih46 =>
          intro k fs2 hlt46  hk hcp
          refine k_iload_n C dX7_run_46 rfl 0 rfl ?_
          refine k_bipush (v := nI 6) C dX7_run_47 rfl ?_
          refine k_aload_n C dX7_run_49 rfl 2 rfl ?_
          have ne8 : nq m ws := gv_ne h_ws h_m (by simp)
          refine k_get (ci := 7) (k := 11) C fl_7_178 ((gv_up_n ne8).trans gv_up_s) rfl dX7_run_50 ?_
          refine k_imul C dX7_run_53 ?_
          refine k_val (y := nI (6 * M.length)) (pk_mul 6 M.length) ?_
          refine k_icmp_ge (tgt := 81) C dX7_run_54 (by decide) (fun c54 => ?_) (fun c54 => ?_)
          · skip
            have b54 : (6 * M.length) ≤ k := (nI_leI (a := 6 * M.length) (b := k) (by omega) (by omega)).mp c54
            refine k_aload_n C dX7_run_81 rfl 2 rfl ?_
            refine k_get (ci := 7) (k := 11) C fl_7_178 ((gv_up_n ne8).trans gv_up_s) rfl dX7_run_82 ?_
            refine k_view (V1 := gv_up (gv_up (gv_up (gv_up (gv_up (gv_up (gv_up (gv_up V wr (.inl (cI, 57600, .inl fr1_w1))) wc (.inl (cI, 120, .inl fc1_w1))) wn (.inl (cI, 6, .inl fw1_w1))) wv (.inl (cI, 30, .inl fv1_w1))) wk (.inl (cI, 80, .inl fk1_w1))) wp (.inl (cI, 80, .inl fp1_w1))) ws (.inl (cI, 480, .inl fs2))) m (.inr (7, [.int (nI nt), .ref wt, .int (nI ne), .ref wa, .ref wv, .int (nI nn), .ref wm, .int (nI 1), .ref wr, .ref wc, .ref wn, .int (nI M.length), .ref ws, .ref wk, .ref wp]))) (gv_uc (Ne.symm ne8)) ?_
            exact k_iret C zr zlk ⟨fr1_w1, fc1_w1, fw1_w1, fv1_w1, fk1_w1, fp1_w1, fs2, rfl, rfl, hL1_w1, (hTM.cp (fun z hz => hcp z (by omega)))⟩ (Nat.le_refl _) (Nat.le_refl _) dX7_run_85
          · skip
            have b54 : ¬ (6 * M.length) ≤ k := fun z => c54 ((nI_leI (a := 6 * M.length) (b := k) (by omega) (by omega)).mpr z)
            refine k_aload_n C dX7_run_57 rfl 2 rfl ?_
            refine k_get (ci := 7) (k := 12) C fl_7_32 ((gv_up_n ne8).trans gv_up_s) rfl dX7_run_58 ?_
            refine k_iload_n C dX7_run_61 rfl 0 rfl ?_
            refine k_aload_n C dX7_run_62 rfl 2 rfl ?_
            refine k_get (ci := 7) (k := 8) C fl_7_23 ((gv_up_n ne8).trans gv_up_s) rfl dX7_run_63 ?_
            refine k_sipush (v := nI 480) C dX7_run_66 rfl ?_
            refine k_iload_n C dX7_run_69 rfl 1 rfl ?_
            refine k_imul C dX7_run_70 ?_
            refine k_val (y := nI (480 * (4 * r + 0))) (pk_mul 480 (4 * r + 0)) ?_
            refine k_iload_n C dX7_run_71 rfl 0 rfl ?_
            refine k_iadd C dX7_run_72 ?_
            refine k_val (y := nI ((480 * (4 * r + 0)) + k)) (nI_add (480 * (4 * r + 0)) k) ?_
            have ne9 : nq wr wc := gv_ne h_wc h_wr (by simp)
            have ne10 : nq wr wn := gv_ne h_wn h_wr (by simp)
            have ne11 : nq wr wv := gv_ne h_wv h_wr (by simp)
            have ne12 : nq wr wk := gv_ne h_wk h_wr (by simp)
            have ne13 : nq wr wp := gv_ne h_wp h_wr (by simp)
            have ne14 : nq wr m := gv_ne h_m h_wr (by simp)
            have ne15 : nq wr ws := gv_ne h_ws h_wr (by simp)
            refine k_iald (v := fr1_w1 ((480 * (4 * r + 0)) + k)) C 0 ((gv_up_n ne15).trans ((gv_up_n ne14).trans ((gv_up_n ne13).trans ((gv_up_n ne12).trans ((gv_up_n ne11).trans ((gv_up_n ne10).trans ((gv_up_n ne9).trans gv_up_s))))))) rfl (vp_in_nI (by omega) (by omega)) (by rw [nI_clamp (by omega)]) dX7_run_73 ?_
            refine k_iast (f' := upd fs2 k (fr1_w1 ((480 * (4 * r + 0)) + k))) C 0 gv_up_s rfl (vp_in_nI (by omega) (by omega)) (by rw [nI_clamp (by omega)]) dX7_run_74 ?_
            refine k_view (V1 := gv_up (gv_up (gv_up (gv_up (gv_up (gv_up (gv_up (gv_up V wr (.inl (cI, 57600, .inl fr1_w1))) wc (.inl (cI, 120, .inl fc1_w1))) wn (.inl (cI, 6, .inl fw1_w1))) wv (.inl (cI, 30, .inl fv1_w1))) wk (.inl (cI, 80, .inl fk1_w1))) wp (.inl (cI, 80, .inl fp1_w1))) m (.inr (7, [.int (nI nt), .ref wt, .int (nI ne), .ref wa, .ref wv, .int (nI nn), .ref wm, .int (nI 1), .ref wr, .ref wc, .ref wn, .int (nI M.length), .ref ws, .ref wk, .ref wp]))) ws (.inl (cI, 480, .inl (upd fs2 k (fr1_w1 ((480 * (4 * r + 0)) + k)))))) gv_uu ?_
            refine k_iinc (v := nI (k + 1)) (lv' := [(3, .int (nI (k + 1))), (2, .int (nI (4 * r + 0))), (0, .ref m), (1, .int (nI r))]) C dX7_run_75 (k := 0) rfl (nI_add k 1) (by decide) rfl ?_
            refine k_goto (tgt := 46) C dX7_run_78 (by decide) ?_
            exact ih46 (k + 1) (upd fs2 k (fr1_w1 ((480 * (4 * r + 0)) + k))) (by omega)  (by omega) (upd_nx hcp rfl)
      have ne16 : nq ws wr := gv_ne h_wr h_ws (by simp)
      have ne17 : nq ws wc := gv_ne h_wc h_ws (by simp)
      have ne18 : nq ws wn := gv_ne h_wn h_ws (by simp)
      have ne19 : nq ws wv := gv_ne h_wv h_ws (by simp)
      have ne20 : nq ws wk := gv_ne h_wk h_ws (by simp)
      have ne21 : nq ws wp := gv_ne h_wp h_ws (by simp)
      have ne22 : nq ws m := gv_ne h_m h_ws (by simp)
      refine k_view (V1 := gv_up (gv_up (gv_up (gv_up (gv_up (gv_up (gv_up (gv_up V wr (.inl (cI, 57600, .inl fr1_w1))) wc (.inl (cI, 120, .inl fc1_w1))) wn (.inl (cI, 6, .inl fw1_w1))) wv (.inl (cI, 30, .inl fv1_w1))) wk (.inl (cI, 80, .inl fk1_w1))) wp (.inl (cI, 80, .inl fp1_w1))) m (.inr (7, [.int (nI nt), .ref wt, .int (nI ne), .ref wa, .ref wv, .int (nI nn), .ref wm, .int (nI 1), .ref wr, .ref wc, .ref wn, .int (nI M.length), .ref ws, .ref wk, .ref wp]))) ws (.inl (cI, 480, .inl fs))) (gv_id ((gv_up_n ne22).trans ((gv_up_n ne21).trans ((gv_up_n ne20).trans ((gv_up_n ne19).trans ((gv_up_n ne18).trans ((gv_up_n ne17).trans ((gv_up_n ne16).trans h_ws)))))))).symm ?_
      exact L46 _ 0 fs (Nat.lt_succ_self _)  (by omega) (fun _ h => absurd h (Nat.not_lt_zero _))
    · skip
      exact absurd c28 (by rw [(((hL1_w1 r 0 hr (by omega))).sm hs).1]; exact nI_n2 (by have := (hL1_w1 r 0 hr (by omega)).le hs; omega))
  · skip
    exact absurd ((bI_0.mp c5).symm.trans (blw_of (by omega) (show r < nn by assumption))) (by decide)
set_option maxHeartbeats 4000000 in
set_option maxRecDepth 100000 in
theorem c_mrunN {zl : Launch} {D : va_G} {cI cN cR : ClassId} {base : Nat} {V : gv_V} {m wt wa wv wm wr wc wn ws wk wp nt ne nn sh : Nat} {kn : Int32} {x : Int32}  (h_m : V m = some (.inr (7, [.int (nI nt), .ref wt, .int (nI ne), .ref wa, .ref wv, .int (nI nn), .ref wm, .int kn, .ref wr, .ref wc, .ref wn, .int (nI sh), .ref ws, .ref wk, .ref wp]))) (hb : blw x (nI nn) = false) : ct zl D [(cI, .int), (cN, .object "AlgebraTree$Node"), (cR, .object "AlgebraTree$Rows")] base yX7_run cX7_run 4 (some .int) 7 0 0 [.ref m, .int x] V (pi (-1 : Int32) V) := by
  refine ct_of "AlgebraTreeModel" rfl (by decide) (Nat.le_of_ble_eq_true rfl) ?_
  intro zp ze zs zm zargs zbelow zmeth zc C zr zlk znm
  refine k_pc (pc' := 0) (st' := []) rfl rfl ?_
  show K zp zl ze (gv_rm 7 0 0) zs zm zargs zbelow zmeth zc D base 4 (gv_E D [(cI, .int), (cN, .object "AlgebraTree$Node"), (cR, .object "AlgebraTree$Rows")] base zbelow zargs zs 0 0 (pi (-1 : Int32) V)) V 0 0 [(0, .ref m), (1, .int x)] 0 []
  refine k_aload_n C dX7_run_0 rfl 0 rfl ?_
  refine k_iload_n C dX7_run_1 rfl 1 rfl ?_
  refine k_callV_pi C mv_7_95 (c_X7_isNode  h_m ) h_m rfl rfl (by simp [Value.category]) ⟨Nat.le_of_ble_eq_true rfl, Nat.le_of_ble_eq_true rfl⟩ ⟨(by decide), (by decide)⟩ dX7_run_2 ?_
  refine k_if_ne (tgt := 10) C dX7_run_5 (by decide) (fun c5 => ?_) (fun c5 => ?_)
  · skip
    exact absurd (hb.symm.trans (bI_n.mp c5)) (by decide)
  · skip
    have b5 : (blw x (nI nn)) = false := bI_0.mp c5
    refine k_iconst (v := (-1 : Int32)) C dX7_run_8 (by decide) ?_
    exact k_iret C zr zlk (pi_of rfl rfl) (Nat.le_refl _) (Nat.le_refl _) dX7_run_9
set_option maxHeartbeats 4000000 in
set_option maxRecDepth 100000 in
theorem c_X7_value {zl : Launch} {D : va_G} {cI cN cR : ClassId} {base : Nat} {V : gv_V} {m wt wa wv wm wr wc wn ws wk wp nt ne nn sh : Nat} {kn : Int32} {fs : Nat → Int32} {x y : Int32} {L0 : List Row}  (h_m : V m = some (.inr (7, [.int (nI nt), .ref wt, .int (nI ne), .ref wa, .ref wv, .int (nI nn), .ref wm, .int kn, .ref wr, .ref wc, .ref wn, .int (nI sh), .ref ws, .ref wk, .ref wp]))) (h_ws : V ws = some (.inl (cI, 480, .inl fs))) (hTb : Tab L0 sh fs) : ct zl D [(cI, .int), (cN, .object "AlgebraTree$Node"), (cR, .object "AlgebraTree$Rows")] base yX7_value cX7_value 3 (some .int) 1 0 0 [.ref m, .int x, .int y] V (pi (if (blw x (nI L0.length) && blw y (nI 6)) = true then rowAt L0 (tn x) (tn y) else oE) V) := by
  refine ct_of "AlgebraTreeModel" rfl (by decide) (Nat.le_of_ble_eq_true rfl) ?_
  intro zp ze zs zm zargs zbelow zmeth zc C zr zlk znm
  refine k_pc (pc' := 0) (st' := []) rfl rfl ?_
  show K zp zl ze (gv_rm 1 0 0) zs zm zargs zbelow zmeth zc D base 3 (gv_E D [(cI, .int), (cN, .object "AlgebraTree$Node"), (cR, .object "AlgebraTree$Rows")] base zbelow zargs zs 0 0 (pi (if (blw x (nI L0.length) && blw y (nI 6)) = true then rowAt L0 (tn x) (tn y) else oE) V)) V 0 0 [(0, .ref m), (1, .int x), (2, .int y)] 0 []
  have hsh := hTb.1
  have hs80 := hTb.2.1
  refine k_aload_n C dX7_value_0 rfl 0 rfl ?_
  refine k_iload_n C dX7_value_1 rfl 1 rfl ?_
  refine k_callV_pi C mv_7_181 (c_X7_isShown  h_m ) h_m rfl rfl (by simp [Value.category]) ⟨Nat.le_of_ble_eq_true rfl, Nat.le_of_ble_eq_true rfl⟩ ⟨(by decide), (by decide)⟩ dX7_value_2 ?_
  refine k_if_eq (tgt := 29) C dX7_value_5 (by decide) (fun c5 => ?_) (fun c5 => ?_)
  · skip
    have b5 : (blw x (nI sh)) = false := bI_0.mp c5
    refine k_ldc (v := (-2147483648)) C wd_784 dX7_value_29 ?_
    exact k_iret C zr zlk (pi_of (by rw [if_neg (by rw [← hsh]; simp [b5])]) rfl) (Nat.le_refl _) (Nat.le_refl _) dX7_value_31
  · skip
    have b5 : (blw x (nI sh)) = true := bI_n.mp c5
    obtain ⟨k, hk, ek⟩ := blw_nI (by omega) b5
    refine k_iload_n C dX7_value_8 rfl 2 rfl ?_
    refine k_callS_pi C ms_7_58 (c_X7_isVariable   ) rfl rfl (by simp [Value.category]) ⟨Nat.le_of_ble_eq_true rfl, Nat.le_of_ble_eq_true rfl⟩ ⟨(by decide), (by decide)⟩ dX7_value_9 ?_
    refine k_if_eq (tgt := 29) C dX7_value_12 (by decide) (fun c12 => ?_) (fun c12 => ?_)
    · skip
      have b12 : (blw y (nI 6)) = false := bI_0.mp c12
      refine k_ldc (v := (-2147483648)) C wd_784 dX7_value_29 ?_
      exact k_iret C zr zlk (pi_of (by rw [if_neg (by rw [← hsh]; simp [b12])]) rfl) (Nat.le_refl _) (Nat.le_refl _) dX7_value_31
    · skip
      have b12 : (blw y (nI 6)) = true := bI_n.mp c12
      obtain ⟨v, hv, ev1⟩ := blw_nI (by omega) b12
      refine k_aload_n C dX7_value_15 rfl 0 rfl ?_
      refine k_get (ci := 7) (k := 12) C fl_7_32 h_m rfl dX7_value_16 ?_
      refine k_bipush (v := nI 6) C dX7_value_19 rfl ?_
      refine k_iload_n C dX7_value_21 rfl 1 rfl ?_
      refine k_val (y := nI k) ek ?_
      refine k_imul C dX7_value_22 ?_
      refine k_val (y := nI (6 * k)) (pk_mul 6 k) ?_
      refine k_iload_n C dX7_value_23 rfl 2 rfl ?_
      refine k_val (y := nI v) ev1 ?_
      refine k_iadd C dX7_value_24 ?_
      refine k_val (y := nI ((6 * k) + v)) (nI_add (6 * k) v) ?_
      refine k_iald (v := fs ((6 * k) + v)) C 0 h_ws rfl (vp_in_nI (by omega) (by omega)) (by rw [nI_clamp (by omega)]) dX7_value_25 ?_
      refine k_goto (tgt := 31) C dX7_value_26 (by decide) ?_
      exact k_iret C zr zlk (pi_of (by rw [if_pos (by rw [← hsh, b5, b12]; rfl), ek, ev1, tn_nI (by omega), tn_nI (by omega)]; exact hTb.cell hk hv) rfl) (Nat.le_refl _) (Nat.le_refl _) dX7_value_31
set_option maxHeartbeats 4000000 in
set_option maxRecDepth 100000 in
theorem c_X7_look {zl : Launch} {D : va_G} {cI cN cR : ClassId} {base : Nat} {V : gv_V} {m wt wa wv wm wr wc wn ws wk wp nt ne nn sh : Nat} {kn : Int32} {fa fv fw fs : Nat → Int32} {x y : Int32} {L0 : List Row} {E : Nat → Ex}  (h_m : V m = some (.inr (7, [.int (nI nt), .ref wt, .int (nI ne), .ref wa, .ref wv, .int (nI nn), .ref wm, .int kn, .ref wr, .ref wc, .ref wn, .int (nI sh), .ref ws, .ref wk, .ref wp]))) (h_ws : V ws = some (.inl (cI, 480, .inl fs))) (h_wn : V wn = some (.inl (cI, 6, .inl fw))) (h_wv : V wv = some (.inl (cI, 30, .inl fv))) (h_wa : V wa = some (.inl (cI, 90, .inl fa))) (hTb : Tab L0 sh fs) (hM : MA E ne fa) : ct zl D [(cI, .int), (cN, .object "AlgebraTree$Node"), (cR, .object "AlgebraTree$Rows")] base yX7_look cX7_look 4 (some .int) 3 0 0 [.ref m, .int x, .int y] V (fun zv zV => ∃ fw1 : Nat → Int32, ∃ fv1 : Nat → Int32, zv = some (.int (if (blw x (nI L0.length) && blw y (nI ne)) = true then ev E (rowAt L0 (tn x)) (tn y) else oE)) ∧ zV = gv_up (gv_up V wn (.inl (cI, 6, .inl fw1))) wv (.inl (cI, 30, .inl fv1))) := by
  refine ct_of "AlgebraTreeModel" rfl (by decide) (Nat.le_of_ble_eq_true rfl) ?_
  intro zp ze zs zm zargs zbelow zmeth zc C zr zlk znm
  refine k_pc (pc' := 0) (st' := []) rfl rfl ?_
  show K zp zl ze (gv_rm 3 0 0) zs zm zargs zbelow zmeth zc D base 4 (gv_E D [(cI, .int), (cN, .object "AlgebraTree$Node"), (cR, .object "AlgebraTree$Rows")] base zbelow zargs zs 0 0 (fun zv zV => ∃ fw1 : Nat → Int32, ∃ fv1 : Nat → Int32, zv = some (.int (if (blw x (nI L0.length) && blw y (nI ne)) = true then ev E (rowAt L0 (tn x)) (tn y) else oE)) ∧ zV = gv_up (gv_up V wn (.inl (cI, 6, .inl fw1))) wv (.inl (cI, 30, .inl fv1)))) V 0 0 [(0, .ref m), (1, .int x), (2, .int y)] 0 []
  have hsh := hTb.1
  have hs80 := hTb.2.1
  have hne30 := hM.1
  refine k_aload_n C dX7_look_0 rfl 0 rfl ?_
  refine k_iload_n C dX7_look_1 rfl 1 rfl ?_
  refine k_callV_pi C mv_7_181 (c_X7_isShown  h_m ) h_m rfl rfl (by simp [Value.category]) ⟨Nat.le_of_ble_eq_true rfl, Nat.le_of_ble_eq_true rfl⟩ ⟨(by decide), (by decide)⟩ dX7_look_2 ?_
  refine k_if_eq (tgt := 16) C dX7_look_5 (by decide) (fun c5 => ?_) (fun c5 => ?_)
  · skip
    have b5 : (blw x (nI sh)) = false := bI_0.mp c5
    refine k_ldc (v := (-2147483648)) C wd_784 dX7_look_16 ?_
    refine k_view (V1 := gv_up V wn (.inl (cI, 6, .inl fw))) (gv_id h_wn).symm ?_
    have ne1 : nq wv wn := gv_ne h_wn h_wv (by simp)
    refine k_view (V1 := gv_up (gv_up V wn (.inl (cI, 6, .inl fw))) wv (.inl (cI, 30, .inl fv))) (gv_id ((gv_up_n ne1).trans h_wv)).symm ?_
    exact k_iret C zr zlk ⟨fw, fv, (congrArg (fun z => some (Value.int z)) (by rw [if_neg (by rw [← hsh]; simp [b5])])), rfl⟩ (Nat.le_refl _) (Nat.le_refl _) dX7_look_18
  · skip
    have b5 : (blw x (nI sh)) = true := bI_n.mp c5
    obtain ⟨k, hk, ek⟩ := blw_nI (by omega) b5
    refine k_aload_n C dX7_look_8 rfl 0 rfl ?_
    refine k_iload_n C dX7_look_9 rfl 2 rfl ?_
    refine k_callV_pi C mv_7_66 (c_X7_isExpression  h_m ) h_m rfl rfl (by simp [Value.category]) ⟨Nat.le_of_ble_eq_true rfl, Nat.le_of_ble_eq_true rfl⟩ ⟨(by decide), (by decide)⟩ dX7_look_10 ?_
    refine k_if_ne (tgt := 19) C dX7_look_13 (by decide) (fun c13 => ?_) (fun c13 => ?_)
    · skip
      have b13 : (blw y (nI ne)) = true := bI_n.mp c13
      obtain ⟨e, he, ee⟩ := blw_nI (by omega) b13
      refine k_iconst (v := nI 0) C dX7_look_19 rfl ?_
      refine k_istore_n (lv' := [(3, .int (nI 0)), (0, .ref m), (1, .int x), (2, .int y)]) C dX7_look_20 rfl (by decide) rfl ?_
      have L21 : ∀ (zn2 : Nat) (q : Nat) (fw2 : Nat → Int32), 6 - q < zn2 → (q ≤ 6) → (∀ z, z < q → fw2 z = rowAt L0 k z) → K zp zl ze (gv_rm 3 0 0) zs zm zargs zbelow zmeth zc D base 4 (gv_E D [(cI, .int), (cN, .object "AlgebraTree$Node"), (cR, .object "AlgebraTree$Rows")] base zbelow zargs zs 0 0 (fun zv zV => ∃ fw1 : Nat → Int32, ∃ fv1 : Nat → Int32, zv = some (.int (if (blw x (nI L0.length) && blw y (nI ne)) = true then ev E (rowAt L0 (tn x)) (tn y) else oE)) ∧ zV = gv_up (gv_up V wn (.inl (cI, 6, .inl fw1))) wv (.inl (cI, 30, .inl fv1)))) (gv_up V wn (.inl (cI, 6, .inl fw2))) 0 0 [(3, .int (nI q)), (0, .ref m), (1, .int x), (2, .int y)] 21 [] := by
        intro zn2
        induction zn2 with
        | zero => intro q fw2 hlt; exact absurd hlt (Nat.not_lt_zero _)
        | succ zn2 ih21 =>
          intro q fw2 hlt21  hq hal
          refine k_iload_n C dX7_look_21 rfl 0 rfl ?_
          refine k_bipush (v := nI 6) C dX7_look_22 rfl ?_
          refine k_icmp_ge (tgt := 50) C dX7_look_24 (by decide) (fun c24 => ?_) (fun c24 => ?_)
          · skip
            have b24 : 6 ≤ q := (nI_leI (a := 6) (b := q) (by omega) (by omega)).mp c24
            refine k_aload_n C dX7_look_50 rfl 1 rfl ?_
            refine k_iload_n C dX7_look_51 rfl 3 rfl ?_
            refine k_val (y := nI e) ee ?_
            have ne3 : nq m wn := gv_ne h_wn h_m (by simp)
            have ne4 : nq wa wn := gv_ne h_wn h_wa (by simp)
            have ne5 : nq wv wn := gv_ne h_wn h_wv (by simp)
            refine k_callV C mv_7_81 (c_X7_valueOf  ((gv_up_n ne3).trans h_m) ((gv_up_n ne4).trans h_wa) ((gv_up_n ne5).trans h_wv) gv_up_s (by first | assumption | omega) (by first | assumption | omega)) ((gv_up_n ne3).trans h_m) rfl rfl (by simp [Value.category]) ⟨Nat.le_of_ble_eq_true rfl, Nat.le_of_ble_eq_true rfl⟩ ⟨(by decide), (by decide)⟩ dX7_look_52 (fun zv zV zh => ?_)
            obtain ⟨fv1_w6, rfl, rfl⟩ := zh
            refine k_pc (pc' := 55) (st' := .int (ev E fw2 e) :: []) rfl rfl ?_
            exact k_iret C zr zlk ⟨fw2, fv1_w6, (congrArg (fun z => some (Value.int z)) (by rw [if_pos (by rw [← hsh, b5, b13]; rfl), ek, ee, tn_nI (by omega), tn_nI (by omega)]; exact hM.c he (fun z hz => hal z (by omega)))), rfl⟩ (Nat.le_refl _) (Nat.le_refl _) dX7_look_55
          · skip
            have b24 : ¬ 6 ≤ q := fun z => c24 ((nI_leI (a := 6) (b := q) (by omega) (by omega)).mpr z)
            refine k_aload_n C dX7_look_27 rfl 1 rfl ?_
            have ne7 : nq m wn := gv_ne h_wn h_m (by simp)
            refine k_get (ci := 7) (k := 10) C fl_7_29 ((gv_up_n ne7).trans h_m) rfl dX7_look_28 ?_
            refine k_iload_n C dX7_look_31 rfl 0 rfl ?_
            refine k_aload_n C dX7_look_32 rfl 1 rfl ?_
            refine k_get (ci := 7) (k := 12) C fl_7_32 ((gv_up_n ne7).trans h_m) rfl dX7_look_33 ?_
            refine k_bipush (v := nI 6) C dX7_look_36 rfl ?_
            refine k_iload_n C dX7_look_38 rfl 2 rfl ?_
            refine k_val (y := nI k) ek ?_
            refine k_imul C dX7_look_39 ?_
            refine k_val (y := nI (6 * k)) (pk_mul 6 k) ?_
            refine k_iload_n C dX7_look_40 rfl 0 rfl ?_
            refine k_iadd C dX7_look_41 ?_
            refine k_val (y := nI ((6 * k) + q)) (nI_add (6 * k) q) ?_
            have ne8 : nq ws wn := gv_ne h_wn h_ws (by simp)
            refine k_iald (v := fs ((6 * k) + q)) C 0 ((gv_up_n ne8).trans h_ws) rfl (vp_in_nI (by omega) (by omega)) (by rw [nI_clamp (by omega)]) dX7_look_42 ?_
            refine k_iast (f' := upd fw2 q (fs ((6 * k) + q))) C 0 gv_up_s rfl (vp_in_nI (by omega) (by omega)) (by rw [nI_clamp (by omega)]) dX7_look_43 ?_
            refine k_view (V1 := gv_up V wn (.inl (cI, 6, .inl (upd fw2 q (fs ((6 * k) + q)))))) gv_uu ?_
            refine k_iinc (v := nI (q + 1)) (lv' := [(3, .int (nI (q + 1))), (0, .ref m), (1, .int x), (2, .int y)]) C dX7_look_44 (k := 0) rfl (nI_add q 1) (by decide) rfl ?_
            refine k_goto (tgt := 21) C dX7_look_47 (by decide) ?_
            exact ih21 (q + 1) (upd fw2 q (fs ((6 * k) + q))) (by omega)  (by omega) (upd_nx hal (hTb.cell hk (by omega)))
      refine k_view (V1 := gv_up V wn (.inl (cI, 6, .inl fw))) (gv_id h_wn).symm ?_
      exact L21 _ 0 fw (Nat.lt_succ_self _)  (by omega) (fun _ h => absurd h (Nat.not_lt_zero _))
    · skip
      have b13 : (blw y (nI ne)) = false := bI_0.mp c13
      refine k_ldc (v := (-2147483648)) C wd_784 dX7_look_16 ?_
      refine k_view (V1 := gv_up V wn (.inl (cI, 6, .inl fw))) (gv_id h_wn).symm ?_
      have ne9 : nq wv wn := gv_ne h_wn h_wv (by simp)
      refine k_view (V1 := gv_up (gv_up V wn (.inl (cI, 6, .inl fw))) wv (.inl (cI, 30, .inl fv))) (gv_id ((gv_up_n ne9).trans h_wv)).symm ?_
      exact k_iret C zr zlk ⟨fw, fv, (congrArg (fun z => some (Value.int z)) (by rw [if_neg (by rw [← hsh]; simp [b13])])), rfl⟩ (Nat.le_refl _) (Nat.le_refl _) dX7_look_18
set_option maxHeartbeats 4000000 in
set_option maxRecDepth 100000 in
theorem c_X7_many {zl : Launch} {D : va_G} {cI cN cR : ClassId} {base : Nat} {V : gv_V} {m wt wa wv wm wr wc wn ws wk wp nt ne nn sh : Nat} {kn : Int32} {fs : Nat → Int32} {x : Int32} {L0 : List Row}  (h_m : V m = some (.inr (7, [.int (nI nt), .ref wt, .int (nI ne), .ref wa, .ref wv, .int (nI nn), .ref wm, .int kn, .ref wr, .ref wc, .ref wn, .int (nI sh), .ref ws, .ref wk, .ref wp]))) (h_ws : V ws = some (.inl (cI, 480, .inl fs))) (hTb : Tab L0 sh fs) : ct zl D [(cI, .int), (cN, .object "AlgebraTree$Node"), (cR, .object "AlgebraTree$Rows")] base yX7_many cX7_many 6 (some .int) 1 0 0 [.ref m, .int x] V (pi (if blw x (nI L0.length) = true then nI (cntR L0 (rowAt L0 (tn x))) else -1) V) := by
  refine ct_of "AlgebraTreeModel" rfl (by decide) (Nat.le_of_ble_eq_true rfl) ?_
  intro zp ze zs zm zargs zbelow zmeth zc C zr zlk znm
  refine k_pc (pc' := 0) (st' := []) rfl rfl ?_
  show K zp zl ze (gv_rm 1 0 0) zs zm zargs zbelow zmeth zc D base 6 (gv_E D [(cI, .int), (cN, .object "AlgebraTree$Node"), (cR, .object "AlgebraTree$Rows")] base zbelow zargs zs 0 0 (pi (if blw x (nI L0.length) = true then nI (cntR L0 (rowAt L0 (tn x))) else -1) V)) V 0 0 [(0, .ref m), (1, .int x)] 0 []
  have hsh := hTb.1
  have hs80 := hTb.2.1
  refine k_aload_n C dX7_many_0 rfl 0 rfl ?_
  refine k_iload_n C dX7_many_1 rfl 1 rfl ?_
  refine k_callV_pi C mv_7_181 (c_X7_isShown  h_m ) h_m rfl rfl (by simp [Value.category]) ⟨Nat.le_of_ble_eq_true rfl, Nat.le_of_ble_eq_true rfl⟩ ⟨(by decide), (by decide)⟩ dX7_many_2 ?_
  refine k_if_ne (tgt := 10) C dX7_many_5 (by decide) (fun c5 => ?_) (fun c5 => ?_)
  · skip
    have b5 : (blw x (nI sh)) = true := bI_n.mp c5
    obtain ⟨k, hk, ek⟩ := blw_nI (by omega) b5
    refine k_iconst (v := nI 0) C dX7_many_10 rfl ?_
    refine k_istore_n (lv' := [(2, .int (nI 0)), (0, .ref m), (1, .int x)]) C dX7_many_11 rfl (by decide) rfl ?_
    refine k_iconst (v := nI 0) C dX7_many_12 rfl ?_
    refine k_istore_n (lv' := [(3, .int (nI 0)), (2, .int (nI 0)), (0, .ref m), (1, .int x)]) C dX7_many_13 rfl (by decide) rfl ?_
    have L14 : ∀ (zn1 : Nat) (j : Nat) (n : Nat), sh - j < zn1 → (j ≤ sh) → (n = cnt (fun z => lik (nI 63) (rowAt L0 z) (rowAt L0 k)) j) → (n ≤ j) → K zp zl ze (gv_rm 1 0 0) zs zm zargs zbelow zmeth zc D base 6 (gv_E D [(cI, .int), (cN, .object "AlgebraTree$Node"), (cR, .object "AlgebraTree$Rows")] base zbelow zargs zs 0 0 (pi (if blw x (nI L0.length) = true then nI (cntR L0 (rowAt L0 (tn x))) else -1) V)) V 0 0 [(3, .int (nI j)), (2, .int (nI n)), (0, .ref m), (1, .int x)] 14 [] := by
      intro zn1
      induction zn1 with
      | zero => intro j n hlt; exact absurd hlt (Nat.not_lt_zero _)
      | succ zn1 ih14 =>
        intro j n hlt14  hj hn hnj
        refine k_iload_n C dX7_many_14 rfl 0 rfl ?_
        refine k_aload_n C dX7_many_15 rfl 2 rfl ?_
        refine k_get (ci := 7) (k := 11) C fl_7_178 h_m rfl dX7_many_16 ?_
        refine k_icmp_ge (tgt := 99) C dX7_many_19 (by decide) (fun c19 => ?_) (fun c19 => ?_)
        · skip
          have b19 : sh ≤ j := (nI_leI (a := sh) (b := j) (by omega) (by omega)).mp c19
          refine k_iload_n C dX7_many_99 rfl 1 rfl ?_
          exact k_iret C zr zlk (pi_of (by rw [if_pos (by rw [← hsh]; exact b5), hn, ek, tn_nI (by omega), show j = L0.length by omega]; rfl) rfl) (Nat.le_refl _) (Nat.le_refl _) dX7_many_100
        · skip
          have b19 : ¬ sh ≤ j := fun z => c19 ((nI_leI (a := sh) (b := j) (by omega) (by omega)).mpr z)
          refine k_iconst (v := nI 1) C dX7_many_22 rfl ?_
          refine k_istore (lv' := [(4, .int (nI 1)), (3, .int (nI j)), (2, .int (nI n)), (0, .ref m), (1, .int x)]) C dX7_many_23 (by decide) rfl ?_
          refine k_iconst (v := nI 0) C dX7_many_25 rfl ?_
          refine k_istore (lv' := [(5, .int (nI 0)), (4, .int (nI 1)), (3, .int (nI j)), (2, .int (nI n)), (0, .ref m), (1, .int x)]) C dX7_many_26 (by decide) rfl ?_
          have L28 : ∀ (zn2 : Nat) (v : Nat) (bb : Bool), 6 - v < zn2 → (v ≤ 6) → (bb = al (lkP (nI 63) (rowAt L0 j) (rowAt L0 k)) v) → K zp zl ze (gv_rm 1 0 0) zs zm zargs zbelow zmeth zc D base 6 (gv_E D [(cI, .int), (cN, .object "AlgebraTree$Node"), (cR, .object "AlgebraTree$Rows")] base zbelow zargs zs 0 0 (pi (if blw x (nI L0.length) = true then nI (cntR L0 (rowAt L0 (tn x))) else -1) V)) V 0 0 [(5, .int (nI v)), (4, .int (bI bb)), (3, .int (nI j)), (2, .int (nI n)), (0, .ref m), (1, .int x)] 28 [] := by
            intro zn2
            induction zn2 with
            | zero => intro v bb hlt; exact absurd hlt (Nat.not_lt_zero _)
            | succ zn2 ih28 =>
              intro v bb hlt28  hv hbb
              refine k_iload C dX7_many_28 0 rfl ?_
              refine k_bipush (v := nI 6) C dX7_many_30 rfl ?_
              refine k_icmp_ge (tgt := 80) C dX7_many_32 (by decide) (fun c32 => ?_) (fun c32 => ?_)
              · skip
                have b32 : 6 ≤ v := (nI_leI (a := 6) (b := v) (by omega) (by omega)).mp c32
                have hlk : lik (nI 63) (rowAt L0 j) (rowAt L0 k) = bb := by
                  have : v = 6 := by omega
                  rw [hbb, this]; rfl
                refine k_iload_n C dX7_many_80 rfl 3 rfl ?_
                refine k_iload C dX7_many_81 1 rfl ?_
                refine k_if_eq (tgt := 90) C dX7_many_83 (by decide) (fun c83 => ?_) (fun c83 => ?_)
                · skip
                  have b83 : bb = false := bI_0.mp c83
                  refine k_iconst (v := nI 0) C dX7_many_90 rfl ?_
                  refine k_iadd C dX7_many_91 ?_
                  refine k_val (y := nI (n + 0)) (nI_add n 0) ?_
                  refine k_istore_n (lv' := [(2, .int (nI (n + 0))), (5, .int (nI v)), (4, .int (bI bb)), (3, .int (nI j)), (0, .ref m), (1, .int x)]) C dX7_many_92 rfl (by decide) rfl ?_
                  refine k_iinc (v := nI (j + 1)) (lv' := [(3, .int (nI (j + 1))), (2, .int (nI (n + 0))), (5, .int (nI v)), (4, .int (bI bb)), (0, .ref m), (1, .int x)]) C dX7_many_93 (k := 3) rfl (nI_add j 1) (by decide) rfl ?_
                  refine k_goto (tgt := 14) C dX7_many_96 (by decide) ?_
                  refine k_sub [0, 1, 4, 5] (lv' := [(3, .int (nI (j + 1))), (2, .int (nI (n + 0))), (0, .ref m), (1, .int x)]) rfl ?_
                  exact ih14 (j + 1) (n + 0) (by omega)  (by omega) (by rw [cnt_n, ← hn, hlk, b83]; rfl) (by omega)
                · skip
                  have b83 : bb = true := bI_n.mp c83
                  refine k_iconst (v := nI 1) C dX7_many_86 rfl ?_
                  refine k_goto (tgt := 91) C dX7_many_87 (by decide) ?_
                  refine k_iadd C dX7_many_91 ?_
                  refine k_val (y := nI (n + 1)) (nI_add n 1) ?_
                  refine k_istore_n (lv' := [(2, .int (nI (n + 1))), (5, .int (nI v)), (4, .int (bI bb)), (3, .int (nI j)), (0, .ref m), (1, .int x)]) C dX7_many_92 rfl (by decide) rfl ?_
                  refine k_iinc (v := nI (j + 1)) (lv' := [(3, .int (nI (j + 1))), (2, .int (nI (n + 1))), (5, .int (nI v)), (4, .int (bI bb)), (0, .ref m), (1, .int x)]) C dX7_many_93 (k := 3) rfl (nI_add j 1) (by decide) rfl ?_
                  refine k_goto (tgt := 14) C dX7_many_96 (by decide) ?_
                  refine k_sub [0, 1, 4, 5] (lv' := [(3, .int (nI (j + 1))), (2, .int (nI (n + 1))), (0, .ref m), (1, .int x)]) rfl ?_
                  exact ih14 (j + 1) (n + 1) (by omega)  (by omega) (by rw [cnt_n, ← hn, hlk, b83]; rfl) (by omega)
              · skip
                have b32 : ¬ 6 ≤ v := fun z => c32 ((nI_leI (a := 6) (b := v) (by omega) (by omega)).mpr z)
                refine k_iload C dX7_many_35 1 rfl ?_
                refine k_if_eq (tgt := 71) C dX7_many_37 (by decide) (fun c37 => ?_) (fun c37 => ?_)
                · skip
                  have b37 : bb = false := bI_0.mp c37
                  refine k_iconst (v := nI 0) C dX7_many_71 rfl ?_
                  refine k_istore (lv' := [(4, .int (nI 0)), (5, .int (nI v)), (3, .int (nI j)), (2, .int (nI n)), (0, .ref m), (1, .int x)]) C dX7_many_72 (by decide) rfl ?_
                  refine k_iinc (v := nI (v + 1)) (lv' := [(5, .int (nI (v + 1))), (4, .int (nI 0)), (3, .int (nI j)), (2, .int (nI n)), (0, .ref m), (1, .int x)]) C dX7_many_74 (k := 1) rfl (nI_add v 1) (by decide) rfl ?_
                  refine k_goto (tgt := 28) C dX7_many_77 (by decide) ?_
                  refine k_lve (lv' := [(5, .int (nI (v + 1))), (4, .int (bI false)), (3, .int (nI j)), (2, .int (nI n)), (0, .ref m), (1, .int x)]) rfl ?_
                  exact ih28 (v + 1) false (by omega)  (by omega) (by simp only [al]; rw [← hbb, b37]; rfl)
                · skip
                  have b37 : bb = true := bI_n.mp c37
                  refine k_aload_n C dX7_many_40 rfl 4 rfl ?_
                  refine k_get (ci := 7) (k := 12) C fl_7_32 h_m rfl dX7_many_41 ?_
                  refine k_bipush (v := nI 6) C dX7_many_44 rfl ?_
                  refine k_iload_n C dX7_many_46 rfl 5 rfl ?_
                  refine k_val (y := nI k) ek ?_
                  refine k_imul C dX7_many_47 ?_
                  refine k_val (y := nI (6 * k)) (pk_mul 6 k) ?_
                  refine k_iload C dX7_many_48 0 rfl ?_
                  refine k_iadd C dX7_many_50 ?_
                  refine k_val (y := nI ((6 * k) + v)) (nI_add (6 * k) v) ?_
                  refine k_iald (v := fs ((6 * k) + v)) C 0 h_ws rfl (vp_in_nI (by omega) (by omega)) (by rw [nI_clamp (by omega)]) dX7_many_51 ?_
                  refine k_aload_n C dX7_many_52 rfl 4 rfl ?_
                  refine k_get (ci := 7) (k := 12) C fl_7_32 h_m rfl dX7_many_53 ?_
                  refine k_bipush (v := nI 6) C dX7_many_56 rfl ?_
                  refine k_iload_n C dX7_many_58 rfl 2 rfl ?_
                  refine k_imul C dX7_many_59 ?_
                  refine k_val (y := nI (6 * j)) (pk_mul 6 j) ?_
                  refine k_iload C dX7_many_60 0 rfl ?_
                  refine k_iadd C dX7_many_62 ?_
                  refine k_val (y := nI ((6 * j) + v)) (nI_add (6 * j) v) ?_
                  refine k_iald (v := fs ((6 * j) + v)) C 0 h_ws rfl (vp_in_nI (by omega) (by omega)) (by rw [nI_clamp (by omega)]) dX7_many_63 ?_
                  refine k_icmp_ne (tgt := 71) C dX7_many_64 (by decide) (fun c64 => ?_) (fun c64 => ?_)
                  · skip
                    refine k_iconst (v := nI 0) C dX7_many_71 rfl ?_
                    refine k_istore (lv' := [(4, .int (nI 0)), (5, .int (nI v)), (3, .int (nI j)), (2, .int (nI n)), (0, .ref m), (1, .int x)]) C dX7_many_72 (by decide) rfl ?_
                    refine k_iinc (v := nI (v + 1)) (lv' := [(5, .int (nI (v + 1))), (4, .int (nI 0)), (3, .int (nI j)), (2, .int (nI n)), (0, .ref m), (1, .int x)]) C dX7_many_74 (k := 1) rfl (nI_add v 1) (by decide) rfl ?_
                    refine k_goto (tgt := 28) C dX7_many_77 (by decide) ?_
                    refine k_lve (lv' := [(5, .int (nI (v + 1))), (4, .int (bI false)), (3, .int (nI j)), (2, .int (nI n)), (0, .ref m), (1, .int x)]) rfl ?_
                    exact ih28 (v + 1) false (by omega)  (by omega) (by simp only [al]; rw [← hbb, lkP_63 (by omega), ← hTb.cell (i := j) (by omega) (by omega), ← hTb.cell hk (by omega), beq_eq_false_iff_ne.mpr (fun h => c64 h.symm), Bool.and_false])
                  · skip
                    refine k_iconst (v := nI 1) C dX7_many_67 rfl ?_
                    refine k_goto (tgt := 72) C dX7_many_68 (by decide) ?_
                    refine k_istore (lv' := [(4, .int (nI 1)), (5, .int (nI v)), (3, .int (nI j)), (2, .int (nI n)), (0, .ref m), (1, .int x)]) C dX7_many_72 (by decide) rfl ?_
                    refine k_iinc (v := nI (v + 1)) (lv' := [(5, .int (nI (v + 1))), (4, .int (nI 1)), (3, .int (nI j)), (2, .int (nI n)), (0, .ref m), (1, .int x)]) C dX7_many_74 (k := 1) rfl (nI_add v 1) (by decide) rfl ?_
                    refine k_goto (tgt := 28) C dX7_many_77 (by decide) ?_
                    refine k_lve (lv' := [(5, .int (nI (v + 1))), (4, .int (bI true)), (3, .int (nI j)), (2, .int (nI n)), (0, .ref m), (1, .int x)]) rfl ?_
                    exact ih28 (v + 1) true (by omega)  (by omega) (by simp only [al]; rw [← hbb, lkP_63 (by omega), b37, ← hTb.cell (i := j) (by omega) (by omega), ← hTb.cell hk (by omega), c64]; simp)
          refine k_lve (lv' := [(5, .int (nI 0)), (4, .int (bI true)), (3, .int (nI j)), (2, .int (nI n)), (0, .ref m), (1, .int x)]) rfl ?_
          exact L28 _ 0 true (Nat.lt_succ_self _)  (by omega) rfl
    exact L14 _ 0 0 (Nat.lt_succ_self _)  (by omega) rfl (by omega)
  · skip
    have b5 : (blw x (nI sh)) = false := bI_0.mp c5
    refine k_iconst (v := (-1 : Int32)) C dX7_many_8 (by decide) ?_
    exact k_iret C zr zlk (pi_of (by rw [if_neg (by rw [← hsh]; simp [b5])]) rfl) (Nat.le_refl _) (Nat.le_refl _) dX7_many_9
set_option maxHeartbeats 4000000 in
set_option maxRecDepth 100000 in
theorem c_X7_often {zl : Launch} {D : va_G} {cI cN cR : ClassId} {base : Nat} {V : gv_V} {m wt wa wv wm wr wc wn ws wk wp nt ne nn sh : Nat} {kn : Int32} {fr fc : Nat → Int32} {t i u n n2 : Nat} {A B : List Row}  (h_m : V m = some (.inr (7, [.int (nI nt), .ref wt, .int (nI ne), .ref wa, .ref wv, .int (nI nn), .ref wm, .int kn, .ref wr, .ref wc, .ref wn, .int (nI sh), .ref ws, .ref wk, .ref wp]))) (h_wr : V wr = some (.inl (cI, 57600, .inl fr))) (h_wc : V wc = some (.inl (cI, 120, .inl fc))) (hA : Tab A n (tbl fr t)) (ht : t < 120) (hi : i < n) (hB : Tab B n2 (tbl fr u)) (hcB : fc u = nI n2) (hu : u < 120) : ct zl D [(cI, .int), (cN, .object "AlgebraTree$Node"), (cR, .object "AlgebraTree$Rows")] base yX7_often cX7_often 6 (some .int) 2 0 0 [.ref m, .int (nI t), .int (nI i), .int (nI u)] V (pi (nI (cntR B (rowAt A i))) V) := by
  refine ct_of "AlgebraTreeModel" rfl (by decide) (Nat.le_of_ble_eq_true rfl) ?_
  intro zp ze zs zm zargs zbelow zmeth zc C zr zlk znm
  refine k_pc (pc' := 0) (st' := []) rfl rfl ?_
  show K zp zl ze (gv_rm 2 0 0) zs zm zargs zbelow zmeth zc D base 6 (gv_E D [(cI, .int), (cN, .object "AlgebraTree$Node"), (cR, .object "AlgebraTree$Rows")] base zbelow zargs zs 0 0 (pi (nI (cntR B (rowAt A i))) V)) V 0 0 [(0, .ref m), (1, .int (nI t)), (2, .int (nI i)), (3, .int (nI u))] 0 []
  have hA2 := hA.2.1
  have hB2 := hB.2.1
  have hB3 := hB.1
  refine k_iconst (v := nI 0) C dX7_often_0 rfl ?_
  refine k_istore (lv' := [(4, .int (nI 0)), (0, .ref m), (1, .int (nI t)), (2, .int (nI i)), (3, .int (nI u))]) C dX7_often_1 (by decide) rfl ?_
  refine k_iconst (v := nI 0) C dX7_often_3 rfl ?_
  refine k_istore (lv' := [(5, .int (nI 0)), (4, .int (nI 0)), (0, .ref m), (1, .int (nI t)), (2, .int (nI i)), (3, .int (nI u))]) C dX7_often_4 (by decide) rfl ?_
  have L6 : ∀ (zn1 : Nat) (j : Nat) (n0 : Nat), n2 - j < zn1 → (j ≤ n2) → (n0 = cnt (fun z => lik (nI 63) (rowAt B z) (rowAt A i)) j) → (n0 ≤ j) → K zp zl ze (gv_rm 2 0 0) zs zm zargs zbelow zmeth zc D base 6 (gv_E D [(cI, .int), (cN, .object "AlgebraTree$Node"), (cR, .object "AlgebraTree$Rows")] base zbelow zargs zs 0 0 (pi (nI (cntR B (rowAt A i))) V)) V 0 0 [(5, .int (nI j)), (4, .int (nI n0)), (0, .ref m), (1, .int (nI t)), (2, .int (nI i)), (3, .int (nI u))] 6 [] := by
    intro zn1
    induction zn1 with
    | zero => intro j n0 hlt; exact absurd hlt (Nat.not_lt_zero _)
    | succ zn1 ih6 =>
      intro j n0 hlt6  hj hn0 hnj
      refine k_iload C dX7_often_6 0 rfl ?_
      refine k_aload_n C dX7_often_8 rfl 2 rfl ?_
      refine k_get (ci := 7) (k := 9) C fl_7_26 h_m rfl dX7_often_9 ?_
      refine k_iload_n C dX7_often_12 rfl 5 rfl ?_
      refine k_iald (v := fc u) C 0 h_wc rfl (vp_in_nI (by omega) (by omega)) (by rw [nI_clamp (by omega)]) dX7_often_13 ?_
      refine k_val (y := nI n2) hcB ?_
      refine k_icmp_ge (tgt := 47) C dX7_often_14 (by decide) (fun c14 => ?_) (fun c14 => ?_)
      · skip
        have b14 : n2 ≤ j := (nI_leI (a := n2) (b := j) (by omega) (by omega)).mp c14
        refine k_iload C dX7_often_47 1 rfl ?_
        exact k_iret C zr zlk (pi_of (by rw [hn0, show j = B.length by omega]; rfl) rfl) (Nat.le_refl _) (Nat.le_refl _) dX7_often_49
      · skip
        have b14 : ¬ n2 ≤ j := fun z => c14 ((nI_leI (a := n2) (b := j) (by omega) (by omega)).mpr z)
        refine k_iload C dX7_often_17 1 rfl ?_
        refine k_aload_n C dX7_often_19 rfl 2 rfl ?_
        refine k_iload_n C dX7_often_20 rfl 3 rfl ?_
        refine k_iload_n C dX7_often_21 rfl 4 rfl ?_
        refine k_iload_n C dX7_often_22 rfl 5 rfl ?_
        refine k_iload C dX7_often_23 0 rfl ?_
        refine k_bipush (v := nI 63) C dX7_often_25 rfl ?_
        refine k_callV_pi C mv_7_130 (c_X7_alike  h_m h_wr (by first | assumption | omega) (by omega) (by first | assumption | omega) (by omega)) h_m rfl rfl (by simp [Value.category]) ⟨Nat.le_of_ble_eq_true rfl, Nat.le_of_ble_eq_true rfl⟩ ⟨(by decide), (by decide)⟩ dX7_often_27 ?_
        refine k_if_eq (tgt := 37) C dX7_often_30 (by decide) (fun c30 => ?_) (fun c30 => ?_)
        · skip
          have b30 : (lik (nI 63) (rwf (tbl fr t) i) (rwf (tbl fr u) j)) = false := bI_0.mp c30
          refine k_iconst (v := nI 0) C dX7_often_37 rfl ?_
          refine k_iadd C dX7_often_38 ?_
          refine k_val (y := nI (n0 + 0)) (nI_add n0 0) ?_
          refine k_istore (lv' := [(4, .int (nI (n0 + 0))), (5, .int (nI j)), (0, .ref m), (1, .int (nI t)), (2, .int (nI i)), (3, .int (nI u))]) C dX7_often_39 (by decide) rfl ?_
          refine k_iinc (v := nI (j + 1)) (lv' := [(5, .int (nI (j + 1))), (4, .int (nI (n0 + 0))), (0, .ref m), (1, .int (nI t)), (2, .int (nI i)), (3, .int (nI u))]) C dX7_often_41 (k := 1) rfl (nI_add j 1) (by decide) rfl ?_
          refine k_goto (tgt := 6) C dX7_often_44 (by decide) ?_
          exact ih6 (j + 1) (n0 + 0) (by omega)  (by omega) (by rw [cnt_n, ← hn0, lik_sym, ← lik_c (hA.at hi) (hB.at (i := j) (by omega)), b30]; rfl) (by omega)
        · skip
          have b30 : (lik (nI 63) (rwf (tbl fr t) i) (rwf (tbl fr u) j)) = true := bI_n.mp c30
          refine k_iconst (v := nI 1) C dX7_often_33 rfl ?_
          refine k_goto (tgt := 38) C dX7_often_34 (by decide) ?_
          refine k_iadd C dX7_often_38 ?_
          refine k_val (y := nI (n0 + 1)) (nI_add n0 1) ?_
          refine k_istore (lv' := [(4, .int (nI (n0 + 1))), (5, .int (nI j)), (0, .ref m), (1, .int (nI t)), (2, .int (nI i)), (3, .int (nI u))]) C dX7_often_39 (by decide) rfl ?_
          refine k_iinc (v := nI (j + 1)) (lv' := [(5, .int (nI (j + 1))), (4, .int (nI (n0 + 1))), (0, .ref m), (1, .int (nI t)), (2, .int (nI i)), (3, .int (nI u))]) C dX7_often_41 (k := 1) rfl (nI_add j 1) (by decide) rfl ?_
          refine k_goto (tgt := 6) C dX7_often_44 (by decide) ?_
          exact ih6 (j + 1) (n0 + 1) (by omega)  (by omega) (by rw [cnt_n, ← hn0, lik_sym, ← lik_c (hA.at hi) (hB.at (i := j) (by omega)), b30]; rfl) (by omega)
  exact L6 _ 0 0 (Nat.lt_succ_self _)  (by omega) rfl (by omega)
set_option maxHeartbeats 4000000 in
set_option maxRecDepth 100000 in
theorem c_sameM {zl : Launch} {D : va_G} {cI cN cR : ClassId} {base : Nat} {V : gv_V} {m wt wa wv wm wr wc wn ws wk wp nt ne nn sh : Nat} {kn : Int32} {ft fa fv fm fr fc fw fk fp : Nat → Int32} {E : Nat → Ex} {T : List Tr} {qk : Nat → Nat} {nv : Nat → Nat → Int32} {r r2 : Nat}  (h_m : V m = some (.inr (7, [.int (nI nt), .ref wt, .int (nI ne), .ref wa, .ref wv, .int (nI nn), .ref wm, .int kn, .ref wr, .ref wc, .ref wn, .int (nI sh), .ref ws, .ref wk, .ref wp]))) (h_wr : V wr = some (.inl (cI, 57600, .inl fr))) (h_wc : V wc = some (.inl (cI, 120, .inl fc))) (h_wn : V wn = some (.inl (cI, 6, .inl fw))) (h_wv : V wv = some (.inl (cI, 30, .inl fv))) (h_wk : V wk = some (.inl (cI, 80, .inl fk))) (h_wp : V wp = some (.inl (cI, 80, .inl fp))) (h_wa : V wa = some (.inl (cI, 90, .inl fa))) (h_wm : V wm = some (.inl (cI, 180, .inl fm))) (h_wt : V wt = some (.inl (cI, 240, .inl ft))) (hwkp : nq wk wp) (hM : MA E ne fa) (hT : MT T nt ft) (hnn : nn ≤ 30) (hNW : ∀ k, k < nn → NW ne k (qk k) (nv k)) (hMK : ∀ k, k < nn → MK fm k (qk k) (nv k)) (hkn : kn = nI 0 ∨ (kn = nI 1 ∧ ∀ j z, j < nn → z < 4 → MTb (sem T E qk nv j z) (fc (4 * j + z)) (tbl fr (4 * j + z)))) (hr : r < nn) (hr2 : r2 < nn) : ct zl D [(cI, .int), (cN, .object "AlgebraTree$Node"), (cR, .object "AlgebraTree$Rows")] base yX7_same cX7_same 6 (some .boolean) 7 0 0 [.ref m, .int (nI r), .int (nI r2)] V (fun zv zV => ∃ fr1 : Nat → Int32, ∃ fc1 : Nat → Int32, ∃ fw1 : Nat → Int32, ∃ fv1 : Nat → Int32, ∃ fk1 : Nat → Int32, ∃ fp1 : Nat → Int32, zv = some (.int (bI (sameS (sem T E qk nv r 0) (sem T E qk nv r2 0)))) ∧ zV = gv_up (gv_up (gv_up (gv_up (gv_up (gv_up (gv_up V wr (.inl (cI, 57600, .inl fr1))) wc (.inl (cI, 120, .inl fc1))) wn (.inl (cI, 6, .inl fw1))) wv (.inl (cI, 30, .inl fv1))) wk (.inl (cI, 80, .inl fk1))) wp (.inl (cI, 80, .inl fp1))) m (.inr (7, [.int (nI nt), .ref wt, .int (nI ne), .ref wa, .ref wv, .int (nI nn), .ref wm, .int (nI 1), .ref wr, .ref wc, .ref wn, .int (nI sh), .ref ws, .ref wk, .ref wp])) ∧ (∀ j z, j < nn → z < 4 → MTb (sem T E qk nv j z) (fc1 (4 * j + z)) (tbl fr1 (4 * j + z)))) := by
  refine ct_of "AlgebraTreeModel" rfl (by decide) (Nat.le_of_ble_eq_true rfl) ?_
  intro zp ze zs zm zargs zbelow zmeth zc C zr zlk znm
  refine k_pc (pc' := 0) (st' := []) rfl rfl ?_
  show K zp zl ze (gv_rm 7 0 0) zs zm zargs zbelow zmeth zc D base 6 (gv_E D [(cI, .int), (cN, .object "AlgebraTree$Node"), (cR, .object "AlgebraTree$Rows")] base zbelow zargs zs 0 0 (fun zv zV => ∃ fr1 : Nat → Int32, ∃ fc1 : Nat → Int32, ∃ fw1 : Nat → Int32, ∃ fv1 : Nat → Int32, ∃ fk1 : Nat → Int32, ∃ fp1 : Nat → Int32, zv = some (.int (bI (sameS (sem T E qk nv r 0) (sem T E qk nv r2 0)))) ∧ zV = gv_up (gv_up (gv_up (gv_up (gv_up (gv_up (gv_up V wr (.inl (cI, 57600, .inl fr1))) wc (.inl (cI, 120, .inl fc1))) wn (.inl (cI, 6, .inl fw1))) wv (.inl (cI, 30, .inl fv1))) wk (.inl (cI, 80, .inl fk1))) wp (.inl (cI, 80, .inl fp1))) m (.inr (7, [.int (nI nt), .ref wt, .int (nI ne), .ref wa, .ref wv, .int (nI nn), .ref wm, .int (nI 1), .ref wr, .ref wc, .ref wn, .int (nI sh), .ref ws, .ref wk, .ref wp])) ∧ (∀ j z, j < nn → z < 4 → MTb (sem T E qk nv j z) (fc1 (4 * j + z)) (tbl fr1 (4 * j + z))))) V 0 0 [(0, .ref m), (1, .int (nI r)), (2, .int (nI r2))] 0 []
  refine k_aload_n C dX7_same_0 rfl 0 rfl ?_
  refine k_iload_n C dX7_same_1 rfl 1 rfl ?_
  refine k_callV_pi C mv_7_95 (c_X7_isNode  h_m ) h_m rfl rfl (by simp [Value.category]) ⟨Nat.le_of_ble_eq_true rfl, Nat.le_of_ble_eq_true rfl⟩ ⟨(by decide), (by decide)⟩ dX7_same_2 ?_
  refine k_if_eq (tgt := 16) C dX7_same_5 (by decide) (fun c5 => ?_) (fun c5 => ?_)
  · skip
    exact absurd ((bI_0.mp c5).symm.trans (blw_of (by omega) (show r < nn by assumption))) (by decide)
  · skip
    have b5 : (blw (nI r) (nI nn)) = true := bI_n.mp c5
    refine k_aload_n C dX7_same_8 rfl 0 rfl ?_
    refine k_iload_n C dX7_same_9 rfl 2 rfl ?_
    refine k_callV_pi C mv_7_95 (c_X7_isNode  h_m ) h_m rfl rfl (by simp [Value.category]) ⟨Nat.le_of_ble_eq_true rfl, Nat.le_of_ble_eq_true rfl⟩ ⟨(by decide), (by decide)⟩ dX7_same_10 ?_
    refine k_if_ne (tgt := 18) C dX7_same_13 (by decide) (fun c13 => ?_) (fun c13 => ?_)
    · skip
      have b13 : (blw (nI r2) (nI nn)) = true := bI_n.mp c13
      refine k_aload_n C dX7_same_18 rfl 0 rfl ?_
      refine k_callV C mv_7_175 (c_learn  h_m h_wr h_wc h_wn h_wv h_wk h_wp h_wa h_wm h_wt hwkp hM hT hnn hNW hMK hkn) h_m rfl rfl (by simp [Value.category]) ⟨Nat.le_of_ble_eq_true rfl, Nat.le_of_ble_eq_true rfl⟩ ⟨(by decide), (by decide)⟩ dX7_same_19 (fun zv zV zh => ?_)
      obtain ⟨fr1_w1, fc1_w1, fw1_w1, fv1_w1, fk1_w1, fp1_w1, rfl, rfl, hL1_w1⟩ := zh
      refine k_pc (pc' := 22) (st' := []) rfl rfl ?_
      refine k_iload_n C dX7_same_22 rfl 1 rfl ?_
      refine k_iconst (v := nI 0) C dX7_same_23 rfl ?_
      refine k_callS_pi C ms_7_140 (c_X7_table   ) rfl rfl (by simp [Value.category]) ⟨Nat.le_of_ble_eq_true rfl, Nat.le_of_ble_eq_true rfl⟩ ⟨(by decide), (by decide)⟩ dX7_same_24 ?_
      refine k_istore_n (lv' := [(3, .int (nI (4 * r + 0))), (0, .ref m), (1, .int (nI r)), (2, .int (nI r2))]) C dX7_same_27 rfl (by decide) rfl ?_
      refine k_iload_n C dX7_same_28 rfl 3 rfl ?_
      refine k_iconst (v := nI 0) C dX7_same_29 rfl ?_
      refine k_callS_pi C ms_7_140 (c_X7_table   ) rfl rfl (by simp [Value.category]) ⟨Nat.le_of_ble_eq_true rfl, Nat.le_of_ble_eq_true rfl⟩ ⟨(by decide), (by decide)⟩ dX7_same_30 ?_
      refine k_istore (lv' := [(4, .int (nI (4 * r2 + 0))), (3, .int (nI (4 * r + 0))), (0, .ref m), (1, .int (nI r)), (2, .int (nI r2))]) C dX7_same_33 (by decide) rfl ?_
      refine k_aload_n C dX7_same_35 rfl 2 rfl ?_
      refine k_get (ci := 7) (k := 9) C fl_7_26 gv_up_s rfl dX7_same_36 ?_
      refine k_iload_n C dX7_same_39 rfl 1 rfl ?_
      have ne2 : nq wc wn := gv_ne h_wn h_wc (by simp)
      have ne3 : nq wc wv := gv_ne h_wv h_wc (by simp)
      have ne4 : nq wc wk := gv_ne h_wk h_wc (by simp)
      have ne5 : nq wc wp := gv_ne h_wp h_wc (by simp)
      have ne6 : nq wc m := gv_ne h_m h_wc (by simp)
      refine k_iald (v := fc1_w1 (4 * r + 0)) C 0 ((gv_up_n ne6).trans ((gv_up_n ne5).trans ((gv_up_n ne4).trans ((gv_up_n ne3).trans ((gv_up_n ne2).trans gv_up_s))))) rfl (vp_in_nI (by omega) (by omega)) (by rw [nI_clamp (by omega)]) dX7_same_40 ?_
      refine k_bipush (v := (-2 : Int32)) C dX7_same_41 (by decide) ?_
      refine k_icmp_eq (tgt := 74) C dX7_same_43 (by decide) (fun c43 => ?_) (fun c43 => ?_)
      · skip
        refine k_iconst (v := nI 0) C dX7_same_74 rfl ?_
        exact k_zret C zr zlk rfl ⟨fr1_w1, fc1_w1, fw1_w1, fv1_w1, fk1_w1, fp1_w1, (congrArg (fun z => some (Value.int z)) (by rw [(same_0 (Or.inl ((hL1_w1 r 0 hr (by omega)).lg.mpr c43)))]; rfl)), rfl, hL1_w1⟩ (Nat.le_refl _) (Nat.le_refl _) dX7_same_75
      · skip
        obtain ⟨A, eA⟩ := isN (show (sem T E qk nv r 0).isNone = false by
          cases hz : (sem T E qk nv r 0).isNone with
          | true => exact absurd ((hL1_w1 r 0 hr (by omega)).lg.mp hz) c43
          | false => rfl)
        obtain ⟨hcA, hA⟩ := (hL1_w1 r 0 hr (by omega)).sm eA
        have hA2 := hA.2.1
        refine k_aload_n C dX7_same_46 rfl 2 rfl ?_
        refine k_get (ci := 7) (k := 9) C fl_7_26 gv_up_s rfl dX7_same_47 ?_
        refine k_iload C dX7_same_50 0 rfl ?_
        refine k_iald (v := fc1_w1 (4 * r2 + 0)) C 0 ((gv_up_n ne6).trans ((gv_up_n ne5).trans ((gv_up_n ne4).trans ((gv_up_n ne3).trans ((gv_up_n ne2).trans gv_up_s))))) rfl (vp_in_nI (by omega) (by omega)) (by rw [nI_clamp (by omega)]) dX7_same_52 ?_
        refine k_bipush (v := (-2 : Int32)) C dX7_same_53 (by decide) ?_
        refine k_icmp_eq (tgt := 74) C dX7_same_55 (by decide) (fun c55 => ?_) (fun c55 => ?_)
        · skip
          refine k_iconst (v := nI 0) C dX7_same_74 rfl ?_
          exact k_zret C zr zlk rfl ⟨fr1_w1, fc1_w1, fw1_w1, fv1_w1, fk1_w1, fp1_w1, (congrArg (fun z => some (Value.int z)) (by rw [(same_0 (Or.inr ((hL1_w1 r2 0 hr2 (by omega)).lg.mpr c55)))]; rfl)), rfl, hL1_w1⟩ (Nat.le_refl _) (Nat.le_refl _) dX7_same_75
        · skip
          obtain ⟨B, eB⟩ := isN (show (sem T E qk nv r2 0).isNone = false by
            cases hz : (sem T E qk nv r2 0).isNone with
            | true => exact absurd ((hL1_w1 r2 0 hr2 (by omega)).lg.mp hz) c55
            | false => rfl)
          obtain ⟨hcB, hB⟩ := (hL1_w1 r2 0 hr2 (by omega)).sm eB
          have hB2 := hB.2.1
          refine k_aload_n C dX7_same_58 rfl 2 rfl ?_
          refine k_get (ci := 7) (k := 9) C fl_7_26 gv_up_s rfl dX7_same_59 ?_
          refine k_iload_n C dX7_same_62 rfl 1 rfl ?_
          refine k_iald (v := fc1_w1 (4 * r + 0)) C 0 ((gv_up_n ne6).trans ((gv_up_n ne5).trans ((gv_up_n ne4).trans ((gv_up_n ne3).trans ((gv_up_n ne2).trans gv_up_s))))) rfl (vp_in_nI (by omega) (by omega)) (by rw [nI_clamp (by omega)]) dX7_same_63 ?_
          refine k_val (y := nI A.length) hcA ?_
          refine k_aload_n C dX7_same_64 rfl 2 rfl ?_
          refine k_get (ci := 7) (k := 9) C fl_7_26 gv_up_s rfl dX7_same_65 ?_
          refine k_iload C dX7_same_68 0 rfl ?_
          refine k_iald (v := fc1_w1 (4 * r2 + 0)) C 0 ((gv_up_n ne6).trans ((gv_up_n ne5).trans ((gv_up_n ne4).trans ((gv_up_n ne3).trans ((gv_up_n ne2).trans gv_up_s))))) rfl (vp_in_nI (by omega) (by omega)) (by rw [nI_clamp (by omega)]) dX7_same_70 ?_
          refine k_val (y := nI B.length) hcB ?_
          refine k_icmp_eq (tgt := 76) C dX7_same_71 (by decide) (fun c71 => ?_) (fun c71 => ?_)
          · skip
            have b71 : A.length = B.length := (nI_eq (a := A.length) (b := B.length) (by omega) (by omega)).mp c71
            refine k_iconst (v := nI 0) C dX7_same_76 rfl ?_
            refine k_istore (lv' := [(5, .int (nI 0)), (4, .int (nI (4 * r2 + 0))), (3, .int (nI (4 * r + 0))), (0, .ref m), (1, .int (nI r)), (2, .int (nI r2))]) C dX7_same_77 (by decide) rfl ?_
            have L79 : ∀ (zn7 : Nat) (i : Nat), A.length - i < zn7 → (i ≤ A.length) → (al (fun z => cntR A (rowAt A z) == cntR B (rowAt A z)) i = true) → K zp zl ze (gv_rm 7 0 0) zs zm zargs zbelow zmeth zc D base 6 (gv_E D [(cI, .int), (cN, .object "AlgebraTree$Node"), (cR, .object "AlgebraTree$Rows")] base zbelow zargs zs 0 0 (fun zv zV => ∃ fr1 : Nat → Int32, ∃ fc1 : Nat → Int32, ∃ fw1 : Nat → Int32, ∃ fv1 : Nat → Int32, ∃ fk1 : Nat → Int32, ∃ fp1 : Nat → Int32, zv = some (.int (bI (sameS (sem T E qk nv r 0) (sem T E qk nv r2 0)))) ∧ zV = gv_up (gv_up (gv_up (gv_up (gv_up (gv_up (gv_up V wr (.inl (cI, 57600, .inl fr1))) wc (.inl (cI, 120, .inl fc1))) wn (.inl (cI, 6, .inl fw1))) wv (.inl (cI, 30, .inl fv1))) wk (.inl (cI, 80, .inl fk1))) wp (.inl (cI, 80, .inl fp1))) m (.inr (7, [.int (nI nt), .ref wt, .int (nI ne), .ref wa, .ref wv, .int (nI nn), .ref wm, .int (nI 1), .ref wr, .ref wc, .ref wn, .int (nI sh), .ref ws, .ref wk, .ref wp])) ∧ (∀ j z, j < nn → z < 4 → MTb (sem T E qk nv j z) (fc1 (4 * j + z)) (tbl fr1 (4 * j + z))))) (gv_up (gv_up (gv_up (gv_up (gv_up (gv_up (gv_up V wr (.inl (cI, 57600, .inl fr1_w1))) wc (.inl (cI, 120, .inl fc1_w1))) wn (.inl (cI, 6, .inl fw1_w1))) wv (.inl (cI, 30, .inl fv1_w1))) wk (.inl (cI, 80, .inl fk1_w1))) wp (.inl (cI, 80, .inl fp1_w1))) m (.inr (7, [.int (nI nt), .ref wt, .int (nI ne), .ref wa, .ref wv, .int (nI nn), .ref wm, .int (nI 1), .ref wr, .ref wc, .ref wn, .int (nI sh), .ref ws, .ref wk, .ref wp]))) 0 0 [(5, .int (nI i)), (0, .ref m), (1, .int (nI r)), (2, .int (nI r2)), (3, .int (nI (4 * r + 0))), (4, .int (nI (4 * r2 + 0)))] 79 [] := by
              intro zn7
              induction zn7 with
              | zero => intro i hlt; exact absurd hlt (Nat.not_lt_zero _)
              | succ zn7 ih79 =>
                intro i hlt79  hi hal
                refine k_iload C dX7_same_79 0 rfl ?_
                refine k_aload_n C dX7_same_81 rfl 1 rfl ?_
                refine k_get (ci := 7) (k := 9) C fl_7_26 gv_up_s rfl dX7_same_82 ?_
                refine k_iload_n C dX7_same_85 rfl 4 rfl ?_
                refine k_iald (v := fc1_w1 (4 * r + 0)) C 0 ((gv_up_n ne6).trans ((gv_up_n ne5).trans ((gv_up_n ne4).trans ((gv_up_n ne3).trans ((gv_up_n ne2).trans gv_up_s))))) rfl (vp_in_nI (by omega) (by omega)) (by rw [nI_clamp (by omega)]) dX7_same_86 ?_
                refine k_val (y := nI A.length) hcA ?_
                refine k_icmp_ge (tgt := 118) C dX7_same_87 (by decide) (fun c87 => ?_) (fun c87 => ?_)
                · skip
                  have b87 : A.length ≤ i := (nI_leI (a := A.length) (b := i) (by omega) (by omega)).mp c87
                  refine k_iconst (v := nI 1) C dX7_same_118 rfl ?_
                  exact k_zret C zr zlk rfl ⟨fr1_w1, fc1_w1, fw1_w1, fv1_w1, fk1_w1, fp1_w1, (congrArg (fun z => some (Value.int z)) (by rw [eA, eB]; show nI 1 = bI (bagL A B); unfold bagL; rw [decide_eq_true b71, show al (fun z => cntR A (rowAt A z) == cntR B (rowAt A z)) A.length = true by rw [show A.length = i by omega]; exact hal]; rfl)), rfl, hL1_w1⟩ (Nat.le_refl _) (Nat.le_refl _) dX7_same_119
                · skip
                  have b87 : ¬ A.length ≤ i := fun z => c87 ((nI_leI (a := A.length) (b := i) (by omega) (by omega)).mpr z)
                  refine k_aload_n C dX7_same_90 rfl 1 rfl ?_
                  refine k_iload_n C dX7_same_91 rfl 4 rfl ?_
                  refine k_iload C dX7_same_92 0 rfl ?_
                  refine k_iload_n C dX7_same_94 rfl 4 rfl ?_
                  have ne8 : nq wr wc := gv_ne h_wc h_wr (by simp)
                  have ne9 : nq wr wn := gv_ne h_wn h_wr (by simp)
                  have ne10 : nq wr wv := gv_ne h_wv h_wr (by simp)
                  have ne11 : nq wr wk := gv_ne h_wk h_wr (by simp)
                  have ne12 : nq wr wp := gv_ne h_wp h_wr (by simp)
                  have ne13 : nq wr m := gv_ne h_m h_wr (by simp)
                  refine k_callV_pi C mv_7_184 (c_X7_often  gv_up_s ((gv_up_n ne13).trans ((gv_up_n ne12).trans ((gv_up_n ne11).trans ((gv_up_n ne10).trans ((gv_up_n ne9).trans ((gv_up_n ne8).trans gv_up_s)))))) ((gv_up_n ne6).trans ((gv_up_n ne5).trans ((gv_up_n ne4).trans ((gv_up_n ne3).trans ((gv_up_n ne2).trans gv_up_s))))) hA (by first | assumption | omega) (by omega) hA hcA (by first | assumption | omega)) gv_up_s rfl rfl (by simp [Value.category]) ⟨Nat.le_of_ble_eq_true rfl, Nat.le_of_ble_eq_true rfl⟩ ⟨(by decide), (by decide)⟩ dX7_same_95 ?_
                  have hcn1 : cntR A (rowAt A i) ≤ A.length := cnt_le _
                  refine k_aload_n C dX7_same_98 rfl 1 rfl ?_
                  refine k_iload_n C dX7_same_99 rfl 4 rfl ?_
                  refine k_iload C dX7_same_100 0 rfl ?_
                  refine k_iload C dX7_same_102 5 rfl ?_
                  refine k_callV_pi C mv_7_184 (c_X7_often  gv_up_s ((gv_up_n ne13).trans ((gv_up_n ne12).trans ((gv_up_n ne11).trans ((gv_up_n ne10).trans ((gv_up_n ne9).trans ((gv_up_n ne8).trans gv_up_s)))))) ((gv_up_n ne6).trans ((gv_up_n ne5).trans ((gv_up_n ne4).trans ((gv_up_n ne3).trans ((gv_up_n ne2).trans gv_up_s))))) hA (by first | assumption | omega) (by omega) hB hcB (by first | assumption | omega)) gv_up_s rfl rfl (by simp [Value.category]) ⟨Nat.le_of_ble_eq_true rfl, Nat.le_of_ble_eq_true rfl⟩ ⟨(by decide), (by decide)⟩ dX7_same_104 ?_
                  have hcn2 : cntR B (rowAt A i) ≤ B.length := cnt_le _
                  refine k_icmp_eq (tgt := 112) C dX7_same_107 (by decide) (fun c107 => ?_) (fun c107 => ?_)
                  · skip
                    have b107 : (cntR A (rowAt A i)) = (cntR B (rowAt A i)) := (nI_eq (a := cntR A (rowAt A i)) (b := cntR B (rowAt A i)) (by omega) (by omega)).mp c107
                    refine k_iinc (v := nI (i + 1)) (lv' := [(5, .int (nI (i + 1))), (0, .ref m), (1, .int (nI r)), (2, .int (nI r2)), (3, .int (nI (4 * r + 0))), (4, .int (nI (4 * r2 + 0)))]) C dX7_same_112 (k := 0) rfl (nI_add i 1) (by decide) rfl ?_
                    refine k_goto (tgt := 79) C dX7_same_115 (by decide) ?_
                    exact ih79 (i + 1) (by omega)  (by omega) (by simp only [al]; rw [hal, b107]; simp)
                  · skip
                    have b107 : ¬ (cntR A (rowAt A i)) = (cntR B (rowAt A i)) := fun z => c107 ((nI_eq (a := cntR A (rowAt A i)) (b := cntR B (rowAt A i)) (by omega) (by omega)).mpr z)
                    refine k_iconst (v := nI 0) C dX7_same_110 rfl ?_
                    exact k_zret C zr zlk rfl ⟨fr1_w1, fc1_w1, fw1_w1, fv1_w1, fk1_w1, fp1_w1, (congrArg (fun z => some (Value.int z)) (by rw [eA, eB]; show nI 0 = bI (bagL A B); unfold bagL; rw [al_ff (i := A.length) (j := i + 1) (show al (fun z => cntR A (rowAt A z) == cntR B (rowAt A z)) (i + 1) = false by simp only [al]; rw [hal, beq_eq_false_iff_ne.mpr b107]; rfl) (by omega), Bool.and_false]; rfl)), rfl, hL1_w1⟩ (Nat.le_refl _) (Nat.le_refl _) dX7_same_111
            refine k_sub [0, 3, 4, 5, 2, 1] (lv' := [(5, .int (nI 0)), (0, .ref m), (1, .int (nI r)), (2, .int (nI r2)), (3, .int (nI (4 * r + 0))), (4, .int (nI (4 * r2 + 0)))]) rfl ?_
            exact L79 _ 0 (Nat.lt_succ_self _)  (by omega) rfl
          · skip
            have b71 : ¬ A.length = B.length := fun z => c71 ((nI_eq (a := A.length) (b := B.length) (by omega) (by omega)).mpr z)
            refine k_iconst (v := nI 0) C dX7_same_74 rfl ?_
            exact k_zret C zr zlk rfl ⟨fr1_w1, fc1_w1, fw1_w1, fv1_w1, fk1_w1, fp1_w1, (congrArg (fun z => some (Value.int z)) (by rw [eA, eB]; show nI 0 = bI (bagL A B); unfold bagL; rw [decide_eq_false b71]; rfl)), rfl, hL1_w1⟩ (Nat.le_refl _) (Nat.le_refl _) dX7_same_75
    · skip
      exact absurd ((bI_0.mp c13).symm.trans (blw_of (by omega) (show r2 < nn by assumption))) (by decide)
set_option maxHeartbeats 4000000 in
set_option maxRecDepth 100000 in
theorem c_sameMN {zl : Launch} {D : va_G} {cI cN cR : ClassId} {base : Nat} {V : gv_V} {m wt wa wv wm wr wc wn ws wk wp nt ne nn sh : Nat} {kn : Int32} {x y : Int32}  (h_m : V m = some (.inr (7, [.int (nI nt), .ref wt, .int (nI ne), .ref wa, .ref wv, .int (nI nn), .ref wm, .int kn, .ref wr, .ref wc, .ref wn, .int (nI sh), .ref ws, .ref wk, .ref wp]))) (hb : blw x (nI nn) = false ∨ blw y (nI nn) = false) : ct zl D [(cI, .int), (cN, .object "AlgebraTree$Node"), (cR, .object "AlgebraTree$Rows")] base yX7_same cX7_same 6 (some .boolean) 7 0 0 [.ref m, .int x, .int y] V (pi (nI 0) V) := by
  refine ct_of "AlgebraTreeModel" rfl (by decide) (Nat.le_of_ble_eq_true rfl) ?_
  intro zp ze zs zm zargs zbelow zmeth zc C zr zlk znm
  refine k_pc (pc' := 0) (st' := []) rfl rfl ?_
  show K zp zl ze (gv_rm 7 0 0) zs zm zargs zbelow zmeth zc D base 6 (gv_E D [(cI, .int), (cN, .object "AlgebraTree$Node"), (cR, .object "AlgebraTree$Rows")] base zbelow zargs zs 0 0 (pi (nI 0) V)) V 0 0 [(0, .ref m), (1, .int x), (2, .int y)] 0 []
  refine k_aload_n C dX7_same_0 rfl 0 rfl ?_
  refine k_iload_n C dX7_same_1 rfl 1 rfl ?_
  refine k_callV_pi C mv_7_95 (c_X7_isNode  h_m ) h_m rfl rfl (by simp [Value.category]) ⟨Nat.le_of_ble_eq_true rfl, Nat.le_of_ble_eq_true rfl⟩ ⟨(by decide), (by decide)⟩ dX7_same_2 ?_
  refine k_if_eq (tgt := 16) C dX7_same_5 (by decide) (fun c5 => ?_) (fun c5 => ?_)
  · skip
    have b5 : (blw x (nI nn)) = false := bI_0.mp c5
    refine k_iconst (v := nI 0) C dX7_same_16 rfl ?_
    exact k_zret C zr zlk rfl (pi_of rfl rfl) (Nat.le_refl _) (Nat.le_refl _) dX7_same_17
  · skip
    have b5 : (blw x (nI nn)) = true := bI_n.mp c5
    refine k_aload_n C dX7_same_8 rfl 0 rfl ?_
    refine k_iload_n C dX7_same_9 rfl 2 rfl ?_
    refine k_callV_pi C mv_7_95 (c_X7_isNode  h_m ) h_m rfl rfl (by simp [Value.category]) ⟨Nat.le_of_ble_eq_true rfl, Nat.le_of_ble_eq_true rfl⟩ ⟨(by decide), (by decide)⟩ dX7_same_10 ?_
    refine k_if_ne (tgt := 18) C dX7_same_13 (by decide) (fun c13 => ?_) (fun c13 => ?_)
    · skip
      exact hb.elim (fun h => absurd (h.symm.trans b5) (by decide)) (fun h => absurd (h.symm.trans (bI_n.mp c13)) (by decide))
    · skip
      have b13 : (blw y (nI nn)) = false := bI_0.mp c13
      refine k_iconst (v := nI 0) C dX7_same_16 rfl ?_
      exact k_zret C zr zlk rfl (pi_of rfl rfl) (Nat.le_refl _) (Nat.le_refl _) dX7_same_17
