theorem cw_n {w : Nat → Int32} {pT : Nat → Option Nat} {i g : Nat} (hg : g < 4) (h : wbt w i g = false) : cw w pT (i * 4 + (g + 1)) = cw w pT (i * 4 + g) := by
  rw [show i * 4 + (g + 1) = i * 4 + g + 1 by omega, cw_s hg, h]
  simp
theorem cw_y {w : Nat → Int32} {pT : Nat → Option Nat} {i g : Nat} (hg : g < 4) (h : wbt w i g = true) : cw w pT (i * 4 + (g + 1)) = cw w pT (i * 4 + g) + if (pT (i * 4 + g)).isNone = true then 1 else 0 := by
  rw [show i * 4 + (g + 1) = i * 4 + g + 1 by omega, cw_s hg, h, Bool.true_and]
theorem nc_cw {w : Nat → Int32} {pT qT : Nat → Option Nat} {i g : Nat} (hg : g < 4) (h : wbt w i g = true) (he : qT (i * 4 + g) = pT (i * 4 + g)) : 2 * cw w pT (i * 4 + g) + nc (qT (i * 4 + g)) 2 = 2 * cw w pT (i * 4 + (g + 1)) := by
  rw [cw_y hg h, he]
  cases pT (i * 4 + g) <;> simp [nc] <;> omega
theorem nc_cw2 {w : Nat → Int32} {pT qT : Nat → Option Nat} {i g : Nat} (hg : g < 4) (h : wbt w i g = true) (he : qT (i * 4 + g) = pT (i * 4 + g)) : 490 * cw w pT (i * 4 + g) + nc (qT (i * 4 + g)) 490 = 490 * cw w pT (i * 4 + (g + 1)) := by
  rw [cw_y hg h, he]
  cases pT (i * 4 + g) <;> simp [nc] <;> omega
theorem cnt_ref {qT rT : Nat → Option Nat} {P : Nat} (hP : P < 120) (h : ∃ t, rT P = some t) (ho : ∀ p, p < 120 → ¬ p = P → rT p = qT p) : cnt (fun p => (rT p).isSome) 120 = cnt (fun p => (qT p).isSome) 120 + if (qT P).isNone = true then 1 else 0 := by
  obtain ⟨t, ht⟩ := h
  cases hq : qT P with
  | none =>
    rw [cnt_one (Q := fun p => (qT p).isSome) hP (fun p hp hne => by simp only [ho p hp hne]) (by simp [hq]) (by simp [ht])]
    simp
  | some q =>
    rw [cnt_c (Q := fun p => (rT p).isSome) (Q' := fun p => (qT p).isSome) (fun p hp => by
      by_cases hp2 : p = P
      · subst hp2; simp [ht, hq]
      · rw [ho p hp hp2])]
    simp
set_option maxHeartbeats 4000000 in
set_option maxRecDepth 100000 in
theorem c_rowsOf {zl : Launch} {D : va_G} {cI cN cR : ClassId} {base : Nat} {V : gv_V} {O : Nat → Prop} {mo tr xe nd tb wg ky pl td : Nat} {wf : Nat → Int32} {T : List Tr} {E : Nat → Ex} {ne : Nat} {qk : Nat → Nat} {nv : Nat → Nat → Int32} {nn : Nat} {pT : Nat → Option Nat} {pC pN : Nat → Nat} {pL pM : Nat → Int32} {pF : Nat → Nat → Int32} {r : Nat}   (hCS : CS cI cN cR O V mo tr xe nd tb wg ky pl td wf T E ne qk nv nn pT pC pN pL pM pF) (hr : r < nn) : ct zl D [(cI, .int), (cN, .object "AlgebraTree$Node"), (cR, .object "AlgebraTree$Rows")] base yX1_rowsOf cX1_rowsOf 4 (some (.object "AlgebraTree$Rows")) 6 (2 * cw (wnt qk nv r wf) pT ((r + 1) * 4)) (490 * cw (wnt qk nv r wf) pT ((r + 1) * 4)) [.ref mo, .int (nI r)] V (fun zv zV => ∃ t, zv = some (.ref t) ∧ ∃ (qT : Nat → Option Nat) (qC qN : Nat → Nat) (qL qM : Nat → Int32) (qF : Nat → Nat → Int32), CS cI cN cR O zV mo tr xe nd tb wg ky pl td (wnt qk nv r wf) T E ne qk nv nn qT qC qN qL qM qF ∧ (∀ q, ¬ O q → zV q = V q) ∧ qT (r * 4) = some t ∧ qM (r * 4) = nI T.length ∧ (∀ p t, p < 121 → pT p = some t → qT p = some t) ∧ (qC 120 = pC 120 ∧ qN 120 = pN 120 ∧ qL 120 = pL 120 ∧ qF 120 = pF 120) ∧ cnt (fun p => (qT p).isSome) 120 = cnt (fun p => (pT p).isSome) 120 + cw (wnt qk nv r wf) pT ((r + 1) * 4) ∧ (∀ p, p < 120 → (qT p).isSome = ((pT p).isSome || (decide (p < (r + 1) * 4) && wbt (wnt qk nv r wf) (p / 4) (p % 4)))) ∧ (∀ p, p < 120 → pM p = nI T.length → qM p = nI T.length)) := by
  refine ct_of "AlgebraTree$Maker" rfl (by decide) (Nat.le_of_ble_eq_true rfl) ?_
  intro zp ze zs zm zargs zbelow zmeth zc C zr zlk znm
  refine k_pc (pc' := 0) (st' := []) rfl rfl ?_
  show K zp zl ze (gv_rm 6 (2 * cw (wnt qk nv r wf) pT ((r + 1) * 4)) (490 * cw (wnt qk nv r wf) pT ((r + 1) * 4))) zs zm zargs zbelow zmeth zc D base 4 (gv_E D [(cI, .int), (cN, .object "AlgebraTree$Node"), (cR, .object "AlgebraTree$Rows")] base zbelow zargs zs (2 * cw (wnt qk nv r wf) pT ((r + 1) * 4)) (490 * cw (wnt qk nv r wf) pT ((r + 1) * 4)) (fun zv zV => ∃ t, zv = some (.ref t) ∧ ∃ (qT : Nat → Option Nat) (qC qN : Nat → Nat) (qL qM : Nat → Int32) (qF : Nat → Nat → Int32), CS cI cN cR O zV mo tr xe nd tb wg ky pl td (wnt qk nv r wf) T E ne qk nv nn qT qC qN qL qM qF ∧ (∀ q, ¬ O q → zV q = V q) ∧ qT (r * 4) = some t ∧ qM (r * 4) = nI T.length ∧ (∀ p t, p < 121 → pT p = some t → qT p = some t) ∧ (qC 120 = pC 120 ∧ qN 120 = pN 120 ∧ qL 120 = pL 120 ∧ qF 120 = pF 120) ∧ cnt (fun p => (qT p).isSome) 120 = cnt (fun p => (pT p).isSome) 120 + cw (wnt qk nv r wf) pT ((r + 1) * 4) ∧ (∀ p, p < 120 → (qT p).isSome = ((pT p).isSome || (decide (p < (r + 1) * 4) && wbt (wnt qk nv r wf) (p / 4) (p % 4)))) ∧ (∀ p, p < 120 → pM p = nI T.length → qM p = nI T.length))) V 0 0 [(0, .ref mo), (1, .int (nI r))] 0 []
  obtain ⟨hnn, hT60, hnw⟩ := CS.nw hCS
  have hnw2 : ∀ k, k < r + 1 → NW ne k (qk k) (nv k) := fun k hk => hnw k (by omega)
  have h_mo := CS.mo hCS
  refine k_aload_n C dX1_rowsOf_0 rfl 0 rfl ?_
  refine k_iload_n C dX1_rowsOf_1 rfl 1 rfl ?_
  refine k_callV C mv_1_48 (c_markW   hCS hr) h_mo rfl rfl (by simp [Value.category]) ⟨Nat.le_of_ble_eq_true rfl, Nat.le_of_ble_eq_true rfl⟩ ⟨(Nat.zero_le _), (Nat.zero_le _)⟩ dX1_rowsOf_2 (fun zv W2 zh => ?_)
  obtain ⟨rfl, hcs_w1, hfm_w1⟩ := zh
  refine k_pc (pc' := 5) (st' := []) rfl rfl ?_
  refine k_iconst (v := nI 0) C dX1_rowsOf_5 rfl ?_
  refine k_istore_n (lv' := [(2, .int (nI 0)), (0, .ref mo), (1, .int (nI r))]) C dX1_rowsOf_6 rfl (by decide) rfl ?_
  have L7 : ∀ (zn3 : Nat) (i : Nat) (X : gv_V) (qT : Nat → Option Nat) (qC : Nat → Nat) (qN : Nat → Nat) (qL : Nat → Int32) (qM : Nat → Int32) (qF : Nat → Nat → Int32), r + 1 - i < zn3 → (X mo = some (.inr (1, [.ref tr, .ref xe, .ref nd, .ref tb, .ref wg, .ref ky, .ref pl]))) → (X wg = some (.inl (cI, 30, .inl (wnt qk nv r wf)))) → (i ≤ r + 1) → (CS cI cN cR O X mo tr xe nd tb wg ky pl td (wnt qk nv r wf) T E ne qk nv nn qT qC qN qL qM qF) → (∀ q, ¬ O q → X q = V q) → (∀ j z, z < 4 → j * 4 + z < i * 4 → j ≤ r → wbt (wnt qk nv r wf) j z = true → (∃ t, qT (j * 4 + z) = some t) ∧ qM (j * 4 + z) = nI T.length) → (∀ p, i * 4 ≤ p → p < 121 → qT p = pT p ∧ (p = 120 → qC p = pC p ∧ qN p = pN p ∧ qL p = pL p ∧ qF p = pF p)) → (∀ p t, p < 121 → pT p = some t → qT p = some t) → (cnt (fun p => (qT p).isSome) 120 = cnt (fun p => (pT p).isSome) 120 + cw (wnt qk nv r wf) pT (i * 4)) → (∀ j z, z < 4 → j * 4 + z < i * 4 → wbt (wnt qk nv r wf) j z = false → qT (j * 4 + z) = pT (j * 4 + z)) → (∀ p, p < 120 → pM p = nI T.length → qM p = nI T.length) → K zp zl ze (gv_rm 6 (2 * cw (wnt qk nv r wf) pT ((r + 1) * 4)) (490 * cw (wnt qk nv r wf) pT ((r + 1) * 4))) zs zm zargs zbelow zmeth zc D base 4 (gv_E D [(cI, .int), (cN, .object "AlgebraTree$Node"), (cR, .object "AlgebraTree$Rows")] base zbelow zargs zs (2 * cw (wnt qk nv r wf) pT ((r + 1) * 4)) (490 * cw (wnt qk nv r wf) pT ((r + 1) * 4)) (fun zv zV => ∃ t, zv = some (.ref t) ∧ ∃ (qT : Nat → Option Nat) (qC qN : Nat → Nat) (qL qM : Nat → Int32) (qF : Nat → Nat → Int32), CS cI cN cR O zV mo tr xe nd tb wg ky pl td (wnt qk nv r wf) T E ne qk nv nn qT qC qN qL qM qF ∧ (∀ q, ¬ O q → zV q = V q) ∧ qT (r * 4) = some t ∧ qM (r * 4) = nI T.length ∧ (∀ p t, p < 121 → pT p = some t → qT p = some t) ∧ (qC 120 = pC 120 ∧ qN 120 = pN 120 ∧ qL 120 = pL 120 ∧ qF 120 = pF 120) ∧ cnt (fun p => (qT p).isSome) 120 = cnt (fun p => (pT p).isSome) 120 + cw (wnt qk nv r wf) pT ((r + 1) * 4) ∧ (∀ p, p < 120 → (qT p).isSome = ((pT p).isSome || (decide (p < (r + 1) * 4) && wbt (wnt qk nv r wf) (p / 4) (p % 4)))) ∧ (∀ p, p < 120 → pM p = nI T.length → qM p = nI T.length))) X (2 * cw (wnt qk nv r wf) pT (i * 4)) (490 * cw (wnt qk nv r wf) pT (i * 4)) [(2, .int (nI i)), (0, .ref mo), (1, .int (nI r))] 7 [] := by
    intro zn3
    induction zn3 with
    | zero => intro i X qT qC qN qL qM qF hlt; exact absurd hlt (Nat.not_lt_zero _)
    | succ zn3 ih7 =>
      intro i X qT qC qN qL qM qF hlt7 hv7_0 hv7_1 hi hcs hfm hdn hrs hkp hct hnx hkm
      refine k_iload_n C dX1_rowsOf_7 rfl 0 rfl ?_
      refine k_iload_n C dX1_rowsOf_8 rfl 2 rfl ?_
      refine k_icmp_gt (tgt := 50) C dX1_rowsOf_9 (by decide) (fun c9 => ?_) (fun c9 => ?_)
      · skip
        have b9 : r < i := (nI_ltI (a := r) (b := i) (by omega) (by omega)).mp c9
        obtain ⟨tf, htb, htf⟩ := CS.tb hcs
        obtain ⟨⟨t9, ht9⟩, hm9⟩ := hdn r 0 (by omega) (by omega) (by omega) (wnt_root (by omega) (NW.chl hnw2))
        have hsq : ∀ p, p < 120 → (qT p).isSome = ((pT p).isSome || (decide (p < (r + 1) * 4) && wbt (wnt qk nv r wf) (p / 4) (p % 4))) := by
          intro p hp
          have e4 : p / 4 * 4 + p % 4 = p := by omega
          rcases Nat.lt_or_ge p ((r + 1) * 4) with h | h
          · cases hb : wbt (wnt qk nv r wf) (p / 4) (p % 4) with
            | true =>
              obtain ⟨⟨t, ht⟩, -⟩ := hdn (p / 4) (p % 4) (by omega) (by omega) (by omega) hb
              rw [e4] at ht
              rw [ht, decide_eq_true h]; simp
            | false =>
              have h3 := hnx (p / 4) (p % 4) (by omega) (by omega) hb
              rw [e4] at h3
              rw [h3]; simp
          · rw [(hrs p (by omega) (by omega)).1, decide_eq_false (by omega)]; simp
        refine k_aload_n C dX1_rowsOf_50 rfl 1 rfl ?_
        refine k_iload_n C dX1_rowsOf_51 rfl 2 rfl ?_
        refine k_iconst (v := nI 0) C dX1_rowsOf_52 rfl ?_
        refine k_callV_pr C mv_1_56 (c_tableOf  hv7_0 htb (by first | assumption | omega) (by first | assumption | omega) ((htf _ (by omega)).trans ht9)) hv7_0 rfl rfl (by simp [Value.category]) ⟨Nat.le_of_ble_eq_true rfl, Nat.le_of_ble_eq_true rfl⟩ ⟨(Nat.mul_le_mul_left 2 (cnt_mono (by omega))), (Nat.mul_le_mul_left 490 (cnt_mono (by omega)))⟩ dX1_rowsOf_53 ?_
        exact k_aret C zr zlk ⟨t9, rfl, qT, qC, qN, qL, qM, qF, hcs, hfm, ht9, hm9, hkp, (hrs 120 (by omega) (by omega)).2 rfl, by rw [hct, show i * 4 = (r + 1) * 4 by omega], hsq, hkm⟩ (Nat.mul_le_mul_left 2 (cnt_mono (by omega))) (Nat.mul_le_mul_left 490 (cnt_mono (by omega))) dX1_rowsOf_56
      · skip
        have b9 : ¬ r < i := fun z => c9 ((nI_ltI (a := r) (b := i) (by omega) (by omega)).mpr z)
        refine k_iconst (v := nI 0) C dX1_rowsOf_12 rfl ?_
        refine k_istore_n (lv' := [(3, .int (nI 0)), (2, .int (nI i)), (0, .ref mo), (1, .int (nI r))]) C dX1_rowsOf_13 rfl (by decide) rfl ?_
        have L14 : ∀ (zn4 : Nat) (g : Nat) (X : gv_V) (qT : Nat → Option Nat) (qC : Nat → Nat) (qN : Nat → Nat) (qL : Nat → Int32) (qM : Nat → Int32) (qF : Nat → Nat → Int32), 4 - g < zn4 → (X mo = some (.inr (1, [.ref tr, .ref xe, .ref nd, .ref tb, .ref wg, .ref ky, .ref pl]))) → (X wg = some (.inl (cI, 30, .inl (wnt qk nv r wf)))) → (g ≤ 4) → (CS cI cN cR O X mo tr xe nd tb wg ky pl td (wnt qk nv r wf) T E ne qk nv nn qT qC qN qL qM qF) → (∀ q, ¬ O q → X q = V q) → (∀ j z, z < 4 → j * 4 + z < i * 4 + g → j ≤ r → wbt (wnt qk nv r wf) j z = true → (∃ t, qT (j * 4 + z) = some t) ∧ qM (j * 4 + z) = nI T.length) → (∀ p, i * 4 + g ≤ p → p < 121 → qT p = pT p ∧ (p = 120 → qC p = pC p ∧ qN p = pN p ∧ qL p = pL p ∧ qF p = pF p)) → (∀ p t, p < 121 → pT p = some t → qT p = some t) → (cnt (fun p => (qT p).isSome) 120 = cnt (fun p => (pT p).isSome) 120 + cw (wnt qk nv r wf) pT (i * 4 + g)) → (∀ j z, z < 4 → j * 4 + z < i * 4 + g → wbt (wnt qk nv r wf) j z = false → qT (j * 4 + z) = pT (j * 4 + z)) → (∀ p, p < 120 → pM p = nI T.length → qM p = nI T.length) → K zp zl ze (gv_rm 6 (2 * cw (wnt qk nv r wf) pT ((r + 1) * 4)) (490 * cw (wnt qk nv r wf) pT ((r + 1) * 4))) zs zm zargs zbelow zmeth zc D base 4 (gv_E D [(cI, .int), (cN, .object "AlgebraTree$Node"), (cR, .object "AlgebraTree$Rows")] base zbelow zargs zs (2 * cw (wnt qk nv r wf) pT ((r + 1) * 4)) (490 * cw (wnt qk nv r wf) pT ((r + 1) * 4)) (fun zv zV => ∃ t, zv = some (.ref t) ∧ ∃ (qT : Nat → Option Nat) (qC qN : Nat → Nat) (qL qM : Nat → Int32) (qF : Nat → Nat → Int32), CS cI cN cR O zV mo tr xe nd tb wg ky pl td (wnt qk nv r wf) T E ne qk nv nn qT qC qN qL qM qF ∧ (∀ q, ¬ O q → zV q = V q) ∧ qT (r * 4) = some t ∧ qM (r * 4) = nI T.length ∧ (∀ p t, p < 121 → pT p = some t → qT p = some t) ∧ (qC 120 = pC 120 ∧ qN 120 = pN 120 ∧ qL 120 = pL 120 ∧ qF 120 = pF 120) ∧ cnt (fun p => (qT p).isSome) 120 = cnt (fun p => (pT p).isSome) 120 + cw (wnt qk nv r wf) pT ((r + 1) * 4) ∧ (∀ p, p < 120 → (qT p).isSome = ((pT p).isSome || (decide (p < (r + 1) * 4) && wbt (wnt qk nv r wf) (p / 4) (p % 4)))) ∧ (∀ p, p < 120 → pM p = nI T.length → qM p = nI T.length))) X (2 * cw (wnt qk nv r wf) pT (i * 4 + g)) (490 * cw (wnt qk nv r wf) pT (i * 4 + g)) [(3, .int (nI g)), (2, .int (nI i)), (0, .ref mo), (1, .int (nI r))] 14 [] := by
          intro zn4
          induction zn4 with
          | zero => intro g X qT qC qN qL qM qF hlt; exact absurd hlt (Nat.not_lt_zero _)
          | succ zn4 ih14 =>
            intro g X qT qC qN qL qM qF hlt14 hv14_0 hv14_1 hg hcs hfm hdn hrs hkp hct hnx hkm
            refine k_iload_n C dX1_rowsOf_14 rfl 0 rfl ?_
            refine k_iconst (v := nI 4) C dX1_rowsOf_15 rfl ?_
            refine k_icmp_ge (tgt := 44) C dX1_rowsOf_16 (by decide) (fun c16 => ?_) (fun c16 => ?_)
            · skip
              have b16 : 4 ≤ g := (nI_leI (a := 4) (b := g) (by omega) (by omega)).mp c16
              refine k_iinc (v := nI (i + 1)) (lv' := [(2, .int (nI (i + 1))), (3, .int (nI g)), (0, .ref mo), (1, .int (nI r))]) C dX1_rowsOf_44 (k := 1) rfl (nI_add i 1) (by decide) rfl ?_
              refine k_goto (tgt := 7) C dX1_rowsOf_47 (by decide) ?_
              refine k_wide (k := 2 * cw (wnt qk nv r wf) pT ((i + 1) * 4)) (n := 490 * cw (wnt qk nv r wf) pT ((i + 1) * 4)) (Nat.mul_le_mul_left 2 (cnt_mono (by omega))) (Nat.mul_le_mul_left 490 (cnt_mono (by omega))) ?_
              refine k_sub [0, 2, 3] (lv' := [(2, .int (nI (i + 1))), (0, .ref mo), (1, .int (nI r))]) rfl ?_
              exact ih7 (i + 1) X qT qC qN qL qM qF (by omega) hv14_0 hv14_1 (by omega) hcs hfm (fun j z hz h1 h2 h3 => hdn j z hz (by omega) h2 h3) (fun p h1 h2 => hrs p (by omega) h2) hkp (by rw [hct, show i * 4 + g = (i + 1) * 4 by omega]) (fun j z hz h1 h2 => hnx j z hz (by omega) h2) hkm
            · skip
              have b16 : ¬ 4 ≤ g := fun z => c16 ((nI_leI (a := 4) (b := g) (by omega) (by omega)).mpr z)
              have hg4 : g < 4 := by omega
              have hi9 : i ≤ r := by omega
              refine k_aload_n C dX1_rowsOf_19 rfl 2 rfl ?_
              refine k_get (ci := 1) (k := 4) C fl_1_38 hv14_0 rfl dX1_rowsOf_20 ?_
              refine k_iload_n C dX1_rowsOf_23 rfl 1 rfl ?_
              refine k_iald (v := (wnt qk nv r wf) i) C 0 hv14_1 rfl (vp_in_nI (by omega) (by omega)) (by rw [nI_clamp (by omega)]) dX1_rowsOf_24 ?_
              refine k_iload_n C dX1_rowsOf_25 rfl 0 rfl ?_
              refine k_ishr C dX1_rowsOf_26 ?_
              refine k_iconst (v := nI 1) C dX1_rowsOf_27 rfl ?_
              refine k_iand C dX1_rowsOf_28 ?_
              refine k_if_eq (tgt := 38) C dX1_rowsOf_29 (by decide) (fun c29 => ?_) (fun c29 => ?_)
              · skip
                have hwb : wbt (wnt qk nv r wf) i g = false := inS_e.mp c29
                refine k_iinc (v := nI (g + 1)) (lv' := [(3, .int (nI (g + 1))), (2, .int (nI i)), (0, .ref mo), (1, .int (nI r))]) C dX1_rowsOf_38 (k := 0) rfl (nI_add g 1) (by decide) rfl ?_
                refine k_goto (tgt := 14) C dX1_rowsOf_41 (by decide) ?_
                refine k_wide (k := 2 * cw (wnt qk nv r wf) pT (i * 4 + (g + 1))) (n := 490 * cw (wnt qk nv r wf) pT (i * 4 + (g + 1))) (Nat.mul_le_mul_left 2 (cnt_mono (by omega))) (Nat.mul_le_mul_left 490 (cnt_mono (by omega))) ?_
                exact ih14 (g + 1) X qT qC qN qL qM qF (by omega) hv14_0 hv14_1 (by omega) hcs hfm (fun j z hz h1 h2 h3 => by
                  by_cases he : j * 4 + z = i * 4 + g
                  · have : j = i := by omega
                    have : z = g := by omega
                    subst j; subst z; rw [hwb] at h3; cases h3
                  · exact hdn j z hz (by omega) h2 h3) (fun p h1 h2 => hrs p (by omega) h2) hkp (by rw [hct, cw_n hg4 hwb]) (fun j z hz h1 h2 => by
                  by_cases he : j * 4 + z = i * 4 + g
                  · rw [he]; exact (hrs (i * 4 + g) (Nat.le_refl _) (by omega)).1
                  · exact hnx j z hz (by omega) h2) hkm
              · skip
                have hwb : wbt (wnt qk nv r wf) i g = true := by cases hz : wbt (wnt qk nv r wf) i g with | true => rfl | false => exact absurd (inS_e.mpr hz) c29
                refine k_aload_n C dX1_rowsOf_32 rfl 2 rfl ?_
                refine k_iload_n C dX1_rowsOf_33 rfl 1 rfl ?_
                refine k_iload_n C dX1_rowsOf_34 rfl 0 rfl ?_
                refine k_callV C mv_1_52 (c_refAll   hcs (by omega) hg4 (fun j z hn => by
                  obtain ⟨h1, h2, h3⟩ := wnt_cl (by omega) hnw2 (NW.chl hnw2) hi9 hg4 hwb hn
                  exact hdn j z h3 (by omega) (by omega) h1)) hv14_0 rfl rfl (by simp [Value.category]) ⟨Nat.le_of_ble_eq_true rfl, Nat.le_of_ble_eq_true rfl⟩ ⟨(by rw [nc_cw (w := (wnt qk nv r wf)) hg4 hwb (hrs (i * 4 + g) (Nat.le_refl _) (by omega)).1]; exact Nat.mul_le_mul_left 2 (cnt_mono (by omega))), (by rw [nc_cw2 (w := (wnt qk nv r wf)) hg4 hwb (hrs (i * 4 + g) (Nat.le_refl _) (by omega)).1]; exact Nat.mul_le_mul_left 490 (cnt_mono (by omega)))⟩ dX1_rowsOf_35 (fun zv W6 zh => ?_)
                obtain ⟨rfl, pT2_w5, pC2_w5, pN2_w5, pL2_w5, pM2_w5, pF2_w5, hcs_w5, hfm_w5, hsm_w5, hmm_w5, hkp_w5, hot_w5⟩ := zh
                refine k_pc (pc' := 38) (st' := []) rfl rfl ?_
                refine k_iinc (v := nI (g + 1)) (lv' := [(3, .int (nI (g + 1))), (2, .int (nI i)), (0, .ref mo), (1, .int (nI r))]) C dX1_rowsOf_38 (k := 0) rfl (nI_add g 1) (by decide) rfl ?_
                refine k_goto (tgt := 14) C dX1_rowsOf_41 (by decide) ?_
                refine k_wide (k := 2 * cw (wnt qk nv r wf) pT (i * 4 + (g + 1))) (n := 490 * cw (wnt qk nv r wf) pT (i * 4 + (g + 1))) (by rw [nc_cw (w := (wnt qk nv r wf)) hg4 hwb (hrs (i * 4 + g) (Nat.le_refl _) (by omega)).1]; exact Nat.le_refl _) (by rw [nc_cw2 (w := (wnt qk nv r wf)) hg4 hwb (hrs (i * 4 + g) (Nat.le_refl _) (by omega)).1]; exact Nat.le_refl _) ?_
                exact ih14 (g + 1) W6 pT2_w5 pC2_w5 pN2_w5 pL2_w5 pM2_w5 pF2_w5 (by omega) (CS.mo hcs_w5) (CS.wg hcs_w5) (by omega) hcs_w5 (fun q h => (hfm_w5 q h).trans (hfm q h)) (fun j z hz h1 h2 h3 => by
                  by_cases he : j * 4 + z = i * 4 + g
                  · rw [he]; exact ⟨hsm_w5, hmm_w5⟩
                  · obtain ⟨h5, h6⟩ := hdn j z hz (by omega) h2 h3
                    obtain ⟨e1, e2, e3, e4, e5, e6⟩ := hot_w5 (j * 4 + z) (by omega) he
                    rw [e1, e5]; exact ⟨h5, h6⟩) (fun p h1 h2 => by
                  obtain ⟨e1, e2, e3, e4, e5, e6⟩ := hot_w5 p h2 (by omega)
                  rw [e1, e2, e3, e4, e6]; exact hrs p (by omega) h2) (fun p t h1 h2 => by
                  by_cases he : p = i * 4 + g
                  · rw [he]; exact hkp_w5 t (he ▸ hkp p t h1 h2)
                  · rw [(hot_w5 p h1 he).1]; exact hkp p t h1 h2) (by
                  rw [cw_y hg4 hwb, ← Nat.add_assoc, ← hct, (hrs (i * 4 + g) (Nat.le_refl _) (by omega)).1.symm]
                  exact cnt_ref (by omega) hsm_w5 (fun p hp hne => by rw [(hot_w5 p (by omega) hne).1])) (fun j z hz h1 h2 => by
                  by_cases he : j * 4 + z = i * 4 + g
                  · have : j = i := by omega
                    have : z = g := by omega
                    subst j; subst z; rw [hwb] at h2; cases h2
                  · rw [(hot_w5 (j * 4 + z) (by omega) he).1]; exact hnx j z hz (by omega) h2) (fun p hp h1 => by
                  by_cases he : p = i * 4 + g
                  · rw [he]; exact hmm_w5
                  · rw [(hot_w5 p (by omega) he).2.2.2.2.1]; exact hkm p hp h1)
        exact L14 _ 0 X qT qC qN qL qM qF (Nat.lt_succ_self _) hv7_0 hv7_1 (by omega) hcs hfm (fun j z hz h1 h2 h3 => hdn j z hz (by omega) h2 h3) (fun p h1 h2 => hrs p (by omega) h2) hkp hct (fun j z hz h1 h2 => hnx j z hz (by omega) h2) hkm
  refine k_wide (k := 2 * cw (wnt qk nv r wf) pT (0 * 4)) (n := 490 * cw (wnt qk nv r wf) pT (0 * 4)) (Nat.zero_le _) (Nat.zero_le _) ?_
  exact L7 _ 0 W2 pT pC pN pL pM pF (Nat.lt_succ_self _) (CS.mo hcs_w1) (CS.wg hcs_w1) (by omega) hcs_w1 hfm_w1 (fun j z h0 h1 => absurd h1 (by omega)) (fun p h1 h2 => ⟨rfl, fun _ => ⟨rfl, rfl, rfl, rfl⟩⟩) (fun p t h1 h2 => h2) rfl (fun j z h0 h1 => absurd h1 (by omega)) (fun p hp h => h)
