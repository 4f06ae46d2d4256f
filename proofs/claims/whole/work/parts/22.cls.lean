/-- the Rows objects: the tables of the nodes (place node * 4 + graph), and the told rows (place 120) -/
def Pool (cI : ClassId) (V : gv_V) (pT : Nat → Option Nat) (pC pN : Nat → Nat) (pL pM : Nat → Int32) (pF : Nat → Nat → Int32) : Prop := ∀ p t, p < 121 → pT p = some t → V t = some (.inr (4, [.ref (pC p), .int (nI (pN p)), .int (pL p), .int (pM p)])) ∧ V (pC p) = some (.inl (cI, 486, .inl (pF p))) ∧ ∀ p' t', p' < 121 → pT p' = some t' → ¬ p' = p → nq t' t ∧ nq (pC p') (pC p)
/-- the class's state -/
def CS (cI cN cR : ClassId) (O : Nat → Prop) (V : gv_V) (mo tr xe nd tb wg ky pl td : Nat) (wf : Nat → Int32) (T : List Tr) (E : Nat → Ex) (ne : Nat) (qk : Nat → Nat) (nv : Nat → Nat → Int32) (nn : Nat) (pT : Nat → Option Nat) (pC pN : Nat → Nat) (pL pM : Nat → Int32) (pF : Nat → Nat → Int32) : Prop := ∃ (tga tsa tpa tqa : Nat) (tg ts tp tq : Nat → Int32) (ak af as ap av : Nat) (kd fs sc pt vl : Nat → Int32) (nl : Nat) (nf tf : Nat → Option Nat) (na : Nat → Nat) (kf pf : Nat → Int32), V mo = some (.inr (1, [.ref tr, .ref xe, .ref nd, .ref tb, .ref wg, .ref ky, .ref pl])) ∧ V tr = some (.inr (5, [.ref tga, .ref tsa, .ref tpa, .ref tqa, .int (nI T.length)])) ∧ V tga = some (.inl (cI, 60, .inl tg)) ∧ V tsa = some (.inl (cI, 60, .inl ts)) ∧ V tpa = some (.inl (cI, 60, .inl tp)) ∧ V tqa = some (.inl (cI, 60, .inl tq)) ∧ V xe = some (.inr (0, [.ref ak, .ref af, .ref as, .ref ap, .ref av, .int (nI ne)])) ∧ V ak = some (.inl (cI, 30, .inl kd)) ∧ V af = some (.inl (cI, 30, .inl fs)) ∧ V as = some (.inl (cI, 30, .inl sc)) ∧ V ap = some (.inl (cI, 30, .inl pt)) ∧ V av = some (.inl (cI, 30, .inl vl)) ∧ V nd = some (.inr (3, [.ref nl, .int (nI nn)])) ∧ V nl = some (.inl (cN, 30, .inr (.inr (.inr (.inr nf))))) ∧ V wg = some (.inl (cI, 30, .inl wf)) ∧ V ky = some (.inl (cI, 80, .inl kf)) ∧ V pl = some (.inl (cI, 80, .inl pf)) ∧ V tb = some (.inl (cR, 120, .inr (.inr (.inr (.inr tf))))) ∧ (TrR T T.length tg ts tp tq) ∧ ([tga, tsa, tpa, tqa].Nodup) ∧ (ExR E ne kd fs sc pt) ∧ ([ak, af, as, ap, av, wg].Nodup) ∧ (nn ≤ 30) ∧ (∀ k, k < nn → nf k = some (na k) ∧ V (na k) = some (.inr (2, [.int (nI (qk k)), .int (nv k 1), .int (nv k 2), .int (nv k 3), .int (nv k 4), .int (nv k 5), .int (nv k 6), .int (nv k 7), .int (nv k 8), .int (nv k 9), .int (nv k 10), .int (nv k 11), .int (nv k 12), .int (nv k 13)]))) ∧ (∀ k, k < nn → NW ne k (qk k) (nv k)) ∧ (nq ky pl) ∧ (∀ p, p < 120 → tf p = pT p) ∧ (Pool cI V pT pC pN pL pM pF) ∧ (pT 120 = some td) ∧ (∀ p, p < 120 → nn * 4 ≤ p → pT p = none) ∧ (∀ i g t, i < nn → g < 4 → pT (i * 4 + g) = some t → pM (i * 4 + g) = nI T.length → TRep (sem T E qk nv i g) (pN (i * 4 + g)) (pL (i * 4 + g)) (pF (i * 4 + g))) ∧ (∀ p t, p < 120 → pT p = some t → ∃ k, k ≤ T.length ∧ pM p = nI k) ∧ (∀ q, V q = none → O q) ∧ (∀ q ∈ [mo, tr, tga, tsa, tpa, tqa, xe, ak, af, as, ap, av, nd, nl, wg, ky, pl, tb], O q) ∧ (∀ k, k < nn → O (na k)) ∧ (∀ p t, p < 121 → pT p = some t → O t ∧ O (pC p))
set_option maxHeartbeats 4000000 in
theorem cs_old {cI cN cR : ClassId} {O : Nat → Prop} {V : gv_V} {mo tr xe nd tb wg ky pl td : Nat} {wf : Nat → Int32} {T : List Tr} {E : Nat → Ex} {ne : Nat} {qk : Nat → Nat} {nv : Nat → Nat → Int32} {nn : Nat} {pT : Nat → Option Nat} {pC pN : Nat → Nat} {pL pM : Nat → Int32} {pF : Nat → Nat → Int32} {tga tsa tpa tqa : Nat} {tg ts tp tq : Nat → Int32} {ak af as ap av : Nat} {kd fs sc pt vl : Nat → Int32} {nl : Nat} {nf tf : Nat → Option Nat} {na : Nat → Nat} {kf pf : Nat → Int32} (fmo : V mo = some (.inr (1, [.ref tr, .ref xe, .ref nd, .ref tb, .ref wg, .ref ky, .ref pl]))) (ftr : V tr = some (.inr (5, [.ref tga, .ref tsa, .ref tpa, .ref tqa, .int (nI T.length)]))) (ftg : V tga = some (.inl (cI, 60, .inl tg))) (fts : V tsa = some (.inl (cI, 60, .inl ts))) (ftp : V tpa = some (.inl (cI, 60, .inl tp))) (ftq : V tqa = some (.inl (cI, 60, .inl tq))) (fxe : V xe = some (.inr (0, [.ref ak, .ref af, .ref as, .ref ap, .ref av, .int (nI ne)]))) (fak : V ak = some (.inl (cI, 30, .inl kd))) (faf : V af = some (.inl (cI, 30, .inl fs))) (fas : V as = some (.inl (cI, 30, .inl sc))) (fap : V ap = some (.inl (cI, 30, .inl pt))) (fav : V av = some (.inl (cI, 30, .inl vl))) (fnd : V nd = some (.inr (3, [.ref nl, .int (nI nn)]))) (fnl : V nl = some (.inl (cN, 30, .inr (.inr (.inr (.inr nf)))))) (fwg : V wg = some (.inl (cI, 30, .inl wf))) (fky : V ky = some (.inl (cI, 80, .inl kf))) (fpl : V pl = some (.inl (cI, 80, .inl pf))) (ftb : V tb = some (.inl (cR, 120, .inr (.inr (.inr (.inr tf)))))) (hT : TrR T T.length tg ts tp tq) (hdt : [tga, tsa, tpa, tqa].Nodup) (hX : ExR E ne kd fs sc pt) (hd6 : [ak, af, as, ap, av, wg].Nodup) (hnn : nn ≤ 30) (hnd : ∀ k, k < nn → nf k = some (na k) ∧ V (na k) = some (.inr (2, [.int (nI (qk k)), .int (nv k 1), .int (nv k 2), .int (nv k 3), .int (nv k 4), .int (nv k 5), .int (nv k 6), .int (nv k 7), .int (nv k 8), .int (nv k 9), .int (nv k 10), .int (nv k 11), .int (nv k 12), .int (nv k 13)]))) (hnw : ∀ k, k < nn → NW ne k (qk k) (nv k)) (hky : nq ky pl) (htf : ∀ p, p < 120 → tf p = pT p) (hpo : Pool cI V pT pC pN pL pM pF) (htd : pT 120 = some td) (hnu : ∀ p, p < 120 → nn * 4 ≤ p → pT p = none) (hfr : ∀ i g t, i < nn → g < 4 → pT (i * 4 + g) = some t → pM (i * 4 + g) = nI T.length → TRep (sem T E qk nv i g) (pN (i * 4 + g)) (pL (i * 4 + g)) (pF (i * 4 + g))) (hmd : ∀ p t, p < 120 → pT p = some t → ∃ k, k ≤ T.length ∧ pM p = nI k) (hO0 : ∀ q, V q = none → O q) (hOf : ∀ q ∈ [mo, tr, tga, tsa, tpa, tqa, xe, ak, af, as, ap, av, nd, nl, wg, ky, pl, tb], O q) (hOn : ∀ k, k < nn → O (na k)) (hOp : ∀ p t, p < 121 → pT p = some t → O t ∧ O (pC p)) {P i g o oc n1 : Nat} {tl1 : Int32} {vl1 kf1 pf1 f1 : Nat → Int32} (hi : i < nn) (hg : g < 4) (hP : P = i * 4 + g) (hPo : pT P = some o) (hPc : pC P = oc) (hS : TRep (sem T E qk nv i g) n1 tl1 f1) : CS cI cN cR O (gv_up (gv_up (gv_up (gv_up (gv_up V av (.inl (cI, 30, .inl vl1))) ky (.inl (cI, 80, .inl kf1))) pl (.inl (cI, 80, .inl pf1))) oc (.inl (cI, 486, .inl f1))) o (.inr (4, [.ref oc, .int (nI n1), .int tl1, .int (nI T.length)]))) mo tr xe nd tb wg ky pl td wf T E ne qk nv nn (va_up pT P (some o)) (va_up pC P oc) (va_up pN P n1) (va_up pL P tl1) (va_up pM P (nI T.length)) (va_up pF P f1) ∧ ∀ q, ¬ O q → (gv_up (gv_up (gv_up (gv_up (gv_up V av (.inl (cI, 30, .inl vl1))) ky (.inl (cI, 80, .inl kf1))) pl (.inl (cI, 80, .inl pf1))) oc (.inl (cI, 486, .inl f1))) o (.inr (4, [.ref oc, .int (nI n1), .int tl1, .int (nI T.length)]))) q = V q := by
  have hPlt : P < 120 := by omega
  subst hPc
  obtain ⟨h_o, h_oc, hdis⟩ := hpo P o (by omega) hPo
  have keep : ∀ q, q ≠ av → q ≠ ky → q ≠ pl → q ≠ (pC P) → q ≠ o → (gv_up (gv_up (gv_up (gv_up (gv_up V av (.inl (cI, 30, .inl vl1))) ky (.inl (cI, 80, .inl kf1))) pl (.inl (cI, 80, .inl pf1))) (pC P) (.inl (cI, 486, .inl f1))) o (.inr (4, [.ref (pC P), .int (nI n1), .int tl1, .int (nI T.length)]))) q = V q := fun q a1 a2 a3 a4 a5 => (gv_up_n a5).trans ((gv_up_n a4).trans ((gv_up_n a3).trans ((gv_up_n a2).trans (gv_up_n a1))))
  have hnd2 : ∀ k, k < nn → nf k = some (na k) ∧ (gv_up (gv_up (gv_up (gv_up (gv_up V av (.inl (cI, 30, .inl vl1))) ky (.inl (cI, 80, .inl kf1))) pl (.inl (cI, 80, .inl pf1))) (pC P) (.inl (cI, 486, .inl f1))) o (.inr (4, [.ref (pC P), .int (nI n1), .int tl1, .int (nI T.length)]))) (na k) = some (.inr (2, [.int (nI (qk k)), .int (nv k 1), .int (nv k 2), .int (nv k 3), .int (nv k 4), .int (nv k 5), .int (nv k 6), .int (nv k 7), .int (nv k 8), .int (nv k 9), .int (nv k 10), .int (nv k 11), .int (nv k 12), .int (nv k 13)])) := fun k hk => by
    obtain ⟨h1, h2⟩ := hnd k hk
    exact ⟨h1, (keep _ (gv_ne fav h2 (by simp)) (gv_ne fky h2 (by simp)) (gv_ne fpl h2 (by simp)) (gv_ne h_oc h2 (by simp)) (gv_ne h_o h2 (by simp))).trans h2⟩
  have hpo2 : Pool cI (gv_up (gv_up (gv_up (gv_up (gv_up V av (.inl (cI, 30, .inl vl1))) ky (.inl (cI, 80, .inl kf1))) pl (.inl (cI, 80, .inl pf1))) (pC P) (.inl (cI, 486, .inl f1))) o (.inr (4, [.ref (pC P), .int (nI n1), .int tl1, .int (nI T.length)]))) (va_up pT P (some o)) (va_up pC P (pC P)) (va_up pN P n1) (va_up pL P tl1) (va_up pM P (nI T.length)) (va_up pF P f1) := by
    intro p t hp hpt
    by_cases hpp : p = P
    · subst hpp
      have e1 : t = o := by simp only [va_up, if_pos] at hpt; exact (Option.some.inj hpt).symm
      subst e1
      refine ⟨?_, ?_, fun p' t' hp' hpt' hne => ?_⟩
      · simp only [va_up, if_pos]; exact gv_up_s
      · simp only [va_up, if_pos]; exact ((gv_up_n (gv_ne h_o h_oc (by simp))).trans gv_up_s)
      · simp only [va_up, if_neg hne, if_pos] at hpt' ⊢
        exact hdis p' t' hp' hpt' hne
    · simp only [va_up, if_neg hpp] at hpt ⊢
      obtain ⟨g1, g2, g3⟩ := hpo p t hp hpt
      obtain ⟨n1, n2⟩ := hdis p t hp hpt hpp
      have n3 : t ≠ pC P := gv_ne h_oc g1 (by simp)
      have n4 : pC p ≠ o := gv_ne h_o g2 (by simp)
      refine ⟨(keep t (gv_ne fav g1 (by simp)) (gv_ne fky g1 (by simp)) (gv_ne fpl g1 (by simp)) n3 n1).trans g1, (keep (pC p) (gv_ne fav g2 (by simp)) (gv_ne fky g2 (by simp)) (gv_ne fpl g2 (by simp)) n2 n4).trans g2, fun p' t' hp' hpt' hne => ?_⟩
      by_cases hpp2 : p' = P
      · subst hpp2
        simp only [if_pos] at hpt' ⊢
        rw [← Option.some.inj hpt']
        exact ⟨Ne.symm n1, Ne.symm n2⟩
      · simp only [if_neg hpp2] at hpt' ⊢
        exact g3 p' t' hp' hpt' hne
  have hOo : O o ∧ O (pC P) := hOp P o (by omega) hPo
  have hOl := hOf
  simp only [List.mem_cons, List.not_mem_nil, or_false, forall_eq_or_imp, forall_eq] at hOl
  have hout : ∀ q, ¬ O q → (gv_up (gv_up (gv_up (gv_up (gv_up V av (.inl (cI, 30, .inl vl1))) ky (.inl (cI, 80, .inl kf1))) pl (.inl (cI, 80, .inl pf1))) (pC P) (.inl (cI, 486, .inl f1))) o (.inr (4, [.ref (pC P), .int (nI n1), .int tl1, .int (nI T.length)]))) q = V q := fun q hq0 => keep q (fun e => hq0 (e ▸ hOl.2.2.2.2.2.2.2.2.2.2.2.1)) (fun e => hq0 (e ▸ hOl.2.2.2.2.2.2.2.2.2.2.2.2.2.2.2.1)) (fun e => hq0 (e ▸ hOl.2.2.2.2.2.2.2.2.2.2.2.2.2.2.2.2.1)) (fun e => hq0 (e ▸ hOo.2)) (fun e => hq0 (e ▸ hOo.1))
  refine ⟨⟨tga, tsa, tpa, tqa, tg, ts, tp, tq, ak, af, as, ap, av, kd, fs, sc, pt, vl1, nl, nf, tf, na, kf1, pf1, ((gv_up_n (gv_ne h_o fmo (by simp))).trans ((gv_up_n (gv_ne h_oc fmo (by simp))).trans ((gv_up_n (gv_ne fpl fmo (by simp))).trans ((gv_up_n (gv_ne fky fmo (by simp))).trans ((gv_up_n (gv_ne fav fmo (by simp))).trans fmo))))), ((gv_up_n (gv_ne h_o ftr (by simp))).trans ((gv_up_n (gv_ne h_oc ftr (by simp))).trans ((gv_up_n (gv_ne fpl ftr (by simp))).trans ((gv_up_n (gv_ne fky ftr (by simp))).trans ((gv_up_n (gv_ne fav ftr (by simp))).trans ftr))))), ((gv_up_n (gv_ne h_o ftg (by simp))).trans ((gv_up_n (gv_ne h_oc ftg (by simp))).trans ((gv_up_n (gv_ne fpl ftg (by simp))).trans ((gv_up_n (gv_ne fky ftg (by simp))).trans ((gv_up_n (gv_ne fav ftg (by simp))).trans ftg))))), ((gv_up_n (gv_ne h_o fts (by simp))).trans ((gv_up_n (gv_ne h_oc fts (by simp))).trans ((gv_up_n (gv_ne fpl fts (by simp))).trans ((gv_up_n (gv_ne fky fts (by simp))).trans ((gv_up_n (gv_ne fav fts (by simp))).trans fts))))), ((gv_up_n (gv_ne h_o ftp (by simp))).trans ((gv_up_n (gv_ne h_oc ftp (by simp))).trans ((gv_up_n (gv_ne fpl ftp (by simp))).trans ((gv_up_n (gv_ne fky ftp (by simp))).trans ((gv_up_n (gv_ne fav ftp (by simp))).trans ftp))))), ((gv_up_n (gv_ne h_o ftq (by simp))).trans ((gv_up_n (gv_ne h_oc ftq (by simp))).trans ((gv_up_n (gv_ne fpl ftq (by simp))).trans ((gv_up_n (gv_ne fky ftq (by simp))).trans ((gv_up_n (gv_ne fav ftq (by simp))).trans ftq))))), ((gv_up_n (gv_ne h_o fxe (by simp))).trans ((gv_up_n (gv_ne h_oc fxe (by simp))).trans ((gv_up_n (gv_ne fpl fxe (by simp))).trans ((gv_up_n (gv_ne fky fxe (by simp))).trans ((gv_up_n (gv_ne fav fxe (by simp))).trans fxe))))), ((gv_up_n (gv_ne h_o fak (by simp))).trans ((gv_up_n (gv_ne h_oc fak (by simp))).trans ((gv_up_n (gv_ne fpl fak (by simp))).trans ((gv_up_n (gv_ne fky fak (by simp))).trans ((gv_up_n (ndp hd6 0 4 rfl rfl (by decide))).trans fak))))), ((gv_up_n (gv_ne h_o faf (by simp))).trans ((gv_up_n (gv_ne h_oc faf (by simp))).trans ((gv_up_n (gv_ne fpl faf (by simp))).trans ((gv_up_n (gv_ne fky faf (by simp))).trans ((gv_up_n (ndp hd6 1 4 rfl rfl (by decide))).trans faf))))), ((gv_up_n (gv_ne h_o fas (by simp))).trans ((gv_up_n (gv_ne h_oc fas (by simp))).trans ((gv_up_n (gv_ne fpl fas (by simp))).trans ((gv_up_n (gv_ne fky fas (by simp))).trans ((gv_up_n (ndp hd6 2 4 rfl rfl (by decide))).trans fas))))), ((gv_up_n (gv_ne h_o fap (by simp))).trans ((gv_up_n (gv_ne h_oc fap (by simp))).trans ((gv_up_n (gv_ne fpl fap (by simp))).trans ((gv_up_n (gv_ne fky fap (by simp))).trans ((gv_up_n (ndp hd6 3 4 rfl rfl (by decide))).trans fap))))), ((gv_up_n (gv_ne h_o fav (by simp))).trans ((gv_up_n (gv_ne h_oc fav (by simp))).trans ((gv_up_n (gv_ne fpl fav (by simp))).trans ((gv_up_n (gv_ne fky fav (by simp))).trans gv_up_s)))), ((gv_up_n (gv_ne h_o fnd (by simp))).trans ((gv_up_n (gv_ne h_oc fnd (by simp))).trans ((gv_up_n (gv_ne fpl fnd (by simp))).trans ((gv_up_n (gv_ne fky fnd (by simp))).trans ((gv_up_n (gv_ne fav fnd (by simp))).trans fnd))))), ((gv_up_n (gv_ne h_o fnl (by simp))).trans ((gv_up_n (gv_ne h_oc fnl (by simp))).trans ((gv_up_n (gv_ne fpl fnl (by simp))).trans ((gv_up_n (gv_ne fky fnl (by simp))).trans ((gv_up_n (gv_ne fav fnl (by simp))).trans fnl))))), ((gv_up_n (gv_ne h_o fwg (by simp))).trans ((gv_up_n (gv_ne h_oc fwg (by simp))).trans ((gv_up_n (gv_ne fpl fwg (by simp))).trans ((gv_up_n (gv_ne fky fwg (by simp))).trans ((gv_up_n (ndp hd6 5 4 rfl rfl (by decide))).trans fwg))))), ((gv_up_n (gv_ne h_o fky (by simp))).trans ((gv_up_n (gv_ne h_oc fky (by simp))).trans ((gv_up_n hky).trans gv_up_s))), ((gv_up_n (gv_ne h_o fpl (by simp))).trans ((gv_up_n (gv_ne h_oc fpl (by simp))).trans gv_up_s)), ((gv_up_n (gv_ne h_o ftb (by simp))).trans ((gv_up_n (gv_ne h_oc ftb (by simp))).trans ((gv_up_n (gv_ne fpl ftb (by simp))).trans ((gv_up_n (gv_ne fky ftb (by simp))).trans ((gv_up_n (gv_ne fav ftb (by simp))).trans ftb))))), hT, hdt, hX, hd6, hnn, hnd2, hnw, hky, ?_, hpo2, ?_, ?_, ?_, ?_, ?_, hOf, hOn, ?_⟩, hout⟩
  · intro p hp
    simp only [va_up]
    by_cases h : p = P
    · rw [if_pos h, h, htf P hPlt, hPo]
    · rw [if_neg h]; exact htf p hp
  · simp only [va_up]; rw [if_neg (by omega)]; exact htd
  · intro p hp hn
    simp only [va_up]; rw [if_neg (by omega)]; exact hnu p hp hn
  · intro i2 g2 t hi2 hg2 h1 h2
    by_cases h : i2 * 4 + g2 = P
    · have hie : i2 = i := by omega
      have hge : g2 = g := by omega
      subst hie; subst hge
      simp only [va_up, if_pos h]
      exact hS
    · simp only [va_up, if_neg h] at h1 h2 ⊢
      exact hfr i2 g2 t hi2 hg2 h1 h2
  · intro p t hp hpt
    by_cases h : p = P
    · simp only [va_up, if_pos h]; exact ⟨T.length, Nat.le_refl _, rfl⟩
    · simp only [va_up, if_neg h] at hpt ⊢; exact hmd p t hp hpt
  · intro q hq1
    by_cases h : O q
    · exact h
    · exact hO0 q ((hout q h).symm.trans hq1)
  · intro p t hp hpt
    by_cases h : p = P
    · simp only [va_up, if_pos h] at hpt ⊢
      rw [← Option.some.inj hpt]
      exact hOo
    · simp only [va_up, if_neg h] at hpt ⊢
      exact hOp p t hp hpt
set_option maxHeartbeats 4000000 in
theorem cs_new {cI cN cR : ClassId} {O : Nat → Prop} {V : gv_V} {mo tr xe nd tb wg ky pl td : Nat} {wf : Nat → Int32} {T : List Tr} {E : Nat → Ex} {ne : Nat} {qk : Nat → Nat} {nv : Nat → Nat → Int32} {nn : Nat} {pT : Nat → Option Nat} {pC pN : Nat → Nat} {pL pM : Nat → Int32} {pF : Nat → Nat → Int32} {tga tsa tpa tqa : Nat} {tg ts tp tq : Nat → Int32} {ak af as ap av : Nat} {kd fs sc pt vl : Nat → Int32} {nl : Nat} {nf tf : Nat → Option Nat} {na : Nat → Nat} {kf pf : Nat → Int32} (fmo : V mo = some (.inr (1, [.ref tr, .ref xe, .ref nd, .ref tb, .ref wg, .ref ky, .ref pl]))) (ftr : V tr = some (.inr (5, [.ref tga, .ref tsa, .ref tpa, .ref tqa, .int (nI T.length)]))) (ftg : V tga = some (.inl (cI, 60, .inl tg))) (fts : V tsa = some (.inl (cI, 60, .inl ts))) (ftp : V tpa = some (.inl (cI, 60, .inl tp))) (ftq : V tqa = some (.inl (cI, 60, .inl tq))) (fxe : V xe = some (.inr (0, [.ref ak, .ref af, .ref as, .ref ap, .ref av, .int (nI ne)]))) (fak : V ak = some (.inl (cI, 30, .inl kd))) (faf : V af = some (.inl (cI, 30, .inl fs))) (fas : V as = some (.inl (cI, 30, .inl sc))) (fap : V ap = some (.inl (cI, 30, .inl pt))) (fav : V av = some (.inl (cI, 30, .inl vl))) (fnd : V nd = some (.inr (3, [.ref nl, .int (nI nn)]))) (fnl : V nl = some (.inl (cN, 30, .inr (.inr (.inr (.inr nf)))))) (fwg : V wg = some (.inl (cI, 30, .inl wf))) (fky : V ky = some (.inl (cI, 80, .inl kf))) (fpl : V pl = some (.inl (cI, 80, .inl pf))) (ftb : V tb = some (.inl (cR, 120, .inr (.inr (.inr (.inr tf)))))) (hT : TrR T T.length tg ts tp tq) (hdt : [tga, tsa, tpa, tqa].Nodup) (hX : ExR E ne kd fs sc pt) (hd6 : [ak, af, as, ap, av, wg].Nodup) (hnn : nn ≤ 30) (hnd : ∀ k, k < nn → nf k = some (na k) ∧ V (na k) = some (.inr (2, [.int (nI (qk k)), .int (nv k 1), .int (nv k 2), .int (nv k 3), .int (nv k 4), .int (nv k 5), .int (nv k 6), .int (nv k 7), .int (nv k 8), .int (nv k 9), .int (nv k 10), .int (nv k 11), .int (nv k 12), .int (nv k 13)]))) (hnw : ∀ k, k < nn → NW ne k (qk k) (nv k)) (hky : nq ky pl) (htf : ∀ p, p < 120 → tf p = pT p) (hpo : Pool cI V pT pC pN pL pM pF) (htd : pT 120 = some td) (hnu : ∀ p, p < 120 → nn * 4 ≤ p → pT p = none) (hfr : ∀ i g t, i < nn → g < 4 → pT (i * 4 + g) = some t → pM (i * 4 + g) = nI T.length → TRep (sem T E qk nv i g) (pN (i * 4 + g)) (pL (i * 4 + g)) (pF (i * 4 + g))) (hmd : ∀ p t, p < 120 → pT p = some t → ∃ k, k ≤ T.length ∧ pM p = nI k) (hO0 : ∀ q, V q = none → O q) (hOf : ∀ q ∈ [mo, tr, tga, tsa, tpa, tqa, xe, ak, af, as, ap, av, nd, nl, wg, ky, pl, tb], O q) (hOn : ∀ k, k < nn → O (na k)) (hOp : ∀ p t, p < 121 → pT p = some t → O t ∧ O (pC p)) {P i g o oc n1 : Nat} {tl1 : Int32} {vl1 kf1 pf1 f1 : Nat → Int32} (hi : i < nn) (hg : g < 4) (hP : P = i * 4 + g) (ht1 : V o = none) (hq : V oc = none) (htq : nq o oc) (hPn : pT P = none) (hS : TRep (sem T E qk nv i g) n1 tl1 f1) : CS cI cN cR O (gv_up (gv_up (gv_up (gv_up (gv_up (gv_up V av (.inl (cI, 30, .inl vl1))) ky (.inl (cI, 80, .inl kf1))) pl (.inl (cI, 80, .inl pf1))) oc (.inl (cI, 486, .inl f1))) o (.inr (4, [.ref oc, .int (nI n1), .int tl1, .int (nI T.length)]))) tb (.inl (cR, 120, .inr (.inr (.inr (.inr (va_up tf P (some o)))))))) mo tr xe nd tb wg ky pl td wf T E ne qk nv nn (va_up pT P (some o)) (va_up pC P oc) (va_up pN P n1) (va_up pL P tl1) (va_up pM P (nI T.length)) (va_up pF P f1) ∧ ∀ q, ¬ O q → (gv_up (gv_up (gv_up (gv_up (gv_up (gv_up V av (.inl (cI, 30, .inl vl1))) ky (.inl (cI, 80, .inl kf1))) pl (.inl (cI, 80, .inl pf1))) oc (.inl (cI, 486, .inl f1))) o (.inr (4, [.ref oc, .int (nI n1), .int tl1, .int (nI T.length)]))) tb (.inl (cR, 120, .inr (.inr (.inr (.inr (va_up tf P (some o)))))))) q = V q := by
  have hPlt : P < 120 := by omega
  have keep : ∀ q, q ≠ av → q ≠ ky → q ≠ pl → q ≠ oc → q ≠ o → q ≠ tb → (gv_up (gv_up (gv_up (gv_up (gv_up (gv_up V av (.inl (cI, 30, .inl vl1))) ky (.inl (cI, 80, .inl kf1))) pl (.inl (cI, 80, .inl pf1))) oc (.inl (cI, 486, .inl f1))) o (.inr (4, [.ref oc, .int (nI n1), .int tl1, .int (nI T.length)]))) tb (.inl (cR, 120, .inr (.inr (.inr (.inr (va_up tf P (some o)))))))) q = V q := fun q a1 a2 a3 a4 a5 a6 => (gv_up_n a6).trans ((gv_up_n a5).trans ((gv_up_n a4).trans ((gv_up_n a3).trans ((gv_up_n a2).trans (gv_up_n a1)))))
  have hnd2 : ∀ k, k < nn → nf k = some (na k) ∧ (gv_up (gv_up (gv_up (gv_up (gv_up (gv_up V av (.inl (cI, 30, .inl vl1))) ky (.inl (cI, 80, .inl kf1))) pl (.inl (cI, 80, .inl pf1))) oc (.inl (cI, 486, .inl f1))) o (.inr (4, [.ref oc, .int (nI n1), .int tl1, .int (nI T.length)]))) tb (.inl (cR, 120, .inr (.inr (.inr (.inr (va_up tf P (some o)))))))) (na k) = some (.inr (2, [.int (nI (qk k)), .int (nv k 1), .int (nv k 2), .int (nv k 3), .int (nv k 4), .int (nv k 5), .int (nv k 6), .int (nv k 7), .int (nv k 8), .int (nv k 9), .int (nv k 10), .int (nv k 11), .int (nv k 12), .int (nv k 13)])) := fun k hk => by
    obtain ⟨h1, h2⟩ := hnd k hk
    exact ⟨h1, (keep _ (gv_ne fav h2 (by simp)) (gv_ne fky h2 (by simp)) (gv_ne fpl h2 (by simp)) (gv_nf hq h2) (gv_nf ht1 h2) (gv_ne ftb h2 (by simp))).trans h2⟩
  have hpo2 : Pool cI (gv_up (gv_up (gv_up (gv_up (gv_up (gv_up V av (.inl (cI, 30, .inl vl1))) ky (.inl (cI, 80, .inl kf1))) pl (.inl (cI, 80, .inl pf1))) oc (.inl (cI, 486, .inl f1))) o (.inr (4, [.ref oc, .int (nI n1), .int tl1, .int (nI T.length)]))) tb (.inl (cR, 120, .inr (.inr (.inr (.inr (va_up tf P (some o)))))))) (va_up pT P (some o)) (va_up pC P oc) (va_up pN P n1) (va_up pL P tl1) (va_up pM P (nI T.length)) (va_up pF P f1) := by
    intro p t hp hpt
    by_cases hpp : p = P
    · subst hpp
      have e1 : t = o := by simp only [va_up, if_pos] at hpt; exact (Option.some.inj hpt).symm
      subst e1
      refine ⟨?_, ?_, fun p' t' hp' hpt' hne => ?_⟩
      · simp only [va_up, if_pos]; exact ((gv_up_n (Ne.symm (gv_nf ht1 ftb))).trans gv_up_s)
      · simp only [va_up, if_pos]; exact ((gv_up_n (Ne.symm (gv_nf hq ftb))).trans ((gv_up_n (Ne.symm htq)).trans gv_up_s))
      · simp only [va_up, if_neg hne, if_pos] at hpt' ⊢
        obtain ⟨g1, g2, -⟩ := hpo p' t' hp' hpt'
        exact ⟨gv_nf ht1 g1, gv_nf hq g2⟩
    · simp only [va_up, if_neg hpp] at hpt ⊢
      obtain ⟨g1, g2, g3⟩ := hpo p t hp hpt
      have n1 : t ≠ o := gv_nf ht1 g1
      have n2 : pC p ≠ oc := gv_nf hq g2
      have n3 : t ≠ oc := gv_nf hq g1
      have n4 : pC p ≠ o := gv_nf ht1 g2
      refine ⟨(keep t (gv_ne fav g1 (by simp)) (gv_ne fky g1 (by simp)) (gv_ne fpl g1 (by simp)) n3 n1 (gv_ne ftb g1 (by simp))).trans g1, (keep (pC p) (gv_ne fav g2 (by simp)) (gv_ne fky g2 (by simp)) (gv_ne fpl g2 (by simp)) n2 n4 (gv_ne ftb g2 (by simp))).trans g2, fun p' t' hp' hpt' hne => ?_⟩
      by_cases hpp2 : p' = P
      · subst hpp2
        simp only [if_pos] at hpt' ⊢
        rw [← Option.some.inj hpt']
        exact ⟨Ne.symm n1, Ne.symm n2⟩
      · simp only [if_neg hpp2] at hpt' ⊢
        exact g3 p' t' hp' hpt' hne
  have hOo : O o ∧ O oc := ⟨hO0 _ ht1, hO0 _ hq⟩
  have hOl := hOf
  simp only [List.mem_cons, List.not_mem_nil, or_false, forall_eq_or_imp, forall_eq] at hOl
  have hout : ∀ q, ¬ O q → (gv_up (gv_up (gv_up (gv_up (gv_up (gv_up V av (.inl (cI, 30, .inl vl1))) ky (.inl (cI, 80, .inl kf1))) pl (.inl (cI, 80, .inl pf1))) oc (.inl (cI, 486, .inl f1))) o (.inr (4, [.ref oc, .int (nI n1), .int tl1, .int (nI T.length)]))) tb (.inl (cR, 120, .inr (.inr (.inr (.inr (va_up tf P (some o)))))))) q = V q := fun q hq0 => keep q (fun e => hq0 (e ▸ hOl.2.2.2.2.2.2.2.2.2.2.2.1)) (fun e => hq0 (e ▸ hOl.2.2.2.2.2.2.2.2.2.2.2.2.2.2.2.1)) (fun e => hq0 (e ▸ hOl.2.2.2.2.2.2.2.2.2.2.2.2.2.2.2.2.1)) (fun e => hq0 (e ▸ hOo.2)) (fun e => hq0 (e ▸ hOo.1)) (fun e => hq0 (e ▸ hOl.2.2.2.2.2.2.2.2.2.2.2.2.2.2.2.2.2))
  refine ⟨⟨tga, tsa, tpa, tqa, tg, ts, tp, tq, ak, af, as, ap, av, kd, fs, sc, pt, vl1, nl, nf, va_up tf P (some o), na, kf1, pf1, ((gv_up_n (gv_ne ftb fmo (by simp))).trans ((gv_up_n (gv_nf ht1 fmo)).trans ((gv_up_n (gv_nf hq fmo)).trans ((gv_up_n (gv_ne fpl fmo (by simp))).trans ((gv_up_n (gv_ne fky fmo (by simp))).trans ((gv_up_n (gv_ne fav fmo (by simp))).trans fmo)))))), ((gv_up_n (gv_ne ftb ftr (by simp))).trans ((gv_up_n (gv_nf ht1 ftr)).trans ((gv_up_n (gv_nf hq ftr)).trans ((gv_up_n (gv_ne fpl ftr (by simp))).trans ((gv_up_n (gv_ne fky ftr (by simp))).trans ((gv_up_n (gv_ne fav ftr (by simp))).trans ftr)))))), ((gv_up_n (gv_ne ftb ftg (by simp))).trans ((gv_up_n (gv_nf ht1 ftg)).trans ((gv_up_n (gv_nf hq ftg)).trans ((gv_up_n (gv_ne fpl ftg (by simp))).trans ((gv_up_n (gv_ne fky ftg (by simp))).trans ((gv_up_n (gv_ne fav ftg (by simp))).trans ftg)))))), ((gv_up_n (gv_ne ftb fts (by simp))).trans ((gv_up_n (gv_nf ht1 fts)).trans ((gv_up_n (gv_nf hq fts)).trans ((gv_up_n (gv_ne fpl fts (by simp))).trans ((gv_up_n (gv_ne fky fts (by simp))).trans ((gv_up_n (gv_ne fav fts (by simp))).trans fts)))))), ((gv_up_n (gv_ne ftb ftp (by simp))).trans ((gv_up_n (gv_nf ht1 ftp)).trans ((gv_up_n (gv_nf hq ftp)).trans ((gv_up_n (gv_ne fpl ftp (by simp))).trans ((gv_up_n (gv_ne fky ftp (by simp))).trans ((gv_up_n (gv_ne fav ftp (by simp))).trans ftp)))))), ((gv_up_n (gv_ne ftb ftq (by simp))).trans ((gv_up_n (gv_nf ht1 ftq)).trans ((gv_up_n (gv_nf hq ftq)).trans ((gv_up_n (gv_ne fpl ftq (by simp))).trans ((gv_up_n (gv_ne fky ftq (by simp))).trans ((gv_up_n (gv_ne fav ftq (by simp))).trans ftq)))))), ((gv_up_n (gv_ne ftb fxe (by simp))).trans ((gv_up_n (gv_nf ht1 fxe)).trans ((gv_up_n (gv_nf hq fxe)).trans ((gv_up_n (gv_ne fpl fxe (by simp))).trans ((gv_up_n (gv_ne fky fxe (by simp))).trans ((gv_up_n (gv_ne fav fxe (by simp))).trans fxe)))))), ((gv_up_n (gv_ne ftb fak (by simp))).trans ((gv_up_n (gv_nf ht1 fak)).trans ((gv_up_n (gv_nf hq fak)).trans ((gv_up_n (gv_ne fpl fak (by simp))).trans ((gv_up_n (gv_ne fky fak (by simp))).trans ((gv_up_n (ndp hd6 0 4 rfl rfl (by decide))).trans fak)))))), ((gv_up_n (gv_ne ftb faf (by simp))).trans ((gv_up_n (gv_nf ht1 faf)).trans ((gv_up_n (gv_nf hq faf)).trans ((gv_up_n (gv_ne fpl faf (by simp))).trans ((gv_up_n (gv_ne fky faf (by simp))).trans ((gv_up_n (ndp hd6 1 4 rfl rfl (by decide))).trans faf)))))), ((gv_up_n (gv_ne ftb fas (by simp))).trans ((gv_up_n (gv_nf ht1 fas)).trans ((gv_up_n (gv_nf hq fas)).trans ((gv_up_n (gv_ne fpl fas (by simp))).trans ((gv_up_n (gv_ne fky fas (by simp))).trans ((gv_up_n (ndp hd6 2 4 rfl rfl (by decide))).trans fas)))))), ((gv_up_n (gv_ne ftb fap (by simp))).trans ((gv_up_n (gv_nf ht1 fap)).trans ((gv_up_n (gv_nf hq fap)).trans ((gv_up_n (gv_ne fpl fap (by simp))).trans ((gv_up_n (gv_ne fky fap (by simp))).trans ((gv_up_n (ndp hd6 3 4 rfl rfl (by decide))).trans fap)))))), ((gv_up_n (gv_ne ftb fav (by simp))).trans ((gv_up_n (gv_nf ht1 fav)).trans ((gv_up_n (gv_nf hq fav)).trans ((gv_up_n (gv_ne fpl fav (by simp))).trans ((gv_up_n (gv_ne fky fav (by simp))).trans gv_up_s))))), ((gv_up_n (gv_ne ftb fnd (by simp))).trans ((gv_up_n (gv_nf ht1 fnd)).trans ((gv_up_n (gv_nf hq fnd)).trans ((gv_up_n (gv_ne fpl fnd (by simp))).trans ((gv_up_n (gv_ne fky fnd (by simp))).trans ((gv_up_n (gv_ne fav fnd (by simp))).trans fnd)))))), ((gv_up_n (gv_ne ftb fnl (by simp))).trans ((gv_up_n (gv_nf ht1 fnl)).trans ((gv_up_n (gv_nf hq fnl)).trans ((gv_up_n (gv_ne fpl fnl (by simp))).trans ((gv_up_n (gv_ne fky fnl (by simp))).trans ((gv_up_n (gv_ne fav fnl (by simp))).trans fnl)))))), ((gv_up_n (gv_ne ftb fwg (by simp))).trans ((gv_up_n (gv_nf ht1 fwg)).trans ((gv_up_n (gv_nf hq fwg)).trans ((gv_up_n (gv_ne fpl fwg (by simp))).trans ((gv_up_n (gv_ne fky fwg (by simp))).trans ((gv_up_n (ndp hd6 5 4 rfl rfl (by decide))).trans fwg)))))), ((gv_up_n (gv_ne ftb fky (by simp))).trans ((gv_up_n (gv_nf ht1 fky)).trans ((gv_up_n (gv_nf hq fky)).trans ((gv_up_n hky).trans gv_up_s)))), ((gv_up_n (gv_ne ftb fpl (by simp))).trans ((gv_up_n (gv_nf ht1 fpl)).trans ((gv_up_n (gv_nf hq fpl)).trans gv_up_s))), gv_up_s, hT, hdt, hX, hd6, hnn, hnd2, hnw, hky, ?_, hpo2, ?_, ?_, ?_, ?_, ?_, hOf, hOn, ?_⟩, hout⟩
  · intro p hp
    simp only [va_up]
    by_cases h : p = P
    · rw [if_pos h, if_pos h]
    · rw [if_neg h, if_neg h]; exact htf p hp
  · simp only [va_up]; rw [if_neg (by omega)]; exact htd
  · intro p hp hn
    simp only [va_up]; rw [if_neg (by omega)]; exact hnu p hp hn
  · intro i2 g2 t hi2 hg2 h1 h2
    by_cases h : i2 * 4 + g2 = P
    · have hie : i2 = i := by omega
      have hge : g2 = g := by omega
      subst hie; subst hge
      simp only [va_up, if_pos h]
      exact hS
    · simp only [va_up, if_neg h] at h1 h2 ⊢
      exact hfr i2 g2 t hi2 hg2 h1 h2
  · intro p t hp hpt
    by_cases h : p = P
    · simp only [va_up, if_pos h]; exact ⟨T.length, Nat.le_refl _, rfl⟩
    · simp only [va_up, if_neg h] at hpt ⊢; exact hmd p t hp hpt
  · intro q hq1
    by_cases h : O q
    · exact h
    · exact hO0 q ((hout q h).symm.trans hq1)
  · intro p t hp hpt
    by_cases h : p = P
    · simp only [va_up, if_pos h] at hpt ⊢
      rw [← Option.some.inj hpt]
      exact hOo
    · simp only [va_up, if_neg h] at hpt ⊢
      exact hOp p t hp hpt
