/-! the whole of the program's side -/
def FC (cI cN cR : ClassId) (O : Nat → Prop) (V : gv_V) (ob : Nat) (T : List Tr) (E : Nat → Ex) (ne : Nat) (qk : Nat → Nat) (nv : Nat → Nat → Int32) (nn : Nat) (L0 : List Row) (tc : Nat) : Prop := ∃ (mo tr xe nd tb wg ky pl td : Nat) (wf : Nat → Int32) (pT : Nat → Option Nat) (pC pN : Nat → Nat) (pL pM : Nat → Int32) (pF : Nat → Nat → Int32), V ob = some (.inr (6, [.ref mo, .ref tr, .ref xe, .ref nd, .ref td])) ∧ ¬ O ob ∧ CS cI cN cR O V mo tr xe nd tb wg ky pl td wf T E ne qk nv nn pT pC pN pL pM pF ∧ Tab L0 (pN 120) (pF 120) ∧ cnt (fun p => (pT p).isSome) 120 = tc
def uL (l : List Int32) : Nat → Int32 := fun j => l.getD j 0
def mkP (cI cN cR : ClassId) (O : Nat → Prop) (V : gv_V) (ob : Nat) (T : List Tr) (E : Nat → Ex) (ne : Nat) (qk : Nat → Nat) (nv : Nat → Nat → Int32) (nn : Nat) (L0 : List Row) (tc : Nat) (c : Bool) (q : Nat) (u : Nat → Int32) : Option Value → gv_V → Prop := fun zv zV => (c = true ∧ zv = some (.int (nI nn)) ∧ FC cI cN cR O zV ob T E ne (va_up qk nn q) (va_up nv nn u) (nn + 1) L0 tc ∧ ∀ a, ¬ O a → zV a = V a) ∨ (c = false ∧ zv = some (.int (-1 : Int32)) ∧ FC cI cN cR O zV ob T E ne qk nv nn L0 tc ∧ ∀ a, ¬ O a → zV a = V a)
theorem sln_nI {x : Int32} (h : sln x = true) : ∃ k, k ≤ 1000 ∧ x = nI k := by
  simp only [sln, Bool.and_eq_true, decide_eq_true_eq] at h
  obtain ⟨j, hj, rfl⟩ := nI_of (Int32.not_lt.mpr h.1)
  exact ⟨j, (nI_leI hj (by decide)).mp (show nI j ≤ nI 1000 from h.2), rfl⟩
theorem cnt_add {Q R S : Nat → Bool} : ∀ {n : Nat}, (∀ p, p < n → (Q p = true → R p = false ∧ S p = false) ∧ (R p = true → S p = false)) → cnt Q n + cnt R n + cnt S n ≤ n
  | 0, _ => Nat.le_refl _
  | n + 1, h => by
    have h1 := cnt_add (fun p hp => h p (by omega)) (n := n)
    have h2 := h n (by omega)
    simp only [cnt]
    cases hq : Q n <;> cases hr : R n <;> cases hs : S n <;> simp_all <;> omega
theorem cnt_dec {R : Nat → Bool} {P n : Nat} (h : P ≤ n) : cnt R P = cnt (fun p => decide (p < P) && R p) n := by
  induction n with
  | zero => rw [Nat.le_zero.mp h]; rfl
  | succ n ih =>
    by_cases hp : P = n + 1
    · subst hp
      exact cnt_c (fun p hp => by rw [decide_eq_true hp]; rfl)
    · simp only [cnt]
      rw [← ih (by omega)]
      simp [show ¬ n < P by omega]
def cntR (A : List Row) (x : Row) : Nat := cnt (fun z => lik (nI 63) (rowAt A z) x) A.length
def bagL (A B : List Row) : Bool := decide (A.length = B.length) && al (fun z => cntR A (rowAt A z) == cntR B (rowAt A z)) A.length
def sameS : Option (List Row) → Option (List Row) → Bool
  | some A, some B => bagL A B
  | _, _ => false
theorem cntL_R {A : List Row} {n : Nat} {f : Nat → Int32} {x y : Row} (h : Tab A n f) (hx : eq6 x y) : cntL f n x = cntR A y := by
  unfold cntL cntR
  rw [← h.1]
  exact cnt_c (fun p hp => lik_c (h.2.2 p hp) hx)
theorem sbag_L {A B : List Row} {n m : Nat} {f g : Nat → Int32} (hA : Tab A n f) (hB : Tab B m g) : sbag f n g m = bagL A B := by
  unfold sbag bagL
  rw [← hA.1, ← hB.1]
  congr 1
  exact al_c (fun p hp => by simp only [sbP]; rw [cntL_R hA (hA.2.2 p hp), cntL_R hB (hA.2.2 p hp)])
theorem same_S {S1 S2 : Option (List Row)} {n m : Nat} {t1 t2 : Int32} {f g : Nat → Int32} (h1 : TRep S1 n t1 f) (h2 : TRep S2 m t2 g) : (decide (t1 = 0) && decide (t2 = 0) && sbag f n g m) = sameS S1 S2 := by
  cases S1 with
  | none => rw [decide_eq_false (show ¬ t1 = 0 from h1)]; rfl
  | some A =>
    cases S2 with
    | none => rw [decide_eq_false (show ¬ t2 = 0 from h2)]; simp [sameS]
    | some B => rw [decide_eq_true h1.1, decide_eq_true h2.1, sbag_L h1.2 h2.2]; rfl
set_option maxHeartbeats 4000000 in
theorem cs_av {cI cN cR : ClassId} {O : Nat → Prop} {V : gv_V} {mo tr xe nd tb wg ky pl td : Nat} {wf : Nat → Int32} {T : List Tr} {E : Nat → Ex} {ne : Nat} {qk : Nat → Nat} {nv : Nat → Nat → Int32} {nn : Nat} {pT : Nat → Option Nat} {pC pN : Nat → Nat} {pL pM : Nat → Int32} {pF : Nat → Nat → Int32} {tga tsa tpa tqa : Nat} {tg ts tp tq : Nat → Int32} {ak af as ap av : Nat} {kd fs sc pt vl : Nat → Int32} {nl : Nat} {nf tf : Nat → Option Nat} {na : Nat → Nat} {kf pf : Nat → Int32} {vl1 : Nat → Int32} (fmo : V mo = some (.inr (1, [.ref tr, .ref xe, .ref nd, .ref tb, .ref wg, .ref ky, .ref pl]))) (ftr : V tr = some (.inr (5, [.ref tga, .ref tsa, .ref tpa, .ref tqa, .int (nI T.length)]))) (ftg : V tga = some (.inl (cI, 60, .inl tg))) (fts : V tsa = some (.inl (cI, 60, .inl ts))) (ftp : V tpa = some (.inl (cI, 60, .inl tp))) (ftq : V tqa = some (.inl (cI, 60, .inl tq))) (fxe : V xe = some (.inr (0, [.ref ak, .ref af, .ref as, .ref ap, .ref av, .int (nI ne)]))) (fak : V ak = some (.inl (cI, 30, .inl kd))) (faf : V af = some (.inl (cI, 30, .inl fs))) (fas : V as = some (.inl (cI, 30, .inl sc))) (fap : V ap = some (.inl (cI, 30, .inl pt))) (fav : V av = some (.inl (cI, 30, .inl vl))) (fnd : V nd = some (.inr (3, [.ref nl, .int (nI nn)]))) (fnl : V nl = some (.inl (cN, 30, .inr (.inr (.inr (.inr nf)))))) (fwg : V wg = some (.inl (cI, 30, .inl wf))) (fky : V ky = some (.inl (cI, 80, .inl kf))) (fpl : V pl = some (.inl (cI, 80, .inl pf))) (ftb : V tb = some (.inl (cR, 120, .inr (.inr (.inr (.inr tf)))))) (hT : TrR T T.length tg ts tp tq) (hdt : [tga, tsa, tpa, tqa].Nodup) (hX : ExR E ne kd fs sc pt) (hd6 : [ak, af, as, ap, av, wg].Nodup) (hnn : nn ≤ 30) (hnd : ∀ k, k < nn → nf k = some (na k) ∧ V (na k) = some (.inr (2, [.int (nI (qk k)), .int (nv k 1), .int (nv k 2), .int (nv k 3), .int (nv k 4), .int (nv k 5), .int (nv k 6), .int (nv k 7), .int (nv k 8), .int (nv k 9), .int (nv k 10), .int (nv k 11), .int (nv k 12), .int (nv k 13)]))) (hnw : ∀ k, k < nn → NW ne k (qk k) (nv k)) (hky : nq ky pl) (htf : ∀ p, p < 120 → tf p = pT p) (hpo : Pool cI V pT pC pN pL pM pF) (htd : pT 120 = some td) (hnu : ∀ p, p < 120 → nn * 4 ≤ p → pT p = none) (hfr : ∀ i g t, i < nn → g < 4 → pT (i * 4 + g) = some t → pM (i * 4 + g) = nI T.length → TRep (sem T E qk nv i g) (pN (i * 4 + g)) (pL (i * 4 + g)) (pF (i * 4 + g))) (hmd : ∀ p t, p < 120 → pT p = some t → ∃ k, k ≤ T.length ∧ pM p = nI k) (hO0 : ∀ q, V q = none → O q) (hOf : ∀ q ∈ [mo, tr, tga, tsa, tpa, tqa, xe, ak, af, as, ap, av, nd, nl, wg, ky, pl, tb], O q) (hOn : ∀ k, k < nn → O (na k)) (hOp : ∀ p t, p < 121 → pT p = some t → O t ∧ O (pC p))  : CS cI cN cR O (gv_up V av (.inl (cI, 30, .inl vl1))) mo tr xe nd tb wg ky pl td wf T E ne qk nv nn pT pC pN pL pM pF ∧ ∀ qq, ¬ O qq → (gv_up V av (.inl (cI, 30, .inl vl1))) qq = V qq := by
  have keep : ∀ qq, qq ≠ av → (gv_up V av (.inl (cI, 30, .inl vl1))) qq = V qq := fun qq a0 => gv_up_n a0
  have hpo2 : Pool cI (gv_up V av (.inl (cI, 30, .inl vl1))) pT pC pN pL pM pF := fun p t hp hpt => by
    obtain ⟨g1, g2, g3⟩ := hpo p t hp hpt
    exact ⟨(keep t (gv_ne fav g1 (by simp))).trans g1, (keep (pC p) (gv_ne fav g2 (by simp))).trans g2, g3⟩
  have hnd0 : ∀ k, k < nn → nf k = some (na k) ∧ (gv_up V av (.inl (cI, 30, .inl vl1))) (na k) = some (.inr (2, [.int (nI (qk k)), .int (nv k 1), .int (nv k 2), .int (nv k 3), .int (nv k 4), .int (nv k 5), .int (nv k 6), .int (nv k 7), .int (nv k 8), .int (nv k 9), .int (nv k 10), .int (nv k 11), .int (nv k 12), .int (nv k 13)])) := fun k hk => by
    obtain ⟨h1, h2⟩ := hnd k hk
    exact ⟨h1, (keep _ (gv_ne fav h2 (by simp))).trans h2⟩
  have hOl := hOf
  simp only [List.mem_cons, List.not_mem_nil, or_false, forall_eq_or_imp, forall_eq] at hOl
  have hout : ∀ qq, ¬ O qq → (gv_up V av (.inl (cI, 30, .inl vl1))) qq = V qq := fun qq hq0 => keep qq (fun e => hq0 (e ▸ hOl.2.2.2.2.2.2.2.2.2.2.2.1))
  exact ⟨⟨tga, tsa, tpa, tqa, tg, ts, tp, tq, ak, af, as, ap, av, kd, fs, sc, pt, vl1, nl, nf, tf, na, kf, pf, ((gv_up_n (gv_ne fav fmo (by simp))).trans fmo), ((gv_up_n (gv_ne fav ftr (by simp))).trans ftr), ((gv_up_n (gv_ne fav ftg (by simp))).trans ftg), ((gv_up_n (gv_ne fav fts (by simp))).trans fts), ((gv_up_n (gv_ne fav ftp (by simp))).trans ftp), ((gv_up_n (gv_ne fav ftq (by simp))).trans ftq), ((gv_up_n (gv_ne fav fxe (by simp))).trans fxe), ((gv_up_n (ndp hd6 0 4 rfl rfl (by decide))).trans fak), ((gv_up_n (ndp hd6 1 4 rfl rfl (by decide))).trans faf), ((gv_up_n (ndp hd6 2 4 rfl rfl (by decide))).trans fas), ((gv_up_n (ndp hd6 3 4 rfl rfl (by decide))).trans fap), gv_up_s, ((gv_up_n (gv_ne fav fnd (by simp))).trans fnd), ((gv_up_n (gv_ne fav fnl (by simp))).trans fnl), ((gv_up_n (ndp hd6 5 4 rfl rfl (by decide))).trans fwg), ((gv_up_n (gv_ne fav fky (by simp))).trans fky), ((gv_up_n (gv_ne fav fpl (by simp))).trans fpl), ((gv_up_n (gv_ne fav ftb (by simp))).trans ftb), hT, hdt, hX, hd6, hnn, hnd0, hnw, hky, htf, hpo2, htd, hnu, hfr, hmd, (fun qq hq1 => by
    by_cases h : O qq
    · exact h
    · exact hO0 qq ((hout qq h).symm.trans hq1)), hOf, hOn, hOp⟩, hout⟩
set_option maxHeartbeats 4000000 in
theorem cs_td {cI cN cR : ClassId} {O : Nat → Prop} {V : gv_V} {mo tr xe nd tb wg ky pl td : Nat} {wf : Nat → Int32} {T : List Tr} {E : Nat → Ex} {ne : Nat} {qk : Nat → Nat} {nv : Nat → Nat → Int32} {nn : Nat} {pT : Nat → Option Nat} {pC pN : Nat → Nat} {pL pM : Nat → Int32} {pF : Nat → Nat → Int32} {n1 : Nat} {f1 : Nat → Int32} (hCS : CS cI cN cR O V mo tr xe nd tb wg ky pl td wf T E ne qk nv nn pT pC pN pL pM pF) : CS cI cN cR O (gv_up (gv_up V (pC 120) (.inl (cI, 486, .inl f1))) td (.inr (4, [.ref (pC 120), .int (nI n1), .int (pL 120), .int (pM 120)]))) mo tr xe nd tb wg ky pl td wf T E ne qk nv nn pT pC (va_up pN 120 n1) pL pM (va_up pF 120 f1) ∧ ∀ q, ¬ O q → (gv_up (gv_up V (pC 120) (.inl (cI, 486, .inl f1))) td (.inr (4, [.ref (pC 120), .int (nI n1), .int (pL 120), .int (pM 120)]))) q = V q := by
  obtain ⟨tga, tsa, tpa, tqa, tg, ts, tp, tq, ak, af, as, ap, av, kd, fs, sc, pt, vl, nl, nf, tf, na, kf, pf, fmo, ftr, ftg, fts, ftp, ftq, fxe, fak, faf, fas, fap, fav, fnd, fnl, fwg, fky, fpl, ftb, hT, hdt, hX, hd6, hnn, hnd, hnw, hky, htf, hpo, htd, hnu, hfr, hmd, hO0, hOf, hOn, hOp⟩ := hCS
  obtain ⟨h_o, h_oc, hdis⟩ := hpo 120 td (by omega) htd
  have hOo := hOp 120 td (by omega) htd
  have keep : ∀ q, q ≠ td → q ≠ pC 120 → (gv_up (gv_up V (pC 120) (.inl (cI, 486, .inl f1))) td (.inr (4, [.ref (pC 120), .int (nI n1), .int (pL 120), .int (pM 120)]))) q = V q := fun q a1 a2 => (gv_up_n a1).trans (gv_up_n a2)
  have hout : ∀ q, ¬ O q → (gv_up (gv_up V (pC 120) (.inl (cI, 486, .inl f1))) td (.inr (4, [.ref (pC 120), .int (nI n1), .int (pL 120), .int (pM 120)]))) q = V q := fun q hq => keep q (fun e => hq (e ▸ hOo.1)) (fun e => hq (e ▸ hOo.2))
  refine ⟨⟨tga, tsa, tpa, tqa, tg, ts, tp, tq, ak, af, as, ap, av, kd, fs, sc, pt, vl, nl, nf, tf, na, kf, pf, ((gv_up_n (gv_ne h_o fmo (by simp))).trans ((gv_up_n (gv_ne h_oc fmo (by simp))).trans fmo)), ((gv_up_n (gv_ne h_o ftr (by simp))).trans ((gv_up_n (gv_ne h_oc ftr (by simp))).trans ftr)), ((gv_up_n (gv_ne h_o ftg (by simp))).trans ((gv_up_n (gv_ne h_oc ftg (by simp))).trans ftg)), ((gv_up_n (gv_ne h_o fts (by simp))).trans ((gv_up_n (gv_ne h_oc fts (by simp))).trans fts)), ((gv_up_n (gv_ne h_o ftp (by simp))).trans ((gv_up_n (gv_ne h_oc ftp (by simp))).trans ftp)), ((gv_up_n (gv_ne h_o ftq (by simp))).trans ((gv_up_n (gv_ne h_oc ftq (by simp))).trans ftq)), ((gv_up_n (gv_ne h_o fxe (by simp))).trans ((gv_up_n (gv_ne h_oc fxe (by simp))).trans fxe)), ((gv_up_n (gv_ne h_o fak (by simp))).trans ((gv_up_n (gv_ne h_oc fak (by simp))).trans fak)), ((gv_up_n (gv_ne h_o faf (by simp))).trans ((gv_up_n (gv_ne h_oc faf (by simp))).trans faf)), ((gv_up_n (gv_ne h_o fas (by simp))).trans ((gv_up_n (gv_ne h_oc fas (by simp))).trans fas)), ((gv_up_n (gv_ne h_o fap (by simp))).trans ((gv_up_n (gv_ne h_oc fap (by simp))).trans fap)), ((gv_up_n (gv_ne h_o fav (by simp))).trans ((gv_up_n (gv_ne h_oc fav (by simp))).trans fav)), ((gv_up_n (gv_ne h_o fnd (by simp))).trans ((gv_up_n (gv_ne h_oc fnd (by simp))).trans fnd)), ((gv_up_n (gv_ne h_o fnl (by simp))).trans ((gv_up_n (gv_ne h_oc fnl (by simp))).trans fnl)), ((gv_up_n (gv_ne h_o fwg (by simp))).trans ((gv_up_n (gv_ne h_oc fwg (by simp))).trans fwg)), ((gv_up_n (gv_ne h_o fky (by simp))).trans ((gv_up_n (gv_ne h_oc fky (by simp))).trans fky)), ((gv_up_n (gv_ne h_o fpl (by simp))).trans ((gv_up_n (gv_ne h_oc fpl (by simp))).trans fpl)), ((gv_up_n (gv_ne h_o ftb (by simp))).trans ((gv_up_n (gv_ne h_oc ftb (by simp))).trans ftb)), hT, hdt, hX, hd6, hnn, fun k hk => ⟨(hnd k hk).1, ((gv_up_n (gv_ne h_o (hnd k hk).2 (by simp))).trans ((gv_up_n (gv_ne h_oc (hnd k hk).2 (by simp))).trans (hnd k hk).2))⟩, hnw, hky, htf, fun p t hp hpt => ?_, htd, hnu, fun i g t h1 h2 h3 h4 => ?_, hmd, fun q hq1 => ?_, hOf, hOn, hOp⟩, hout⟩
  · obtain ⟨g1, g2, g3⟩ := hpo p t hp hpt
    by_cases hp2 : p = 120
    · subst hp2
      have e : t = td := Option.some.inj (hpt.symm.trans htd)
      subst e
      simp only [va_up, if_pos]
      exact ⟨gv_up_s, (gv_up_n (gv_ne h_o h_oc (by simp))).trans gv_up_s, g3⟩
    · simp only [va_up, if_neg hp2]
      obtain ⟨n3, n4⟩ := hdis p t hp hpt hp2
      exact ⟨(keep t n3 (gv_ne h_oc g1 (by simp))).trans g1, (keep (pC p) (gv_ne h_o g2 (by simp)) n4).trans g2, g3⟩
  · have hne : ¬ i * 4 + g = 120 := by omega
    simp only [va_up, if_neg hne]
    exact hfr i g t h1 h2 h3 h4
  · by_cases h : O q
    · exact h
    · exact hO0 q ((hout q h).symm.trans hq1)
set_option maxHeartbeats 4000000 in
theorem FC.nd {cI cN cR : ClassId} {O : Nat → Prop} {V : gv_V} {ob : Nat} {T : List Tr} {E : Nat → Ex} {ne : Nat} {qk : Nat → Nat} {nv : Nat → Nat → Int32} {nn : Nat} {L0 : List Row} {tc : Nat} (h : FC cI cN cR O V ob T E ne qk nv nn L0 tc) : ∃ (mo tr xe nd td nl ak af as ap av : Nat) (nf : Nat → Option Nat), V ob = some (.inr (6, [.ref mo, .ref tr, .ref xe, .ref nd, .ref td])) ∧ V nd = some (.inr (3, [.ref nl, .int (nI nn)])) ∧ V nl = some (.inl (cN, 30, .inr (.inr (.inr (.inr nf))))) ∧ V xe = some (.inr (0, [.ref ak, .ref af, .ref as, .ref ap, .ref av, .int (nI ne)])) ∧ nn ≤ 30 ∧ ne ≤ 30 ∧ ∀ (no q : Nat) (u : Nat → Int32), V no = none → nn < 30 → NW ne nn q u → FC cI cN cR O (gv_up (gv_up (gv_up V no (.inr (2, [.int (nI q), .int (u 1), .int (u 2), .int (u 3), .int (u 4), .int (u 5), .int (u 6), .int (u 7), .int (u 8), .int (u 9), .int (u 10), .int (u 11), .int (u 12), .int (u 13)]))) nl (.inl (cN, 30, .inr (.inr (.inr (.inr (va_up nf nn (some no)))))))) nd (.inr (3, [.ref nl, .int (nI (nn + 1))]))) ob T E ne (va_up qk nn q) (va_up nv nn u) (nn + 1) L0 tc ∧ ∀ a, ¬ O a → (gv_up (gv_up (gv_up V no (.inr (2, [.int (nI q), .int (u 1), .int (u 2), .int (u 3), .int (u 4), .int (u 5), .int (u 6), .int (u 7), .int (u 8), .int (u 9), .int (u 10), .int (u 11), .int (u 12), .int (u 13)]))) nl (.inl (cN, 30, .inr (.inr (.inr (.inr (va_up nf nn (some no)))))))) nd (.inr (3, [.ref nl, .int (nI (nn + 1))]))) a = V a := by
  obtain ⟨mo, tr, xe, nd, tb, wg, ky, pl, td, wf, pT, pC, pN, pL, pM, pF, h_ob, hnO, hCS, hTab, htc⟩ := h
  have hCS0 := hCS
  obtain ⟨tga, tsa, tpa, tqa, tg, ts, tp, tq, ak, af, as, ap, av, kd, fs, sc, pt, vl, nl, nf, tf, na, kf, pf, fmo, ftr, ftg, fts, ftp, ftq, fxe, fak, faf, fas, fap, fav, fnd, fnl, fwg, fky, fpl, ftb, hT, hdt, hX, hd6, hnn, hnd, hnw, hky, htf, hpo, htd, hnu, hfr, hmd, hO0, hOf, hOn, hOp⟩ := hCS
  refine ⟨mo, tr, xe, nd, td, nl, ak, af, as, ap, av, nf, h_ob, fnd, fnl, fxe, hnn, hX.1, fun no q u hno hlt hw => ?_⟩
  obtain ⟨g1, g2⟩ := cs_nd (q := q) (u := u) fmo ftr ftg fts ftp ftq fxe fak faf fas fap fav fnd fnl fwg fky fpl ftb hT hdt hX hd6 hnn hnd hnw hky htf hpo htd hnu hfr hmd hO0 hOf hOn hOp hno hlt hw
  exact ⟨⟨mo, tr, xe, nd, tb, wg, ky, pl, td, wf, pT, pC, pN, pL, pM, pF, (g2 ob hnO).trans h_ob, hnO, g1, hTab, htc⟩, g2⟩
set_option maxHeartbeats 4000000 in
theorem FC.ex {cI cN cR : ClassId} {O : Nat → Prop} {V : gv_V} {ob : Nat} {T : List Tr} {E : Nat → Ex} {ne : Nat} {qk : Nat → Nat} {nv : Nat → Nat → Int32} {nn : Nat} {L0 : List Row} {tc : Nat} (h : FC cI cN cR O V ob T E ne qk nv nn L0 tc) : ∃ (mo tr xe nd td ak af as ap av : Nat) (kd fs sc pt vl : Nat → Int32), V ob = some (.inr (6, [.ref mo, .ref tr, .ref xe, .ref nd, .ref td])) ∧ V xe = some (.inr (0, [.ref ak, .ref af, .ref as, .ref ap, .ref av, .int (nI ne)])) ∧ V ak = some (.inl (cI, 30, .inl kd)) ∧ V af = some (.inl (cI, 30, .inl fs)) ∧ V as = some (.inl (cI, 30, .inl sc)) ∧ V ap = some (.inl (cI, 30, .inl pt)) ∧ V av = some (.inl (cI, 30, .inl vl)) ∧ ExR E ne kd fs sc pt ∧ [ak, af, as, ap, av].Nodup ∧ (∃ tc n tl mk f, V td = some (.inr (4, [.ref tc, .int (nI n), .int tl, .int mk])) ∧ V tc = some (.inl (cI, 486, .inl f)) ∧ Tab L0 n f) ∧ (∀ (q : Nat) (a b s w : Int32), ne < 30 → ExR (va_up E ne (q, a, b)) (ne + 1) (upd kd ne (nI q)) (upd fs ne a) (upd sc ne s) (upd pt ne (w ||| nI 1 <<< (nI ne &&& 31))) → FC cI cN cR O (gv_up (gv_up (gv_up (gv_up (gv_up V ak (.inl (cI, 30, .inl (upd kd ne (nI q))))) af (.inl (cI, 30, .inl (upd fs ne a)))) as (.inl (cI, 30, .inl (upd sc ne s)))) ap (.inl (cI, 30, .inl (upd pt ne (w ||| nI 1 <<< (nI ne &&& 31)))))) xe (.inr (0, [.ref ak, .ref af, .ref as, .ref ap, .ref av, .int (nI (ne + 1))]))) ob T (va_up E ne (q, a, b)) (ne + 1) qk nv nn L0 tc ∧ ∀ z, ¬ O z → (gv_up (gv_up (gv_up (gv_up (gv_up V ak (.inl (cI, 30, .inl (upd kd ne (nI q))))) af (.inl (cI, 30, .inl (upd fs ne a)))) as (.inl (cI, 30, .inl (upd sc ne s)))) ap (.inl (cI, 30, .inl (upd pt ne (w ||| nI 1 <<< (nI ne &&& 31)))))) xe (.inr (0, [.ref ak, .ref af, .ref as, .ref ap, .ref av, .int (nI (ne + 1))]))) z = V z) ∧ ∀ vl1, FC cI cN cR O (gv_up V av (.inl (cI, 30, .inl vl1))) ob T E ne qk nv nn L0 tc ∧ ∀ z, ¬ O z → (gv_up V av (.inl (cI, 30, .inl vl1))) z = V z := by
  obtain ⟨mo, tr, xe, nd, tb, wg, ky, pl, td, wf, pT, pC, pN, pL, pM, pF, h_ob, hnO, hCS, hTab, htc⟩ := h
  have hCS0 := hCS
  obtain ⟨tga, tsa, tpa, tqa, tg, ts, tp, tq, ak, af, as, ap, av, kd, fs, sc, pt, vl, nl, nf, tf, na, kf, pf, fmo, ftr, ftg, fts, ftp, ftq, fxe, fak, faf, fas, fap, fav, fnd, fnl, fwg, fky, fpl, ftb, hT, hdt, hX, hd6, hnn, hnd, hnw, hky, htf, hpo, htd, hnu, hfr, hmd, hO0, hOf, hOn, hOp⟩ := hCS
  obtain ⟨h_o, h_oc, -⟩ := hpo 120 td (by omega) htd
  refine ⟨mo, tr, xe, nd, td, ak, af, as, ap, av, kd, fs, sc, pt, vl, h_ob, fxe, fak, faf, fas, fap, fav, hX, nd5 hd6, ⟨_, _, _, _, _, h_o, h_oc, hTab⟩, fun q a b s w hlt hX2 => ?_, fun vl1 => ?_⟩
  · obtain ⟨g1, g2⟩ := cs_ex (q := q) (a := a) (b := b) (s := s) (w := w) fmo ftr ftg fts ftp ftq fxe fak faf fas fap fav fnd fnl fwg fky fpl ftb hT hdt hX hd6 hnn hnd hnw hky htf hpo htd hnu hfr hmd hO0 hOf hOn hOp hlt hX2
    exact ⟨⟨mo, tr, xe, nd, tb, wg, ky, pl, td, wf, pT, pC, pN, pL, pM, pF, (g2 ob hnO).trans h_ob, hnO, g1, hTab, htc⟩, g2⟩
  · obtain ⟨g1, g2⟩ := cs_av (vl1 := vl1) fmo ftr ftg fts ftp ftq fxe fak faf fas fap fav fnd fnl fwg fky fpl ftb hT hdt hX hd6 hnn hnd hnw hky htf hpo htd hnu hfr hmd hO0 hOf hOn hOp
    exact ⟨⟨mo, tr, xe, nd, tb, wg, ky, pl, td, wf, pT, pC, pN, pL, pM, pF, (g2 ob hnO).trans h_ob, hnO, g1, hTab, htc⟩, g2⟩
set_option maxHeartbeats 4000000 in
theorem f_pattern {zl : Launch} {D : va_G} {cI cN cR : ClassId} {base : Nat} {O : Nat → Prop} {V : gv_V} {ob : Nat} {T : List Tr} {E : Nat → Ex} {ne : Nat} {qk : Nat → Nat} {nv : Nat → Nat → Int32} {nn : Nat} {L0 : List Row} {tc : Nat} {x y z : Int32} (h : FC cI cN cR O V ob T E ne qk nv nn L0 tc) : ct zl D [(cI, .int), (cN, .object "AlgebraTree$Node"), (cR, .object "AlgebraTree$Rows")] base yX6_pattern cX6_pattern 5 (some .int) 3 1 14 [.ref ob, .int x, .int y, .int z] V (mkP cI cN cR O V ob T E ne qk nv nn L0 tc (!decide (nn = 30) && plc x && plc y && plc z) (0) (uL [0, (-1 : Int32), (-1 : Int32), x, y, z, 0, 0, 0, 0, 0, 0, 0, 0])) := by
  obtain ⟨mo, tr, xe, nd, td, nl, ak, af, as, ap, av, nf, h_ob, fnd, fnl, fxe, hnn, hne30, hG⟩ := FC.nd h
  refine ct_mono (c_X6_pattern (mo := mo) h_ob fnd fnl hnn) (fun zv zV zh => ?_)
  rcases zh with ⟨hc, no, hno, hzv, hzV⟩ | ⟨hc, hzv, hzV⟩
  · have hc2 := hc
    simp only [Bool.and_eq_true, Bool.not_eq_true', decide_eq_false_iff_not, Bool.or_eq_true, beq_iff_eq] at hc2
    obtain ⟨⟨⟨h3, hx⟩, hy⟩, hz⟩ := hc2
    have hlt : nn < 30 := by omega
    have hw9 : NW ne nn (0) (uL [0, (-1 : Int32), (-1 : Int32), x, y, z, 0, 0, 0, 0, 0, 0, 0, 0]) := ⟨(by omega), fun _ => ⟨rfl, rfl, hx, hy, hz⟩, fun h => absurd h (by omega), fun h => absurd h (by omega), fun h => absurd h (by omega), fun h => absurd h (by omega), fun h => absurd h (by omega), fun h => absurd h (by omega), fun h => absurd h (by omega), fun h => absurd h (by omega)⟩
    have hg := hG no (0) (uL [0, (-1 : Int32), (-1 : Int32), x, y, z, 0, 0, 0, 0, 0, 0, 0, 0]) hno hlt hw9
    rw [hzV]
    exact Or.inl ⟨hc, hzv, hg.1, hg.2⟩
  · rw [hzV]
    exact Or.inr ⟨hc, hzv, h, fun _ _ => rfl⟩
set_option maxHeartbeats 4000000 in
theorem f_both {zl : Launch} {D : va_G} {cI cN cR : ClassId} {base : Nat} {O : Nat → Prop} {V : gv_V} {ob : Nat} {T : List Tr} {E : Nat → Ex} {ne : Nat} {qk : Nat → Nat} {nv : Nat → Nat → Int32} {nn : Nat} {L0 : List Row} {tc : Nat} {x y z : Int32} (h : FC cI cN cR O V ob T E ne qk nv nn L0 tc) : ct zl D [(cI, .int), (cN, .object "AlgebraTree$Node"), (cR, .object "AlgebraTree$Rows")] base yX6_both cX6_both 4 (some .int) 3 1 14 [.ref ob, .int x, .int y, .int z] V (mkP cI cN cR O V ob T E ne qk nv nn L0 tc (blw x (nI 3) && (!decide (nn = 30) && blw y (nI nn)) && blw z (nI nn)) (1 + tn x) (uL [0, y, z, 0, 0, 0, 0, 0, 0, 0, 0, 0, 0, 0])) := by
  obtain ⟨mo, tr, xe, nd, td, nl, ak, af, as, ap, av, nf, h_ob, fnd, fnl, fxe, hnn, hne30, hG⟩ := FC.nd h
  refine ct_mono (c_X6_both (mo := mo) h_ob fnd fnl hnn) (fun zv zV zh => ?_)
  rcases zh with ⟨hc, no, hno, hzv, hzV⟩ | ⟨hc, hzv, hzV⟩
  · have hc2 := hc
    simp only [Bool.and_eq_true, Bool.not_eq_true', decide_eq_false_iff_not, Bool.or_eq_true, beq_iff_eq] at hc2
    obtain ⟨⟨hx, h3, hy⟩, hz⟩ := hc2
    have hx3 : tn x < 3 := blw_lt (by omega) hx
    have hlt : nn < 30 := by omega
    have hw9 : NW ne nn (1 + tn x) (uL [0, y, z, 0, 0, 0, 0, 0, 0, 0, 0, 0, 0, 0]) := ⟨(by omega), fun h => absurd h (by omega), fun _ => (blw_nI (by omega) hy), fun _ _ => blw_nI (by omega) hz, fun h => absurd h (by omega), fun h => absurd h (by omega), fun h => absurd h (by omega), fun h => absurd h (by omega), fun h => absurd h (by omega), fun h => absurd h (by omega)⟩
    have hg := hG no (1 + tn x) (uL [0, y, z, 0, 0, 0, 0, 0, 0, 0, 0, 0, 0, 0]) hno hlt hw9
    rw [hzV]
    exact Or.inl ⟨hc, hzv, hg.1, hg.2⟩
  · rw [hzV]
    exact Or.inr ⟨hc, hzv, h, fun _ _ => rfl⟩
set_option maxHeartbeats 4000000 in
theorem f_left {zl : Launch} {D : va_G} {cI cN cR : ClassId} {base : Nat} {O : Nat → Prop} {V : gv_V} {ob : Nat} {T : List Tr} {E : Nat → Ex} {ne : Nat} {qk : Nat → Nat} {nv : Nat → Nat → Int32} {nn : Nat} {L0 : List Row} {tc : Nat} {y z w : Int32} (h : FC cI cN cR O V ob T E ne qk nv nn L0 tc) : ct zl D [(cI, .int), (cN, .object "AlgebraTree$Node"), (cR, .object "AlgebraTree$Rows")] base yX6_left cX6_left 5 (some .int) 3 1 14 [.ref ob, .int y, .int z, .int w] V (mkP cI cN cR O V ob T E ne qk nv nn L0 tc ((!decide (nn = 30) && blw y (nI nn)) && blw z (nI nn) && (w == -1 || blw w (nI ne))) (4) (uL [0, y, z, 0, 0, 0, w, 0, 0, 0, 0, 0, 0, 0])) := by
  obtain ⟨mo, tr, xe, nd, td, nl, ak, af, as, ap, av, nf, h_ob, fnd, fnl, fxe, hnn, hne30, hG⟩ := FC.nd h
  refine ct_mono (c_X6_left (mo := mo) h_ob fnd fnl fxe hnn) (fun zv zV zh => ?_)
  rcases zh with ⟨hc, no, hno, hzv, hzV⟩ | ⟨hc, hzv, hzV⟩
  · have hc2 := hc
    simp only [Bool.and_eq_true, Bool.not_eq_true', decide_eq_false_iff_not, Bool.or_eq_true, beq_iff_eq] at hc2
    obtain ⟨⟨⟨h3, hy⟩, hz⟩, hw⟩ := hc2
    have hlt : nn < 30 := by omega
    have hw9 : NW ne nn (4) (uL [0, y, z, 0, 0, 0, w, 0, 0, 0, 0, 0, 0, 0]) := ⟨(by omega), fun h => absurd h (by omega), fun _ => (blw_nI (by omega) hy), fun _ _ => blw_nI (by omega) hz, fun h => absurd h (by omega), fun _ => hw.imp (fun h => h) (fun h => blw_nI (by omega) h), fun h => absurd h (by omega), fun h => absurd h (by omega), fun h => absurd h (by omega), fun h => absurd h (by omega)⟩
    have hg := hG no (4) (uL [0, y, z, 0, 0, 0, w, 0, 0, 0, 0, 0, 0, 0]) hno hlt hw9
    rw [hzV]
    exact Or.inl ⟨hc, hzv, hg.1, hg.2⟩
  · rw [hzV]
    exact Or.inr ⟨hc, hzv, h, fun _ _ => rfl⟩
set_option maxHeartbeats 4000000 in
theorem f_filter {zl : Launch} {D : va_G} {cI cN cR : ClassId} {base : Nat} {O : Nat → Prop} {V : gv_V} {ob : Nat} {T : List Tr} {E : Nat → Ex} {ne : Nat} {qk : Nat → Nat} {nv : Nat → Nat → Int32} {nn : Nat} {L0 : List Row} {tc : Nat} {y w : Int32} (h : FC cI cN cR O V ob T E ne qk nv nn L0 tc) : ct zl D [(cI, .int), (cN, .object "AlgebraTree$Node"), (cR, .object "AlgebraTree$Rows")] base yX6_filter cX6_filter 4 (some .int) 3 1 14 [.ref ob, .int y, .int w] V (mkP cI cN cR O V ob T E ne qk nv nn L0 tc ((!decide (nn = 30) && blw y (nI nn)) && blw w (nI ne)) (5) (uL [0, y, (-1 : Int32), 0, 0, 0, w, 0, 0, 0, 0, 0, 0, 0])) := by
  obtain ⟨mo, tr, xe, nd, td, nl, ak, af, as, ap, av, nf, h_ob, fnd, fnl, fxe, hnn, hne30, hG⟩ := FC.nd h
  refine ct_mono (c_X6_filter (mo := mo) h_ob fnd fnl fxe hnn) (fun zv zV zh => ?_)
  rcases zh with ⟨hc, no, hno, hzv, hzV⟩ | ⟨hc, hzv, hzV⟩
  · have hc2 := hc
    simp only [Bool.and_eq_true, Bool.not_eq_true', decide_eq_false_iff_not, Bool.or_eq_true, beq_iff_eq] at hc2
    obtain ⟨⟨h3, hy⟩, hw⟩ := hc2
    have hlt : nn < 30 := by omega
    have hw9 : NW ne nn (5) (uL [0, y, (-1 : Int32), 0, 0, 0, w, 0, 0, 0, 0, 0, 0, 0]) := ⟨(by omega), fun h => absurd h (by omega), fun _ => (blw_nI (by omega) hy), fun h1 h2 => absurd h2 (by omega), fun _ => rfl, fun h => absurd h (by omega), fun _ => blw_nI (by omega) hw, fun h => absurd h (by omega), fun h => absurd h (by omega), fun h => absurd h (by omega)⟩
    have hg := hG no (5) (uL [0, y, (-1 : Int32), 0, 0, 0, w, 0, 0, 0, 0, 0, 0, 0]) hno hlt hw9
    rw [hzV]
    exact Or.inl ⟨hc, hzv, hg.1, hg.2⟩
  · rw [hzV]
    exact Or.inr ⟨hc, hzv, h, fun _ _ => rfl⟩
set_option maxHeartbeats 4000000 in
theorem f_extend {zl : Launch} {D : va_G} {cI cN cR : ClassId} {base : Nat} {O : Nat → Prop} {V : gv_V} {ob : Nat} {T : List Tr} {E : Nat → Ex} {ne : Nat} {qk : Nat → Nat} {nv : Nat → Nat → Int32} {nn : Nat} {L0 : List Row} {tc : Nat} {y x w : Int32} (h : FC cI cN cR O V ob T E ne qk nv nn L0 tc) : ct zl D [(cI, .int), (cN, .object "AlgebraTree$Node"), (cR, .object "AlgebraTree$Rows")] base yX6_extend cX6_extend 5 (some .int) 3 1 14 [.ref ob, .int y, .int x, .int w] V (mkP cI cN cR O V ob T E ne qk nv nn L0 tc ((!decide (nn = 30) && blw y (nI nn)) && blw x (nI 6) && blw w (nI ne)) (6) (uL [0, y, (-1 : Int32), 0, 0, 0, w, x, 0, 0, 0, 0, 0, 0])) := by
  obtain ⟨mo, tr, xe, nd, td, nl, ak, af, as, ap, av, nf, h_ob, fnd, fnl, fxe, hnn, hne30, hG⟩ := FC.nd h
  refine ct_mono (c_X6_extend (mo := mo) h_ob fnd fnl fxe hnn) (fun zv zV zh => ?_)
  rcases zh with ⟨hc, no, hno, hzv, hzV⟩ | ⟨hc, hzv, hzV⟩
  · have hc2 := hc
    simp only [Bool.and_eq_true, Bool.not_eq_true', decide_eq_false_iff_not, Bool.or_eq_true, beq_iff_eq] at hc2
    obtain ⟨⟨⟨h3, hy⟩, hx⟩, hw⟩ := hc2
    have hlt : nn < 30 := by omega
    have hw9 : NW ne nn (6) (uL [0, y, (-1 : Int32), 0, 0, 0, w, x, 0, 0, 0, 0, 0, 0]) := ⟨(by omega), fun h => absurd h (by omega), fun _ => (blw_nI (by omega) hy), fun h1 h2 => absurd h2 (by omega), fun _ => rfl, fun h => absurd h (by omega), fun _ => blw_nI (by omega) hw, fun _ => blw_nI (by omega) hx, fun h => absurd h (by omega), fun h => absurd h (by omega)⟩
    have hg := hG no (6) (uL [0, y, (-1 : Int32), 0, 0, 0, w, x, 0, 0, 0, 0, 0, 0]) hno hlt hw9
    rw [hzV]
    exact Or.inl ⟨hc, hzv, hg.1, hg.2⟩
  · rw [hzV]
    exact Or.inr ⟨hc, hzv, h, fun _ _ => rfl⟩
set_option maxHeartbeats 4000000 in
theorem f_project {zl : Launch} {D : va_G} {cI cN cR : ClassId} {base : Nat} {O : Nat → Prop} {V : gv_V} {ob : Nat} {T : List Tr} {E : Nat → Ex} {ne : Nat} {qk : Nat → Nat} {nv : Nat → Nat → Int32} {nn : Nat} {L0 : List Row} {tc : Nat} {y x : Int32} (h : FC cI cN cR O V ob T E ne qk nv nn L0 tc) : ct zl D [(cI, .int), (cN, .object "AlgebraTree$Node"), (cR, .object "AlgebraTree$Rows")] base yX6_project cX6_project 4 (some .int) 3 1 14 [.ref ob, .int y, .int x] V (mkP cI cN cR O V ob T E ne qk nv nn L0 tc ((!decide (nn = 30) && blw y (nI nn)) && blw x (nI 64)) (7) (uL [0, y, (-1 : Int32), 0, 0, 0, 0, 0, x, 0, 0, 0, 0, 0])) := by
  obtain ⟨mo, tr, xe, nd, td, nl, ak, af, as, ap, av, nf, h_ob, fnd, fnl, fxe, hnn, hne30, hG⟩ := FC.nd h
  refine ct_mono (c_X6_project (mo := mo) h_ob fnd fnl hnn) (fun zv zV zh => ?_)
  rcases zh with ⟨hc, no, hno, hzv, hzV⟩ | ⟨hc, hzv, hzV⟩
  · have hc2 := hc
    simp only [Bool.and_eq_true, Bool.not_eq_true', decide_eq_false_iff_not, Bool.or_eq_true, beq_iff_eq] at hc2
    obtain ⟨⟨h3, hy⟩, hx⟩ := hc2
    have hlt : nn < 30 := by omega
    have hw9 : NW ne nn (7) (uL [0, y, (-1 : Int32), 0, 0, 0, 0, 0, x, 0, 0, 0, 0, 0]) := ⟨(by omega), fun h => absurd h (by omega), fun _ => (blw_nI (by omega) hy), fun h1 h2 => absurd h2 (by omega), fun _ => rfl, fun h => absurd h (by omega), fun h => absurd h (by omega), fun h => absurd h (by omega), fun h => absurd h (by omega), fun h => absurd h (by omega)⟩
    have hg := hG no (7) (uL [0, y, (-1 : Int32), 0, 0, 0, 0, 0, x, 0, 0, 0, 0, 0]) hno hlt hw9
    rw [hzV]
    exact Or.inl ⟨hc, hzv, hg.1, hg.2⟩
  · rw [hzV]
    exact Or.inr ⟨hc, hzv, h, fun _ _ => rfl⟩
set_option maxHeartbeats 4000000 in
theorem f_distinct {zl : Launch} {D : va_G} {cI cN cR : ClassId} {base : Nat} {O : Nat → Prop} {V : gv_V} {ob : Nat} {T : List Tr} {E : Nat → Ex} {ne : Nat} {qk : Nat → Nat} {nv : Nat → Nat → Int32} {nn : Nat} {L0 : List Row} {tc : Nat} {y : Int32} (h : FC cI cN cR O V ob T E ne qk nv nn L0 tc) : ct zl D [(cI, .int), (cN, .object "AlgebraTree$Node"), (cR, .object "AlgebraTree$Rows")] base yX6_distinct cX6_distinct 2 (some .int) 3 1 14 [.ref ob, .int y] V (mkP cI cN cR O V ob T E ne qk nv nn L0 tc (!decide (nn = 30) && blw y (nI nn)) (8) (uL [0, y, (-1 : Int32), 0, 0, 0, 0, 0, 0, 0, 0, 0, 0, 0])) := by
  obtain ⟨mo, tr, xe, nd, td, nl, ak, af, as, ap, av, nf, h_ob, fnd, fnl, fxe, hnn, hne30, hG⟩ := FC.nd h
  refine ct_mono (c_X6_distinct (mo := mo) h_ob fnd fnl hnn) (fun zv zV zh => ?_)
  rcases zh with ⟨hc, no, hno, hzv, hzV⟩ | ⟨hc, hzv, hzV⟩
  · have hc2 := hc
    simp only [Bool.and_eq_true, Bool.not_eq_true', decide_eq_false_iff_not, Bool.or_eq_true, beq_iff_eq] at hc2
    obtain ⟨h3, hy⟩ := hc2
    have hlt : nn < 30 := by omega
    have hw9 : NW ne nn (8) (uL [0, y, (-1 : Int32), 0, 0, 0, 0, 0, 0, 0, 0, 0, 0, 0]) := ⟨(by omega), fun h => absurd h (by omega), fun _ => (blw_nI (by omega) hy), fun h1 h2 => absurd h2 (by omega), fun _ => rfl, fun h => absurd h (by omega), fun h => absurd h (by omega), fun h => absurd h (by omega), fun h => absurd h (by omega), fun h => absurd h (by omega)⟩
    have hg := hG no (8) (uL [0, y, (-1 : Int32), 0, 0, 0, 0, 0, 0, 0, 0, 0, 0, 0]) hno hlt hw9
    rw [hzV]
    exact Or.inl ⟨hc, hzv, hg.1, hg.2⟩
  · rw [hzV]
    exact Or.inr ⟨hc, hzv, h, fun _ _ => rfl⟩
set_option maxHeartbeats 4000000 in
theorem f_slice {zl : Launch} {D : va_G} {cI cN cR : ClassId} {base : Nat} {O : Nat → Prop} {V : gv_V} {ob : Nat} {T : List Tr} {E : Nat → Ex} {ne : Nat} {qk : Nat → Nat} {nv : Nat → Nat → Int32} {nn : Nat} {L0 : List Row} {tc : Nat} {y x z : Int32} (h : FC cI cN cR O V ob T E ne qk nv nn L0 tc) : ct zl D [(cI, .int), (cN, .object "AlgebraTree$Node"), (cR, .object "AlgebraTree$Rows")] base yX6_slice cX6_slice 5 (some .int) 3 1 14 [.ref ob, .int y, .int x, .int z] V (mkP cI cN cR O V ob T E ne qk nv nn L0 tc ((!decide (nn = 30) && blw y (nI nn)) && sln x && sln z) (9) (uL [0, y, (-1 : Int32), 0, 0, 0, 0, 0, 0, x, z, 0, 0, 0])) := by
  obtain ⟨mo, tr, xe, nd, td, nl, ak, af, as, ap, av, nf, h_ob, fnd, fnl, fxe, hnn, hne30, hG⟩ := FC.nd h
  refine ct_mono (c_X6_slice (mo := mo) h_ob fnd fnl hnn) (fun zv zV zh => ?_)
  rcases zh with ⟨hc, no, hno, hzv, hzV⟩ | ⟨hc, hzv, hzV⟩
  · have hc2 := hc
    simp only [Bool.and_eq_true, Bool.not_eq_true', decide_eq_false_iff_not, Bool.or_eq_true, beq_iff_eq] at hc2
    obtain ⟨⟨⟨h3, hy⟩, hx⟩, hz⟩ := hc2
    have hlt : nn < 30 := by omega
    have hw9 : NW ne nn (9) (uL [0, y, (-1 : Int32), 0, 0, 0, 0, 0, 0, x, z, 0, 0, 0]) := ⟨(by omega), fun h => absurd h (by omega), fun _ => (blw_nI (by omega) hy), fun h1 h2 => absurd h2 (by omega), fun _ => rfl, fun h => absurd h (by omega), fun h => absurd h (by omega), fun h => absurd h (by omega), fun _ => by
      obtain ⟨u0, a1, a2⟩ := sln_nI hx
      obtain ⟨u1, a3, a4⟩ := sln_nI hz
      exact ⟨u0, u1, a1, a3, a2, a4⟩, fun h => absurd h (by omega)⟩
    have hg := hG no (9) (uL [0, y, (-1 : Int32), 0, 0, 0, 0, 0, 0, x, z, 0, 0, 0]) hno hlt hw9
    rw [hzV]
    exact Or.inl ⟨hc, hzv, hg.1, hg.2⟩
  · rw [hzV]
    exact Or.inr ⟨hc, hzv, h, fun _ _ => rfl⟩
set_option maxHeartbeats 4000000 in
theorem f_order {zl : Launch} {D : va_G} {cI cN cR : ClassId} {base : Nat} {O : Nat → Prop} {V : gv_V} {ob : Nat} {T : List Tr} {E : Nat → Ex} {ne : Nat} {qk : Nat → Nat} {nv : Nat → Nat → Int32} {nn : Nat} {L0 : List Row} {tc : Nat} {y w : Int32} {bx : Bool} (h : FC cI cN cR O V ob T E ne qk nv nn L0 tc) : ct zl D [(cI, .int), (cN, .object "AlgebraTree$Node"), (cR, .object "AlgebraTree$Rows")] base yX6_order cX6_order 5 (some .int) 3 1 14 [.ref ob, .int y, .int w, .int (bI bx)] V (mkP cI cN cR O V ob T E ne qk nv nn L0 tc ((!decide (nn = 30) && blw y (nI nn)) && blw w (nI ne)) (10) (uL [0, y, (-1 : Int32), 0, 0, 0, w, 0, 0, 0, 0, (bI bx), 0, 0])) := by
  obtain ⟨mo, tr, xe, nd, td, nl, ak, af, as, ap, av, nf, h_ob, fnd, fnl, fxe, hnn, hne30, hG⟩ := FC.nd h
  refine ct_mono (c_X6_order (mo := mo) h_ob fnd fnl fxe hnn bI_nar bI_fit) (fun zv zV zh => ?_)
  rcases zh with ⟨hc, no, hno, hzv, hzV⟩ | ⟨hc, hzv, hzV⟩
  · have hc2 := hc
    simp only [Bool.and_eq_true, Bool.not_eq_true', decide_eq_false_iff_not, Bool.or_eq_true, beq_iff_eq] at hc2
    obtain ⟨⟨h3, hy⟩, hw⟩ := hc2
    have hlt : nn < 30 := by omega
    have hw9 : NW ne nn (10) (uL [0, y, (-1 : Int32), 0, 0, 0, w, 0, 0, 0, 0, (bI bx), 0, 0]) := ⟨(by omega), fun h => absurd h (by omega), fun _ => (blw_nI (by omega) hy), fun h1 h2 => absurd h2 (by omega), fun _ => rfl, fun h => absurd h (by omega), fun _ => blw_nI (by omega) hw, fun h => absurd h (by omega), fun h => absurd h (by omega), fun h => absurd h (by omega)⟩
    have hg := hG no (10) (uL [0, y, (-1 : Int32), 0, 0, 0, w, 0, 0, 0, 0, (bI bx), 0, 0]) hno hlt hw9
    rw [hzV]
    exact Or.inl ⟨hc, hzv, hg.1, hg.2⟩
  · rw [hzV]
    exact Or.inr ⟨hc, hzv, h, fun _ _ => rfl⟩
set_option maxHeartbeats 4000000 in
theorem f_group {zl : Launch} {D : va_G} {cI cN cR : ClassId} {base : Nat} {O : Nat → Prop} {V : gv_V} {ob : Nat} {T : List Tr} {E : Nat → Ex} {ne : Nat} {qk : Nat → Nat} {nv : Nat → Nat → Int32} {nn : Nat} {L0 : List Row} {tc : Nat} {y x z w v : Int32} (h : FC cI cN cR O V ob T E ne qk nv nn L0 tc) : ct zl D [(cI, .int), (cN, .object "AlgebraTree$Node"), (cR, .object "AlgebraTree$Rows")] base yX6_group cX6_group 7 (some .int) 3 1 14 [.ref ob, .int y, .int x, .int z, .int w, .int v] V (mkP cI cN cR O V ob T E ne qk nv nn L0 tc ((!decide (nn = 30) && blw y (nI nn)) && blw x (nI 64) && blw z (nI 4) && blw w (nI ne) && blw v (nI 6) && !inS x v) (11) (uL [0, y, (-1 : Int32), 0, 0, 0, w, v, x, 0, 0, 0, z, 0])) := by
  obtain ⟨mo, tr, xe, nd, td, nl, ak, af, as, ap, av, nf, h_ob, fnd, fnl, fxe, hnn, hne30, hG⟩ := FC.nd h
  refine ct_mono (c_X6_group (mo := mo) h_ob fnd fnl fxe hnn) (fun zv zV zh => ?_)
  rcases zh with ⟨hc, no, hno, hzv, hzV⟩ | ⟨hc, hzv, hzV⟩
  · have hc2 := hc
    simp only [Bool.and_eq_true, Bool.not_eq_true', decide_eq_false_iff_not, Bool.or_eq_true, beq_iff_eq] at hc2
    obtain ⟨⟨⟨⟨⟨⟨h3, hy⟩, hx⟩, hz⟩, hw⟩, hv⟩, hi⟩ := hc2
    have hlt : nn < 30 := by omega
    have hw9 : NW ne nn (11) (uL [0, y, (-1 : Int32), 0, 0, 0, w, v, x, 0, 0, 0, z, 0]) := ⟨(by omega), fun h => absurd h (by omega), fun _ => (blw_nI (by omega) hy), fun h1 h2 => absurd h2 (by omega), fun _ => rfl, fun h => absurd h (by omega), fun _ => blw_nI (by omega) hw, fun _ => blw_nI (by omega) hv, fun h => absurd h (by omega), fun h => absurd h (by omega)⟩
    have hg := hG no (11) (uL [0, y, (-1 : Int32), 0, 0, 0, w, v, x, 0, 0, 0, z, 0]) hno hlt hw9
    rw [hzV]
    exact Or.inl ⟨hc, hzv, hg.1, hg.2⟩
  · rw [hzV]
    exact Or.inr ⟨hc, hzv, h, fun _ _ => rfl⟩
set_option maxHeartbeats 4000000 in
theorem f_graph {zl : Launch} {D : va_G} {cI cN cR : ClassId} {base : Nat} {O : Nat → Prop} {V : gv_V} {ob : Nat} {T : List Tr} {E : Nat → Ex} {ne : Nat} {qk : Nat → Nat} {nv : Nat → Nat → Int32} {nn : Nat} {L0 : List Row} {tc : Nat} {x y : Int32} (h : FC cI cN cR O V ob T E ne qk nv nn L0 tc) : ct zl D [(cI, .int), (cN, .object "AlgebraTree$Node"), (cR, .object "AlgebraTree$Rows")] base yX6_graph cX6_graph 4 (some .int) 3 1 14 [.ref ob, .int x, .int y] V (mkP cI cN cR O V ob T E ne qk nv nn L0 tc (blw x (nI 4) && (!decide (nn = 30) && blw y (nI nn))) (12) (uL [0, y, (-1 : Int32), 0, 0, 0, 0, 0, 0, 0, 0, 0, 0, x])) := by
  obtain ⟨mo, tr, xe, nd, td, nl, ak, af, as, ap, av, nf, h_ob, fnd, fnl, fxe, hnn, hne30, hG⟩ := FC.nd h
  refine ct_mono (c_X6_graph (mo := mo) h_ob fnd fnl hnn) (fun zv zV zh => ?_)
  rcases zh with ⟨hc, no, hno, hzv, hzV⟩ | ⟨hc, hzv, hzV⟩
  · have hc2 := hc
    simp only [Bool.and_eq_true, Bool.not_eq_true', decide_eq_false_iff_not, Bool.or_eq_true, beq_iff_eq] at hc2
    obtain ⟨hx, h3, hy⟩ := hc2
    have hlt : nn < 30 := by omega
    have hw9 : NW ne nn (12) (uL [0, y, (-1 : Int32), 0, 0, 0, 0, 0, 0, 0, 0, 0, 0, x]) := ⟨(by omega), fun h => absurd h (by omega), fun _ => (blw_nI (by omega) hy), fun h1 h2 => absurd h2 (by omega), fun _ => rfl, fun h => absurd h (by omega), fun h => absurd h (by omega), fun h => absurd h (by omega), fun h => absurd h (by omega), fun _ => blw_nI (by omega) hx⟩
    have hg := hG no (12) (uL [0, y, (-1 : Int32), 0, 0, 0, 0, 0, 0, 0, 0, 0, 0, x]) hno hlt hw9
    rw [hzV]
    exact Or.inl ⟨hc, hzv, hg.1, hg.2⟩
  · rw [hzV]
    exact Or.inr ⟨hc, hzv, h, fun _ _ => rfl⟩
set_option maxHeartbeats 4000000 in
theorem f_graphs {zl : Launch} {D : va_G} {cI cN cR : ClassId} {base : Nat} {O : Nat → Prop} {V : gv_V} {ob : Nat} {T : List Tr} {E : Nat → Ex} {ne : Nat} {qk : Nat → Nat} {nv : Nat → Nat → Int32} {nn : Nat} {L0 : List Row} {tc : Nat} {x y : Int32} (h : FC cI cN cR O V ob T E ne qk nv nn L0 tc) : ct zl D [(cI, .int), (cN, .object "AlgebraTree$Node"), (cR, .object "AlgebraTree$Rows")] base yX6_graphs cX6_graphs 4 (some .int) 3 1 14 [.ref ob, .int x, .int y] V (mkP cI cN cR O V ob T E ne qk nv nn L0 tc (blw x (nI 6) && (!decide (nn = 30) && blw y (nI nn))) (13) (uL [0, y, (-1 : Int32), 0, 0, 0, 0, x, 0, 0, 0, 0, 0, 0])) := by
  obtain ⟨mo, tr, xe, nd, td, nl, ak, af, as, ap, av, nf, h_ob, fnd, fnl, fxe, hnn, hne30, hG⟩ := FC.nd h
  refine ct_mono (c_X6_graphs (mo := mo) h_ob fnd fnl hnn) (fun zv zV zh => ?_)
  rcases zh with ⟨hc, no, hno, hzv, hzV⟩ | ⟨hc, hzv, hzV⟩
  · have hc2 := hc
    simp only [Bool.and_eq_true, Bool.not_eq_true', decide_eq_false_iff_not, Bool.or_eq_true, beq_iff_eq] at hc2
    obtain ⟨hx, h3, hy⟩ := hc2
    have hlt : nn < 30 := by omega
    have hw9 : NW ne nn (13) (uL [0, y, (-1 : Int32), 0, 0, 0, 0, x, 0, 0, 0, 0, 0, 0]) := ⟨(by omega), fun h => absurd h (by omega), fun _ => (blw_nI (by omega) hy), fun h1 h2 => absurd h2 (by omega), fun _ => rfl, fun h => absurd h (by omega), fun h => absurd h (by omega), fun _ => blw_nI (by omega) hx, fun h => absurd h (by omega), fun h => absurd h (by omega)⟩
    have hg := hG no (13) (uL [0, y, (-1 : Int32), 0, 0, 0, 0, x, 0, 0, 0, 0, 0, 0]) hno hlt hw9
    rw [hzV]
    exact Or.inl ⟨hc, hzv, hg.1, hg.2⟩
  · rw [hzV]
    exact Or.inr ⟨hc, hzv, h, fun _ _ => rfl⟩
set_option maxHeartbeats 4000000 in
theorem f_triple {zl : Launch} {D : va_G} {cI cN cR : ClassId} {base : Nat} {O : Nat → Prop} {V : gv_V} {ob : Nat} {T : List Tr} {E : Nat → Ex} {ne : Nat} {qk : Nat → Nat} {nv : Nat → Nat → Int32} {nn : Nat} {L0 : List Row} {tc : Nat} {x y z w : Int32} (h : FC cI cN cR O V ob T E ne qk nv nn L0 tc) : ct zl D [(cI, .int), (cN, .object "AlgebraTree$Node"), (cR, .object "AlgebraTree$Rows")] base yX6_triple cX6_triple 5 (some .int) 2 0 0 [.ref ob, .int x, .int y, .int z, .int w] V (fun zv zV => ((blw x (nI 4) && blw y (nI 1000) && blw z (nI 1000) && blw w (nI 1000) && !decide (T.length = 60) && !trIn T (x, y, z, w)) = true ∧ zv = some (.int (nI T.length)) ∧ FC cI cN cR O zV ob (T ++ [(x, y, z, w)]) E ne qk nv nn L0 tc ∧ ∀ a, ¬ O a → zV a = V a) ∨ ((blw x (nI 4) && blw y (nI 1000) && blw z (nI 1000) && blw w (nI 1000) && !decide (T.length = 60) && !trIn T (x, y, z, w)) = false ∧ zv = some (.int (-1 : Int32)) ∧ FC cI cN cR O zV ob T E ne qk nv nn L0 tc ∧ ∀ a, ¬ O a → zV a = V a)) := by
  obtain ⟨mo, tr, xe, nd, tb, wg, ky, pl, td, wf, pT, pC, pN, pL, pM, pF, h_ob, hnO, hCS, hTab, htc⟩ := h
  have hCS0 := hCS
  obtain ⟨tga, tsa, tpa, tqa, tg, ts, tp, tq, ak, af, as, ap, av, kd, fs, sc, pt, vl, nl, nf, tf, na, kf, pf, fmo, ftr, ftg, fts, ftp, ftq, fxe, fak, faf, fas, fap, fav, fnd, fnl, fwg, fky, fpl, ftb, hT, hdt, hX, hd6, hnn, hnd, hnw, hky, htf, hpo, htd, hnu, hfr, hmd, hO0, hOf, hOn, hOp⟩ := hCS
  refine ct_mono (c_X6_triple h_ob ftr ftg fts ftp ftq hT hdt) (fun zv zV zh => ?_)
  rcases zh with ⟨hc, rfl, rfl⟩ | ⟨hc, rfl, rfl⟩
  · have hlt : T.length < 60 := by
      have := hT.2.1
      simp only [Bool.and_eq_true, Bool.not_eq_true', decide_eq_false_iff_not] at hc
      omega
    obtain ⟨g1, g2⟩ := cs_tr (g0 := x) (s0 := y) (p0 := z) (o0 := w) fmo ftr ftg fts ftp ftq fxe fak faf fas fap fav fnd fnl fwg fky fpl ftb hT hdt hX hd6 hnn hnd hnw hky htf hpo htd hnu hfr hmd hO0 hOf hOn hOp hlt
    exact Or.inl ⟨hc, rfl, ⟨mo, tr, xe, nd, tb, wg, ky, pl, td, wf, pT, pC, pN, pL, pM, pF, (g2 ob hnO).trans h_ob, hnO, g1, hTab, htc⟩, g2⟩
  · exact Or.inr ⟨hc, rfl, ⟨mo, tr, xe, nd, tb, wg, ky, pl, td, wf, pT, pC, pN, pL, pM, pF, h_ob, hnO, hCS0, hTab, htc⟩, fun _ _ => rfl⟩
set_option maxHeartbeats 4000000 in
theorem f_leaf {zl : Launch} {D : va_G} {cI cN cR : ClassId} {base : Nat} {O : Nat → Prop} {V : gv_V} {ob : Nat} {T : List Tr} {E : Nat → Ex} {ne : Nat} {qk : Nat → Nat} {nv : Nat → Nat → Int32} {nn : Nat} {L0 : List Row} {tc : Nat} {x y : Int32} (h : FC cI cN cR O V ob T E ne qk nv nn L0 tc) : ct zl D [(cI, .int), (cN, .object "AlgebraTree$Node"), (cR, .object "AlgebraTree$Rows")] base yX6_leaf cX6_leaf 4 (some .int) 2 0 0 [.ref ob, .int x, .int y] V (fun zv zV => ((blw x (nI 3) && (if x = 0 then wtn y.toInt64 (1000000 : Int32) else blw y (nI 6)) && !decide (ne = 30)) = true ∧ zv = some (.int (nI ne)) ∧ FC cI cN cR O zV ob T (va_up E ne (9 + tn x, y, 0)) (ne + 1) qk nv nn L0 tc ∧ ∀ a, ¬ O a → zV a = V a) ∨ ((blw x (nI 3) && (if x = 0 then wtn y.toInt64 (1000000 : Int32) else blw y (nI 6)) && !decide (ne = 30)) = false ∧ zv = some (.int (-1 : Int32)) ∧ FC cI cN cR O zV ob T E ne qk nv nn L0 tc ∧ ∀ a, ¬ O a → zV a = V a)) := by
  obtain ⟨mo, tr, xe, nd, td, ak, af, as, ap, av, kd, fs, sc, pt, vl, h_ob, fxe, fak, faf, fas, fap, fav, hX, hd5, ⟨tdc, tdn, tdl, tdm, tdf, h_o, h_oc, hTab⟩, hG, hGv⟩ := FC.ex h
  have hne30 := hX.1
  refine ct_mono (c_X6_leaf h_ob fxe fak faf fas fap fav hX.1 hd5) (fun zv zV zh => ?_)
  rcases zh with ⟨hc, hzv, hzV⟩ | ⟨hc, hzv, hzV⟩
  · have hc2 := hc
    simp only [Bool.and_eq_true, Bool.not_eq_true', decide_eq_false_iff_not] at hc2
    obtain ⟨⟨hx, hy⟩, h3⟩ := hc2
    have hlt : ne < 30 := by omega
    have hx3 : tn x < 3 := blw_lt (by omega) hx
    have hX2 : ExR (va_up E ne (9 + tn x, y, 0)) (ne + 1) (upd kd ne (nI (9 + tn x))) (upd fs ne y) (upd sc ne (nI 0)) (upd pt ne (nI 0 ||| nI 1 <<< (nI ne &&& 31))) := hX.add hlt (by omega) (fun h => absurd h (by omega)) (fun _ => ⟨rfl, by
      by_cases h0 : x = 0
      · exact Or.inl (by rw [h0]; decide)
      · rw [if_neg h0] at hy
        exact Or.inr (blw_nI (by omega) hy)⟩)
    have hg := hG (9 + tn x) (y) (0) (nI 0) (nI 0) hlt hX2
    rw [hzV]
    exact Or.inl ⟨hc, hzv, hg.1, hg.2⟩
  · rw [hzV]; exact Or.inr ⟨hc, hzv, h, fun _ _ => rfl⟩
set_option maxHeartbeats 4000000 in
theorem f_apply {zl : Launch} {D : va_G} {cI cN cR : ClassId} {base : Nat} {O : Nat → Prop} {V : gv_V} {ob : Nat} {T : List Tr} {E : Nat → Ex} {ne : Nat} {qk : Nat → Nat} {nv : Nat → Nat → Int32} {nn : Nat} {L0 : List Row} {tc : Nat} {x y z : Int32} (h : FC cI cN cR O V ob T E ne qk nv nn L0 tc) : ct zl D [(cI, .int), (cN, .object "AlgebraTree$Node"), (cR, .object "AlgebraTree$Rows")] base yX6_apply cX6_apply 4 (some .int) 2 0 0 [.ref ob, .int x, .int y, .int z] V (fun zv zV => ((blw x (nI 9) && blw y (nI ne) && (x == 8 || blw z (nI ne)) && !decide (ne = 30)) = true ∧ zv = some (.int (nI ne)) ∧ FC cI cN cR O zV ob T (va_up E ne (tn x, y, z)) (ne + 1) qk nv nn L0 tc ∧ ∀ a, ¬ O a → zV a = V a) ∨ ((blw x (nI 9) && blw y (nI ne) && (x == 8 || blw z (nI ne)) && !decide (ne = 30)) = false ∧ zv = some (.int (-1 : Int32)) ∧ FC cI cN cR O zV ob T E ne qk nv nn L0 tc ∧ ∀ a, ¬ O a → zV a = V a)) := by
  obtain ⟨mo, tr, xe, nd, td, ak, af, as, ap, av, kd, fs, sc, pt, vl, h_ob, fxe, fak, faf, fas, fap, fav, hX, hd5, ⟨tdc, tdn, tdl, tdm, tdf, h_o, h_oc, hTab⟩, hG, hGv⟩ := FC.ex h
  have hne30 := hX.1
  by_cases hx8 : x = 8
  · refine ct_mono (c_apply8 h_ob fxe fak faf fas fap fav hX.1 hx8 hd5) (fun zv zV zh => ?_)
    rcases zh with ⟨hc, hzv, hzV⟩ | ⟨hc, hzv, hzV⟩
    · have hc2 := hc
      simp only [Bool.and_eq_true, Bool.not_eq_true', decide_eq_false_iff_not] at hc2
      obtain ⟨⟨⟨hx, hy⟩, hz⟩, h3⟩ := hc2
      have hlt : ne < 30 := by omega
      obtain ⟨i, hi, rfl⟩ := blw_nI (show ne < 2 ^ 31 by omega) hy
      have e8 : tn x = 8 := by rw [hx8]; rfl
      rw [e8]
      have hX2 : ExR (va_up E ne (8, nI i, z)) (ne + 1) (upd kd ne (nI 8)) (upd fs ne (nI i)) (upd sc ne (nI i)) (upd pt ne ((pt i ||| pt i) ||| nI 1 <<< (nI ne &&& 31))) := hX.add hlt (by omega) (fun _ => ⟨i, i, hi, hi, rfl, rfl, rfl, rfl⟩) (fun h => absurd h (by omega))
      rw [tn_nI (show i < 2 ^ 31 by omega)] at hzV
      have hg := hG (8) (nI i) (z) (nI i) (pt i ||| pt i) hlt hX2
      rw [hzV]
      exact Or.inl ⟨hc, hzv, hg.1, hg.2⟩
    · rw [hzV]; exact Or.inr ⟨hc, hzv, h, fun _ _ => rfl⟩
  · refine ct_mono (c_apply h_ob fxe fak faf fas fap fav hX.1 hx8 hd5) (fun zv zV zh => ?_)
    rcases zh with ⟨hc, hzv, hzV⟩ | ⟨hc, hzv, hzV⟩
    · have hc2 := hc
      simp only [Bool.and_eq_true, Bool.not_eq_true', decide_eq_false_iff_not, Bool.or_eq_true, beq_iff_eq] at hc2
      obtain ⟨⟨⟨hx, hy⟩, hz⟩, h3⟩ := hc2
      have hlt : ne < 30 := by omega
      obtain ⟨i, hi, rfl⟩ := blw_nI (show ne < 2 ^ 31 by omega) hy
      obtain ⟨j, hj, rfl⟩ := blw_nI (show ne < 2 ^ 31 by omega) (hz.resolve_left hx8)
      obtain ⟨q, hq, rfl⟩ := blw_nI (by decide) hx
      have hq8 : ¬ q = 8 := fun e => hx8 (by rw [e]; rfl)
      rw [tn_nI (show q < 2 ^ 31 by omega), tn_nI (show i < 2 ^ 31 by omega), tn_nI (show j < 2 ^ 31 by omega)] at hzV
      rw [tn_nI (show q < 2 ^ 31 by omega)]
      have hX2 : ExR (va_up E ne (q, nI i, nI j)) (ne + 1) (upd kd ne (nI q)) (upd fs ne (nI i)) (upd sc ne (nI j)) (upd pt ne ((pt i ||| pt j) ||| nI 1 <<< (nI ne &&& 31))) := hX.add hlt (by omega) (fun _ => ⟨i, j, hi, hj, rfl, by rw [if_neg hq8], rfl, rfl⟩) (fun h => absurd h (by omega))
      have hg := hG (q) (nI i) (nI j) (nI j) (pt i ||| pt j) hlt hX2
      rw [hzV]
      exact Or.inl ⟨hc, hzv, hg.1, hg.2⟩
    · rw [hzV]; exact Or.inr ⟨hc, hzv, h, fun _ _ => rfl⟩
set_option maxHeartbeats 4000000 in
theorem f_value {zl : Launch} {D : va_G} {cI cN cR : ClassId} {base : Nat} {O : Nat → Prop} {V : gv_V} {ob : Nat} {T : List Tr} {E : Nat → Ex} {ne : Nat} {qk : Nat → Nat} {nv : Nat → Nat → Int32} {nn : Nat} {L0 : List Row} {tc : Nat} {x y : Int32} (h : FC cI cN cR O V ob T E ne qk nv nn L0 tc) : ct zl D [(cI, .int), (cN, .object "AlgebraTree$Node"), (cR, .object "AlgebraTree$Rows")] base yX6_value cX6_value 3 (some .int) 2 0 0 [.ref ob, .int x, .int y] V (fun zv zV => zv = some (.int (if (blw x (nI L0.length) && blw y (nI 6)) = true then rowAt L0 (tn x) (tn y) else oE)) ∧ FC cI cN cR O zV ob T E ne qk nv nn L0 tc ∧ ∀ a, ¬ O a → zV a = V a) := by
  obtain ⟨mo, tr, xe, nd, td, ak, af, as, ap, av, kd, fs, sc, pt, vl, h_ob, fxe, fak, faf, fas, fap, fav, hX, hd5, ⟨tdc, tdn, tdl, tdm, tdf, h_o, h_oc, hTab⟩, hG, hGv⟩ := FC.ex h
  refine ct_mono (c_X6_value h_ob h_o h_oc hTab.2.1) (fun zv zV zh => ?_)
  obtain ⟨rfl, rfl⟩ := zh
  refine ⟨?_, h, fun _ _ => rfl⟩
  rw [← hTab.1]
  cases hc : (blw x (nI tdn) && blw y (nI 6)) with
  | false => simp only [Bool.false_eq_true, if_false]
  | true =>
    simp only [Bool.and_eq_true] at hc
    have h80 := hTab.2.1
    simp only [if_pos]
    rw [hTab.2.2 (tn x) (blw_lt (by omega) hc.1) (tn y) (blw_lt (by omega) hc.2)]
set_option maxHeartbeats 4000000 in
theorem f_look {zl : Launch} {D : va_G} {cI cN cR : ClassId} {base : Nat} {O : Nat → Prop} {V : gv_V} {ob : Nat} {T : List Tr} {E : Nat → Ex} {ne : Nat} {qk : Nat → Nat} {nv : Nat → Nat → Int32} {nn : Nat} {L0 : List Row} {tc : Nat} {x y : Int32} (h : FC cI cN cR O V ob T E ne qk nv nn L0 tc) : ct zl D [(cI, .int), (cN, .object "AlgebraTree$Node"), (cR, .object "AlgebraTree$Rows")] base yX6_look cX6_look 3 (some .int) 3 0 0 [.ref ob, .int x, .int y] V (fun zv zV => zv = some (.int (if (blw x (nI L0.length) && blw y (nI ne)) = true then ev E (rowAt L0 (tn x)) (tn y) else oE)) ∧ FC cI cN cR O zV ob T E ne qk nv nn L0 tc ∧ ∀ a, ¬ O a → zV a = V a) := by
  obtain ⟨mo, tr, xe, nd, td, ak, af, as, ap, av, kd, fs, sc, pt, vl, h_ob, fxe, fak, faf, fas, fap, fav, hX, hd5, ⟨tdc, tdn, tdl, tdm, tdf, h_o, h_oc, hTab⟩, hG, hGv⟩ := FC.ex h
  have hne30 := hX.1
  refine ct_mono (c_X6_look h_ob h_o h_oc fxe fak faf fas fap fav hTab.2.1 hX hd5) (fun zv zV zh => ?_)
  obtain ⟨vl1, rfl, rfl⟩ := zh
  refine ⟨?_, (hGv vl1).1, (hGv vl1).2⟩
  rw [← hTab.1]
  cases hc : (blw x (nI tdn) && blw y (nI ne)) with
  | false => simp only [Bool.false_eq_true, if_false]
  | true =>
    simp only [Bool.and_eq_true] at hc
    have h80 := hTab.2.1
    simp only [if_pos]
    rw [ev_c hX (hTab.2.2 (tn x) (blw_lt (by omega) hc.1)) _ _ (Nat.lt_succ_self _) (blw_lt (by omega) hc.2)]
set_option maxHeartbeats 4000000 in
theorem f_many {zl : Launch} {D : va_G} {cI cN cR : ClassId} {base : Nat} {O : Nat → Prop} {V : gv_V} {ob : Nat} {T : List Tr} {E : Nat → Ex} {ne : Nat} {qk : Nat → Nat} {nv : Nat → Nat → Int32} {nn : Nat} {L0 : List Row} {tc : Nat} {x : Int32} (h : FC cI cN cR O V ob T E ne qk nv nn L0 tc) : ct zl D [(cI, .int), (cN, .object "AlgebraTree$Node"), (cR, .object "AlgebraTree$Rows")] base yX6_many cX6_many 2 (some .int) 3 0 0 [.ref ob, .int x] V (fun zv zV => zv = some (.int (if blw x (nI L0.length) = true then nI (cntR L0 (rowAt L0 (tn x))) else -1)) ∧ FC cI cN cR O zV ob T E ne qk nv nn L0 tc ∧ ∀ a, ¬ O a → zV a = V a) := by
  obtain ⟨mo, tr, xe, nd, td, ak, af, as, ap, av, kd, fs, sc, pt, vl, h_ob, fxe, fak, faf, fas, fap, fav, hX, hd5, ⟨tdc, tdn, tdl, tdm, tdf, h_o, h_oc, hTab⟩, hG, hGv⟩ := FC.ex h
  refine ct_mono (c_X6_many h_ob h_o h_oc hTab.2.1) (fun zv zV zh => ?_)
  obtain ⟨rfl, rfl⟩ := zh
  refine ⟨?_, h, fun _ _ => rfl⟩
  rw [← hTab.1]
  cases hc : blw x (nI tdn) with
  | false => simp only [Bool.false_eq_true, if_false]
  | true =>
    have h80 := hTab.2.1
    simp only [if_pos]
    rw [cntL_R hTab (hTab.2.2 (tn x) (blw_lt (by omega) hc))]
theorem Tab.cpy {M : List Row} {n : Nat} {f g : Nat → Int32} (h : Tab M n f) : Tab M n (va_cpy f g 0 0 (n * 6)) := by
  refine ⟨h.1, h.2.1, fun i hi v hv => ?_⟩
  rw [← h.2.2 i hi v hv]
  simp only [rwf]
  rw [pk_cpy_in (by omega) (by omega)]
  congr 1
  omega
def runP (cI cN cR : ClassId) (O : Nat → Prop) (V : gv_V) (ob : Nat) (T : List Tr) (E : Nat → Ex) (ne : Nat) (qk : Nat → Nat) (nv : Nat → Nat → Int32) (nn : Nat) (L0 : List Row) (tc : Nat) (S : Option (List Row)) : Option Value → gv_V → Prop := fun zv zV => (∀ a, ¬ O a → zV a = V a) ∧ ((S = none ∧ zv = some (.int (-2 : Int32)) ∧ FC cI cN cR O zV ob T E ne qk nv nn L0 tc) ∨ (∃ M, S = some M ∧ zv = some (.int (nI M.length)) ∧ FC cI cN cR O zV ob T E ne qk nv nn M tc))
set_option maxHeartbeats 4000000 in
theorem f_run {zl : Launch} {D : va_G} {cI cN cR : ClassId} {base : Nat} {O : Nat → Prop} {V : gv_V} {ob : Nat} {T : List Tr} {E : Nat → Ex} {ne : Nat} {qk : Nat → Nat} {nv : Nat → Nat → Int32} {nn : Nat} {L0 : List Row} {tc : Nat} {r : Nat} (h : FC cI cN cR O V ob T E ne qk nv nn L0 tc) (hr : r < nn) : ∃ d, tc + d ≤ 120 ∧ ct zl D [(cI, .int), (cN, .object "AlgebraTree$Node"), (cR, .object "AlgebraTree$Rows")] base yX6_run cX6_run 3 (some .int) 7 (2 * d) (490 * d) [.ref ob, .int (nI r)] V (runP cI cN cR O V ob T E ne qk nv nn L0 (tc + d) (sem T E qk nv r 0)) := by
  obtain ⟨mo, tr, xe, nd, tb, wg, ky, pl, td, wf, pT, pC, pN, pL, pM, pF, h_ob, hnO, hCS, hTab, htc⟩ := h
  have hnn := (CS.nw hCS).1
  refine ⟨cw (wnt qk nv r wf) pT ((r + 1) * 4), ?_, ct_mono (c_run h_ob hCS hnO hr) (fun zv zV zh => ?_)⟩
  · rw [← htc]
    have h1 : cw (wnt qk nv r wf) pT ((r + 1) * 4) ≤ cw (wnt qk nv r wf) pT 120 := cnt_mono (by omega)
    have h2 := cnt_add (Q := fun p => (pT p).isSome) (R := fun p => wbt (wnt qk nv r wf) (p / 4) (p % 4) && (pT p).isNone) (S := fun _ => false) (n := 120) (fun p hp => ⟨fun hq => ⟨by cases hz : pT p <;> simp_all, rfl⟩, fun _ => rfl⟩)
    unfold cw at h1
    unfold cw
    omega
  · obtain ⟨qT, qC, qN, qL, qM, qF, W, hcs, hfm, hS, ⟨e1, e2, e3, e4⟩, hct, hz⟩ := zh
    rcases hz with ⟨hl, rfl, rfl⟩ | ⟨hl, rfl, rfl⟩
    · refine ⟨hfm, Or.inl ⟨?_, rfl, ⟨mo, tr, xe, nd, tb, wg, ky, pl, td, _, qT, qC, qN, qL, qM, qF, (hfm ob hnO).trans h_ob, hnO, hcs, by rw [e2, e4]; exact hTab, by rw [hct, htc]⟩⟩⟩
      cases hs : sem T E qk nv r 0 with
      | none => rfl
      | some M => rw [hs] at hS; exact absurd hS.1 hl
    · obtain ⟨g1, g2⟩ := cs_td (n1 := qN (r * 4)) (f1 := va_cpy (qF (r * 4)) (qF 120) 0 0 (qN (r * 4) * 6)) hcs
      refine ⟨fun a ha => (g2 a ha).trans (hfm a ha), Or.inr ?_⟩
      cases hs : sem T E qk nv r 0 with
      | none => rw [hs] at hS; exact absurd hl hS
      | some M =>
        rw [hs] at hS
        refine ⟨M, rfl, by rw [hS.2.1], ⟨mo, tr, xe, nd, tb, wg, ky, pl, td, _, qT, qC, va_up qN 120 (qN (r * 4)), qL, qM, va_up qF 120 (va_cpy (qF (r * 4)) (qF 120) 0 0 (qN (r * 4) * 6)), (g2 ob hnO).trans ((hfm ob hnO).trans h_ob), hnO, g1, ?_, by rw [hct, htc]⟩⟩
        simp only [va_up, if_pos]
        exact hS.2.cpy
theorem f_runN {zl : Launch} {D : va_G} {cI cN cR : ClassId} {base : Nat} {O : Nat → Prop} {V : gv_V} {ob : Nat} {T : List Tr} {E : Nat → Ex} {ne : Nat} {qk : Nat → Nat} {nv : Nat → Nat → Int32} {nn : Nat} {L0 : List Row} {tc : Nat} {x : Int32} (h : FC cI cN cR O V ob T E ne qk nv nn L0 tc) (hb : blw x (nI nn) = false) : ct zl D [(cI, .int), (cN, .object "AlgebraTree$Node"), (cR, .object "AlgebraTree$Rows")] base yX6_run cX6_run 3 (some .int) 7 0 0 [.ref ob, .int x] V (fun zv zV => zv = some (.int (-1 : Int32)) ∧ FC cI cN cR O zV ob T E ne qk nv nn L0 tc ∧ ∀ a, ¬ O a → zV a = V a) := by
  obtain ⟨mo, tr, xe, nd, td, nl, ak, af, as, ap, av, nf, h_ob, fnd, fnl, fxe, hnn, hne30, hG⟩ := FC.nd h
  refine ct_mono (c_runN h_ob fnd hb) (fun zv zV zh => ?_)
  obtain ⟨rfl, rfl⟩ := zh
  exact ⟨rfl, h, fun _ _ => rfl⟩
set_option maxHeartbeats 4000000 in
theorem f_same {zl : Launch} {D : va_G} {cI cN cR : ClassId} {base : Nat} {O : Nat → Prop} {V : gv_V} {ob : Nat} {T : List Tr} {E : Nat → Ex} {ne : Nat} {qk : Nat → Nat} {nv : Nat → Nat → Int32} {nn : Nat} {L0 : List Row} {tc : Nat} {r r2 : Nat} (h : FC cI cN cR O V ob T E ne qk nv nn L0 tc) (hr : r < nn) (hr2 : r2 < nn) : ∃ d, tc + d ≤ 120 ∧ ct zl D [(cI, .int), (cN, .object "AlgebraTree$Node"), (cR, .object "AlgebraTree$Rows")] base yX6_same cX6_same 5 (some .boolean) 7 (2 * d) (490 * d) [.ref ob, .int (nI r), .int (nI r2)] V (fun zv zV => zv = some (.int (bI (sameS (sem T E qk nv r 0) (sem T E qk nv r2 0)))) ∧ FC cI cN cR O zV ob T E ne qk nv nn L0 (tc + d) ∧ ∀ a, ¬ O a → zV a = V a) := by
  obtain ⟨mo, tr, xe, nd, tb, wg, ky, pl, td, wf, pT, pC, pN, pL, pM, pF, h_ob, hnO, hCS, hTab, htc⟩ := h
  have hnn := (CS.nw hCS).1
  refine ⟨cw (wnt qk nv r wf) pT ((r + 1) * 4) + cw (wnt qk nv r2 (wnt qk nv r wf)) (fun p => if p < (r + 1) * 4 ∧ wbt (wnt qk nv r wf) (p / 4) (p % 4) = true then some 0 else pT p) ((r2 + 1) * 4), ?_, ?_⟩
  · rw [← htc]
    have h1 : cw (wnt qk nv r2 (wnt qk nv r wf)) (fun p => if p < (r + 1) * 4 ∧ wbt (wnt qk nv r wf) (p / 4) (p % 4) = true then some 0 else pT p) ((r2 + 1) * 4) ≤ cw (wnt qk nv r2 (wnt qk nv r wf)) (fun p => if p < (r + 1) * 4 ∧ wbt (wnt qk nv r wf) (p / 4) (p % 4) = true then some 0 else pT p) 120 := cnt_mono (by omega)
    have h0 : cw (wnt qk nv r wf) pT ((r + 1) * 4) = cnt (fun p => decide (p < (r + 1) * 4) && (wbt (wnt qk nv r wf) (p / 4) (p % 4) && (pT p).isNone)) 120 := cnt_dec (by omega)
    have h2 := cnt_add (Q := fun p => (pT p).isSome) (R := fun p => decide (p < (r + 1) * 4) && (wbt (wnt qk nv r wf) (p / 4) (p % 4) && (pT p).isNone)) (S := fun p => wbt (wnt qk nv r2 (wnt qk nv r wf)) (p / 4) (p % 4) && ((fun p => if p < (r + 1) * 4 ∧ wbt (wnt qk nv r wf) (p / 4) (p % 4) = true then some 0 else pT p) p).isNone) (n := 120) (fun p hp => by
      refine ⟨fun hq => ⟨by cases hz : pT p <;> simp_all, ?_⟩, fun hq => ?_⟩
      · by_cases hb : p < (r + 1) * 4 ∧ wbt (wnt qk nv r wf) (p / 4) (p % 4) = true
        · simp only [if_pos hb, Option.isNone_some, Bool.and_false]
        · simp only [if_neg hb]
          cases hz : pT p <;> simp_all
      · simp only [Bool.and_eq_true, decide_eq_true_eq] at hq
        simp only [if_pos (show p < (r + 1) * 4 ∧ wbt (wnt qk nv r wf) (p / 4) (p % 4) = true from ⟨hq.1, hq.2.1⟩), Option.isNone_some, Bool.and_false])
    rw [h0]
    unfold cw at h1
    unfold cw
    omega
  · rw [Nat.mul_add, Nat.mul_add]
    refine ct_mono (c_same h_ob hCS hnO hr hr2) (fun zv zV zh => ?_)
    obtain ⟨qT, qC, qN, qL, qM, qF, hcs, hfm, hS, hS2, ⟨e1, e2, e3, e4⟩, hct, rfl⟩ := zh
    refine ⟨by rw [same_S hS hS2], ⟨mo, tr, xe, nd, tb, wg, ky, pl, td, _, qT, qC, qN, qL, qM, qF, (hfm ob hnO).trans h_ob, hnO, hcs, by rw [e2, e4]; exact hTab, by rw [hct, htc]⟩, hfm⟩
theorem f_sameN {zl : Launch} {D : va_G} {cI cN cR : ClassId} {base : Nat} {O : Nat → Prop} {V : gv_V} {ob : Nat} {T : List Tr} {E : Nat → Ex} {ne : Nat} {qk : Nat → Nat} {nv : Nat → Nat → Int32} {nn : Nat} {L0 : List Row} {tc : Nat} {x y : Int32} (h : FC cI cN cR O V ob T E ne qk nv nn L0 tc) (hb : blw x (nI nn) = false ∨ blw y (nI nn) = false) : ct zl D [(cI, .int), (cN, .object "AlgebraTree$Node"), (cR, .object "AlgebraTree$Rows")] base yX6_same cX6_same 5 (some .boolean) 7 0 0 [.ref ob, .int x, .int y] V (fun zv zV => zv = some (.int (nI 0)) ∧ FC cI cN cR O zV ob T E ne qk nv nn L0 tc ∧ ∀ a, ¬ O a → zV a = V a) := by
  obtain ⟨mo, tr, xe, nd, td, nl, ak, af, as, ap, av, nf, h_ob, fnd, fnl, fxe, hnn, hne30, hG⟩ := FC.nd h
  refine ct_mono (c_sameN h_ob fnd hb) (fun zv zV zh => ?_)
  obtain ⟨rfl, rfl⟩ := zh
  exact ⟨rfl, h, fun _ _ => rfl⟩
