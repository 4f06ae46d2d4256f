theorem ns_0 {T : List Tr} {E : Nat → Ex} {q : Nat} {nv : Nat → Int32} {S : Nat → Nat → Option (List Row)} {g : Nat}  (hq : q = 0)  : nsem T E q nv S g = cap (patL T (nI g) (nv 3) (nv 4) (nv 5)) := by
  subst hq
  simp only [nsem, one1, two1]
  simp [True]

theorem ns_13 {T : List Tr} {E : Nat → Ex} {q : Nat} {nv : Nat → Int32} {S : Nat → Nat → Option (List Row)} {g a v : Nat}  (hq : q = 13) (ea : nv 1 = nI a) (ha : a < 2 ^ 31) (ev7 : nv 7 = nI v) (hv : v < 2 ^ 31) : nsem T E q nv S g = eachS (fun y => S a y) v := by
  subst hq
  simp only [nsem, one1, two1]
  simp [ea, tn_nI ha, ev7, tn_nI hv]

theorem ns_5 {T : List Tr} {E : Nat → Ex} {q : Nat} {nv : Nat → Int32} {S : Nat → Nat → Option (List Row)} {g a e : Nat}  (hq : q = 5) (ea : nv 1 = nI a) (ha : a < 2 ^ 31) (ee : nv 6 = nI e) (he : e < 2 ^ 31) : nsem T E q nv S g = (S a g).bind (fun A => cap (A.filter (fun x => isT (ev E x e)))) := by
  subst hq
  simp only [nsem, one1, two1]
  simp [ea, tn_nI ha, ee, tn_nI he]

theorem ns_6 {T : List Tr} {E : Nat → Ex} {q : Nat} {nv : Nat → Int32} {S : Nat → Nat → Option (List Row)} {g a e v : Nat}  (hq : q = 6) (ea : nv 1 = nI a) (ha : a < 2 ^ 31) (ee : nv 6 = nI e) (he : e < 2 ^ 31) (ev7 : nv 7 = nI v) (hv : v < 2 ^ 31) : nsem T E q nv S g = (S a g).bind (fun A => cap (A.map (fun x => extR v (ev E x e) x))) := by
  subst hq
  simp only [nsem, one1, two1]
  simp [ea, tn_nI ha, ee, tn_nI he, ev7, tn_nI hv]

theorem ns_7 {T : List Tr} {E : Nat → Ex} {q : Nat} {nv : Nat → Int32} {S : Nat → Nat → Option (List Row)} {g a : Nat}  (hq : q = 7) (ea : nv 1 = nI a) (ha : a < 2 ^ 31) : nsem T E q nv S g = (S a g).bind (fun A => cap (A.map (prj (nv 8)))) := by
  subst hq
  simp only [nsem, one1, two1]
  simp [ea, tn_nI ha]

theorem ns_8 {T : List Tr} {E : Nat → Ex} {q : Nat} {nv : Nat → Int32} {S : Nat → Nat → Option (List Row)} {g a : Nat}  (hq : q = 8) (ea : nv 1 = nI a) (ha : a < 2 ^ 31) : nsem T E q nv S g = (S a g).bind (fun A => cap (distL (nI 63) A)) := by
  subst hq
  simp only [nsem, one1, two1]
  simp [ea, tn_nI ha]

theorem ns_9 {T : List Tr} {E : Nat → Ex} {q : Nat} {nv : Nat → Int32} {S : Nat → Nat → Option (List Row)} {g a u0 u1 : Nat}  (hq : q = 9) (ea : nv 1 = nI a) (ha : a < 2 ^ 31) (e9 : nv 9 = nI u0) (h9 : u0 < 2 ^ 31) (e10 : nv 10 = nI u1) (h10 : u1 < 2 ^ 31) : nsem T E q nv S g = (S a g).bind (fun A => cap ((A.drop u0).take u1)) := by
  subst hq
  simp only [nsem, one1, two1]
  simp [ea, tn_nI ha, e9, e10, tn_nI h9, tn_nI h10]

theorem ns_10 {T : List Tr} {E : Nat → Ex} {q : Nat} {nv : Nat → Int32} {S : Nat → Nat → Option (List Row)} {g a e : Nat}  (hq : q = 10) (ea : nv 1 = nI a) (ha : a < 2 ^ 31) (ee : nv 6 = nI e) (he : e < 2 ^ 31) : nsem T E q nv S g = (S a g).bind (fun A => cap (orderL (nv 11) (fun x => ev E x e) A)) := by
  subst hq
  simp only [nsem, one1, two1]
  simp [ea, tn_nI ha, ee, tn_nI he]

theorem ns_11 {T : List Tr} {E : Nat → Ex} {q : Nat} {nv : Nat → Int32} {S : Nat → Nat → Option (List Row)} {g a e v : Nat}  (hq : q = 11) (ea : nv 1 = nI a) (ha : a < 2 ^ 31) (ee : nv 6 = nI e) (he : e < 2 ^ 31) (ev7 : nv 7 = nI v) (hv : v < 2 ^ 31) : nsem T E q nv S g = (S a g).bind (fun A => cap (groupL (nv 8) (nv 12) v (fun x => ev E x e) A)) := by
  subst hq
  simp only [nsem, one1, two1]
  simp [ea, tn_nI ha, ee, tn_nI he, ev7, tn_nI hv]

theorem ns_12 {T : List Tr} {E : Nat → Ex} {q : Nat} {nv : Nat → Int32} {S : Nat → Nat → Option (List Row)} {g a z : Nat}  (hq : q = 12) (ea : nv 1 = nI a) (ha : a < 2 ^ 31) (ez : nv 13 = nI z) (hz : z < 2 ^ 31) : nsem T E q nv S g = (S a z).bind (fun A => cap A) := by
  subst hq
  simp only [nsem, one1, two1]
  simp [ea, tn_nI ha, ez, tn_nI hz]

theorem ns_1 {T : List Tr} {E : Nat → Ex} {q : Nat} {nv : Nat → Int32} {S : Nat → Nat → Option (List Row)} {g a b : Nat}  (hq : q = 1) (ea : nv 1 = nI a) (ha : a < 2 ^ 31) (eb : nv 2 = nI b) (hb : b < 2 ^ 31) : nsem T E q nv S g = (S a g).bind (fun A => (S b g).bind (fun B => cap (joinL A B))) := by
  subst hq
  simp only [nsem, one1, two1]
  simp [ea, tn_nI ha, eb, tn_nI hb]

theorem ns_2 {T : List Tr} {E : Nat → Ex} {q : Nat} {nv : Nat → Int32} {S : Nat → Nat → Option (List Row)} {g a b : Nat}  (hq : q = 2) (ea : nv 1 = nI a) (ha : a < 2 ^ 31) (eb : nv 2 = nI b) (hb : b < 2 ^ 31) : nsem T E q nv S g = (S a g).bind (fun A => (S b g).bind (fun B => cap (A ++ B))) := by
  subst hq
  simp only [nsem, one1, two1]
  simp [ea, tn_nI ha, eb, tn_nI hb]

theorem ns_3 {T : List Tr} {E : Nat → Ex} {q : Nat} {nv : Nat → Int32} {S : Nat → Nat → Option (List Row)} {g a b : Nat}  (hq : q = 3) (ea : nv 1 = nI a) (ha : a < 2 ^ 31) (eb : nv 2 = nI b) (hb : b < 2 ^ 31) : nsem T E q nv S g = (S a g).bind (fun A => (S b g).bind (fun B => cap (minusL A B))) := by
  subst hq
  simp only [nsem, one1, two1]
  simp [ea, tn_nI ha, eb, tn_nI hb]

theorem lcnd_n {E : Nat → Ex} : lcnd E (-1) = fun _ => true := by funext x; simp [lcnd]
theorem lcnd_e {E : Nat → Ex} {e : Nat} (h : e < 2 ^ 31) : lcnd E (nI e) = fun x => isT (ev E x e) := by funext x; simp only [lcnd]; rw [if_neg (nI_n1 h), tn_nI h]

theorem ns_4N {T : List Tr} {E : Nat → Ex} {q : Nat} {nv : Nat → Int32} {S : Nat → Nat → Option (List Row)} {g a b : Nat}  (hq : q = 4) (ea : nv 1 = nI a) (ha : a < 2 ^ 31) (eb : nv 2 = nI b) (hb : b < 2 ^ 31) (ee : nv 6 = -1) : nsem T E q nv S g = (S a g).bind (fun A => (S b g).bind (fun B => cap (leftL (fun _ => true) A B))) := by
  subst hq
  simp only [nsem, one1, two1]
  simp [ea, tn_nI ha, eb, tn_nI hb, ee, lcnd_n]

theorem ns_4E {T : List Tr} {E : Nat → Ex} {q : Nat} {nv : Nat → Int32} {S : Nat → Nat → Option (List Row)} {g a b e : Nat}  (hq : q = 4) (ea : nv 1 = nI a) (ha : a < 2 ^ 31) (eb : nv 2 = nI b) (hb : b < 2 ^ 31) (ee : nv 6 = nI e) (he : e < 2 ^ 31) : nsem T E q nv S g = (S a g).bind (fun A => (S b g).bind (fun B => cap (leftL (fun x => isT (ev E x e)) A B))) := by
  subst hq
  simp only [nsem, one1, two1]
  simp [ea, tn_nI ha, eb, tn_nI hb, ee, lcnd_e he]

/-- the tables that a node needs -/
def nd2 (q : Nat) (nv : Nat → Int32) (g j z : Nat) : Prop := (q = 13 ∧ j = tn (nv 1) ∧ 1 ≤ z ∧ z < 4) ∨ (q = 12 ∧ j = tn (nv 1) ∧ z = tn (nv 13)) ∨ (1 ≤ q ∧ q ≤ 11 ∧ j = tn (nv 1) ∧ z = g) ∨ (1 ≤ q ∧ q ≤ 4 ∧ j = tn (nv 2) ∧ z = g)
def Rdy (nt : Nat) (qk : Nat → Nat) (nv : Nat → Nat → Int32) (pT : Nat → Option Nat) (pM : Nat → Int32) (i g : Nat) : Prop := ∀ j z, nd2 (qk i) (nv i) g j z → (∃ t, pT (j * 4 + z) = some t) ∧ pM (j * 4 + z) = nI nt
def nc (o : Option Nat) (k : Nat) : Nat := match o with
  | none => k
  | some _ => 0
theorem nd5 {a b c d e f : Nat} (h : [a, b, c, d, e, f].Nodup) : [a, b, c, d, e].Nodup := by
  have := (List.nodup_append (l₁ := [a, b, c, d, e]) (l₂ := [f])).mp h
  exact this.1

def RfP (cI cN cR : ClassId) (O : Nat → Prop) (V : gv_V) (mo tr xe nd tb wg ky pl td : Nat) (wf : Nat → Int32) (T : List Tr) (E : Nat → Ex) (ne : Nat) (qk : Nat → Nat) (nv : Nat → Nat → Int32) (nn : Nat) (pT : Nat → Option Nat) (pC pN : Nat → Nat) (pL pM : Nat → Int32) (pF : Nat → Nat → Int32) (P : Nat) : Option Value → gv_V → Prop := fun zv zV => zv = none ∧ ∃ (pT2 : Nat → Option Nat) (pC2 pN2 : Nat → Nat) (pL2 pM2 : Nat → Int32) (pF2 : Nat → Nat → Int32), CS cI cN cR O zV mo tr xe nd tb wg ky pl td wf T E ne qk nv nn pT2 pC2 pN2 pL2 pM2 pF2 ∧ (∀ q, ¬ O q → zV q = V q) ∧ (∃ t, pT2 P = some t) ∧ pM2 P = nI T.length ∧ (∀ t, pT P = some t → pT2 P = some t) ∧ ∀ p, p < 121 → ¬ p = P → pT2 p = pT p ∧ pC2 p = pC p ∧ pN2 p = pN p ∧ pL2 p = pL p ∧ pM2 p = pM p ∧ pF2 p = pF p

set_option maxHeartbeats 8000000 in
set_option maxRecDepth 100000 in
theorem c_refAll {zl : Launch} {D : va_G} {cI cN cR : ClassId} {base : Nat} {O : Nat → Prop} {V : gv_V} {mo tr xe nd tb wg ky pl td : Nat} {wf : Nat → Int32} {T : List Tr} {E : Nat → Ex} {ne : Nat} {qk : Nat → Nat} {nv : Nat → Nat → Int32} {nn : Nat} {pT : Nat → Option Nat} {pC pN : Nat → Nat} {pL pM : Nat → Int32} {pF : Nat → Nat → Int32} {i g : Nat} (hCS : CS cI cN cR O V mo tr xe nd tb wg ky pl td wf T E ne qk nv nn pT pC pN pL pM pF) (hi : i < nn) (hg : g < 4) (hrd : Rdy T.length qk nv pT pM i g) : ct zl D [(cI, .int), (cN, .object "AlgebraTree$Node"), (cR, .object "AlgebraTree$Rows")] base yX1_refresh cX1_refresh 6 none 5 (nc (pT (i * 4 + g)) 2) (nc (pT (i * 4 + g)) 490) [.ref mo, .int (nI i), .int (nI g)] V (RfP cI cN cR O V mo tr xe nd tb wg ky pl td wf T E ne qk nv nn pT pC pN pL pM pF (i * 4 + g)) := by
  have hCS0 := hCS
  obtain ⟨tga, tsa, tpa, tqa, tg, ts, tp, tq, ak, af, as, ap, av, kd, fs, sc, pt, vl, nl, nf, tf, na, kf, pf, fmo, ftr, ftg, fts, ftp, ftq, fxe, fak, faf, fas, fap, fav, fnd, fnl, fwg, fky, fpl, ftb, hT, hdt, hX, hd6, hnn, hnd, hnw, hky, htf, hpo, htd, hnu, hfr, hmd, hO0, hOf, hOn, hOp⟩ := hCS
  obtain ⟨hnfi, hvi⟩ := hnd i hi
  have hne30 := hX.1
  cases hpt : pT (i * 4 + g) with
  | none =>
    show ct zl D _ base yX1_refresh cX1_refresh 6 none 5 2 490 _ V _
    have hq13 := (hnw i hi).1
    rcases (show qk i = 0 ∨ qk i = 1 ∨ qk i = 2 ∨ qk i = 3 ∨ qk i = 4 ∨ qk i = 5 ∨ qk i = 6 ∨ qk i = 7 ∨ qk i = 8 ∨ qk i = 9 ∨ qk i = 10 ∨ qk i = 11 ∨ qk i = 12 ∨ qk i = 13 by omega) with hqi | hqi | hqi | hqi | hqi | hqi | hqi | hqi | hqi | hqi | hqi | hqi | hqi | hqi
    · skip
      obtain ⟨ea, eb, hps, hpp, hpo9⟩ := (hnw i hi).2.1 hqi
      have hno := hvi
      rw [hqi, ea, eb] at hno
      refine ct_mono (c_ref0N  fmo ftr ftg fts ftp ftq fnd fnl hno fxe fak faf fas fap fav fky fpl ftb hX (nd5 hd6) (by omega) hg hnfi hky hT.2.1 ((htf _ (by omega)).trans hpt) hT hps hpp hpo9) (fun zv zV zh => ?_)
      obtain ⟨t, q, vl1, kf1, pf1, n1, tl1, f1, rfl, rfl, ht1, hq, htq, hS⟩ := zh
      have hS2 : TRep (sem T E qk nv i g) n1 tl1 f1 := by rw [sem_eq (hnw i hi) (by omega), ns_0 hqi]; exact hS
      obtain ⟨r1, r2⟩ := cs_new fmo ftr ftg fts ftp ftq fxe fak faf fas fap fav fnd fnl fwg fky fpl ftb hT hdt hX hd6 hnn hnd hnw hky htf hpo htd hnu hfr hmd hO0 hOf hOn hOp hi hg rfl ht1 hq htq hpt hS2
      exact ⟨rfl, _, _, _, _, _, _, r1, r2, ⟨t, by simp [va_up]⟩, by simp [va_up], fun t9 h9 => (by rw [hpt] at h9; cases h9), fun p _ hne => by simp [va_up, hne]⟩
    · skip
      obtain ⟨a0, ha0, ea⟩ := (hnw i hi).2.2.1 (by omega)
      obtain ⟨b0, hb0, eb⟩ := (hnw i hi).2.2.2.1 (by omega) (by omega)
      have hno := hvi
      rw [hqi, ea, eb] at hno
      obtain ⟨⟨a, hpa⟩, hma⟩ := hrd a0 g (Or.inr (Or.inr (Or.inl ⟨by omega, by omega, by rw [ea, tn_nI (by omega)], rfl⟩)))
      obtain ⟨h_a, h_c, hdisa⟩ := hpo (a0 * 4 + g) a (by omega) hpa
      have hSa := hfr a0 g a (by omega) (by omega) hpa hma
      obtain ⟨⟨b, hpb⟩, hmb⟩ := hrd b0 g (Or.inr (Or.inr (Or.inr ⟨by omega, by omega, by rw [eb, tn_nI (by omega)], rfl⟩)))
      obtain ⟨h_b, h_c2, hdisb⟩ := hpo (b0 * 4 + g) b (by omega) hpb
      have hSb := hfr b0 g b (by omega) (by omega) hpb hmb
      refine ct_mono (c_ref1N  fmo ftr ftg fts ftp ftq fnd fnl hno fxe fak faf fas fap fav fky fpl ftb h_a h_c h_b h_c2 hX (nd5 hd6) (by omega) hg hnfi hky hT.2.1 ((htf _ (by omega)).trans hpt) ha0 ((htf _ (by omega)).trans hpa) hSa hb0 ((htf _ (by omega)).trans hpb) hSb) (fun zv zV zh => ?_)
      obtain ⟨t, q, vl1, kf1, pf1, n1, tl1, f1, rfl, rfl, ht1, hq, htq, hS⟩ := zh
      have hS2 : TRep (sem T E qk nv i g) n1 tl1 f1 := by rw [sem_eq (hnw i hi) (by omega), ns_1 hqi ea (by omega) eb (by omega)]; exact hS
      obtain ⟨r1, r2⟩ := cs_new fmo ftr ftg fts ftp ftq fxe fak faf fas fap fav fnd fnl fwg fky fpl ftb hT hdt hX hd6 hnn hnd hnw hky htf hpo htd hnu hfr hmd hO0 hOf hOn hOp hi hg rfl ht1 hq htq hpt hS2
      exact ⟨rfl, _, _, _, _, _, _, r1, r2, ⟨t, by simp [va_up]⟩, by simp [va_up], fun t9 h9 => (by rw [hpt] at h9; cases h9), fun p _ hne => by simp [va_up, hne]⟩
    · skip
      obtain ⟨a0, ha0, ea⟩ := (hnw i hi).2.2.1 (by omega)
      obtain ⟨b0, hb0, eb⟩ := (hnw i hi).2.2.2.1 (by omega) (by omega)
      have hno := hvi
      rw [hqi, ea, eb] at hno
      obtain ⟨⟨a, hpa⟩, hma⟩ := hrd a0 g (Or.inr (Or.inr (Or.inl ⟨by omega, by omega, by rw [ea, tn_nI (by omega)], rfl⟩)))
      obtain ⟨h_a, h_c, hdisa⟩ := hpo (a0 * 4 + g) a (by omega) hpa
      have hSa := hfr a0 g a (by omega) (by omega) hpa hma
      obtain ⟨⟨b, hpb⟩, hmb⟩ := hrd b0 g (Or.inr (Or.inr (Or.inr ⟨by omega, by omega, by rw [eb, tn_nI (by omega)], rfl⟩)))
      obtain ⟨h_b, h_c2, hdisb⟩ := hpo (b0 * 4 + g) b (by omega) hpb
      have hSb := hfr b0 g b (by omega) (by omega) hpb hmb
      refine ct_mono (c_ref2N  fmo ftr ftg fts ftp ftq fnd fnl hno fxe fak faf fas fap fav fky fpl ftb h_a h_c h_b h_c2 hX (nd5 hd6) (by omega) hg hnfi hky hT.2.1 ((htf _ (by omega)).trans hpt) ha0 ((htf _ (by omega)).trans hpa) hSa hb0 ((htf _ (by omega)).trans hpb) hSb) (fun zv zV zh => ?_)
      obtain ⟨t, q, vl1, kf1, pf1, n1, tl1, f1, rfl, rfl, ht1, hq, htq, hS⟩ := zh
      have hS2 : TRep (sem T E qk nv i g) n1 tl1 f1 := by rw [sem_eq (hnw i hi) (by omega), ns_2 hqi ea (by omega) eb (by omega)]; exact hS
      obtain ⟨r1, r2⟩ := cs_new fmo ftr ftg fts ftp ftq fxe fak faf fas fap fav fnd fnl fwg fky fpl ftb hT hdt hX hd6 hnn hnd hnw hky htf hpo htd hnu hfr hmd hO0 hOf hOn hOp hi hg rfl ht1 hq htq hpt hS2
      exact ⟨rfl, _, _, _, _, _, _, r1, r2, ⟨t, by simp [va_up]⟩, by simp [va_up], fun t9 h9 => (by rw [hpt] at h9; cases h9), fun p _ hne => by simp [va_up, hne]⟩
    · skip
      obtain ⟨a0, ha0, ea⟩ := (hnw i hi).2.2.1 (by omega)
      obtain ⟨b0, hb0, eb⟩ := (hnw i hi).2.2.2.1 (by omega) (by omega)
      have hno := hvi
      rw [hqi, ea, eb] at hno
      obtain ⟨⟨a, hpa⟩, hma⟩ := hrd a0 g (Or.inr (Or.inr (Or.inl ⟨by omega, by omega, by rw [ea, tn_nI (by omega)], rfl⟩)))
      obtain ⟨h_a, h_c, hdisa⟩ := hpo (a0 * 4 + g) a (by omega) hpa
      have hSa := hfr a0 g a (by omega) (by omega) hpa hma
      obtain ⟨⟨b, hpb⟩, hmb⟩ := hrd b0 g (Or.inr (Or.inr (Or.inr ⟨by omega, by omega, by rw [eb, tn_nI (by omega)], rfl⟩)))
      obtain ⟨h_b, h_c2, hdisb⟩ := hpo (b0 * 4 + g) b (by omega) hpb
      have hSb := hfr b0 g b (by omega) (by omega) hpb hmb
      refine ct_mono (c_ref3N  fmo ftr ftg fts ftp ftq fnd fnl hno fxe fak faf fas fap fav fky fpl ftb h_a h_c h_b h_c2 hX (nd5 hd6) (by omega) hg hnfi hky hT.2.1 ((htf _ (by omega)).trans hpt) ha0 ((htf _ (by omega)).trans hpa) hSa hb0 ((htf _ (by omega)).trans hpb) hSb) (fun zv zV zh => ?_)
      obtain ⟨t, q, vl1, kf1, pf1, n1, tl1, f1, rfl, rfl, ht1, hq, htq, hS⟩ := zh
      have hS2 : TRep (sem T E qk nv i g) n1 tl1 f1 := by rw [sem_eq (hnw i hi) (by omega), ns_3 hqi ea (by omega) eb (by omega)]; exact hS
      obtain ⟨r1, r2⟩ := cs_new fmo ftr ftg fts ftp ftq fxe fak faf fas fap fav fnd fnl fwg fky fpl ftb hT hdt hX hd6 hnn hnd hnw hky htf hpo htd hnu hfr hmd hO0 hOf hOn hOp hi hg rfl ht1 hq htq hpt hS2
      exact ⟨rfl, _, _, _, _, _, _, r1, r2, ⟨t, by simp [va_up]⟩, by simp [va_up], fun t9 h9 => (by rw [hpt] at h9; cases h9), fun p _ hne => by simp [va_up, hne]⟩
    · rcases (hnw i hi).2.2.2.2.2.1 hqi with ee | ⟨e, he, ee⟩
      · skip
        obtain ⟨a0, ha0, ea⟩ := (hnw i hi).2.2.1 (by omega)
        obtain ⟨b0, hb0, eb⟩ := (hnw i hi).2.2.2.1 (by omega) (by omega)
        have hno := hvi
        rw [hqi, ea, eb, ee] at hno
        obtain ⟨⟨a, hpa⟩, hma⟩ := hrd a0 g (Or.inr (Or.inr (Or.inl ⟨by omega, by omega, by rw [ea, tn_nI (by omega)], rfl⟩)))
        obtain ⟨h_a, h_c, hdisa⟩ := hpo (a0 * 4 + g) a (by omega) hpa
        have hSa := hfr a0 g a (by omega) (by omega) hpa hma
        obtain ⟨⟨b, hpb⟩, hmb⟩ := hrd b0 g (Or.inr (Or.inr (Or.inr ⟨by omega, by omega, by rw [eb, tn_nI (by omega)], rfl⟩)))
        obtain ⟨h_b, h_c2, hdisb⟩ := hpo (b0 * 4 + g) b (by omega) hpb
        have hSb := hfr b0 g b (by omega) (by omega) hpb hmb
        refine ct_mono (c_ref4NN  fmo ftr ftg fts ftp ftq fnd fnl hno fxe fak faf fas fap fav fky fpl ftb h_a h_c h_b h_c2 hX (nd5 hd6) (by omega) hg hnfi hky hT.2.1 ((htf _ (by omega)).trans hpt) ha0 ((htf _ (by omega)).trans hpa) hSa hb0 ((htf _ (by omega)).trans hpb) hSb) (fun zv zV zh => ?_)
        obtain ⟨t, q, vl1, kf1, pf1, n1, tl1, f1, rfl, rfl, ht1, hq, htq, hS⟩ := zh
        have hS2 : TRep (sem T E qk nv i g) n1 tl1 f1 := by rw [sem_eq (hnw i hi) (by omega), ns_4N hqi ea (by omega) eb (by omega) ee]; exact hS
        obtain ⟨r1, r2⟩ := cs_new fmo ftr ftg fts ftp ftq fxe fak faf fas fap fav fnd fnl fwg fky fpl ftb hT hdt hX hd6 hnn hnd hnw hky htf hpo htd hnu hfr hmd hO0 hOf hOn hOp hi hg rfl ht1 hq htq hpt hS2
        exact ⟨rfl, _, _, _, _, _, _, r1, r2, ⟨t, by simp [va_up]⟩, by simp [va_up], fun t9 h9 => (by rw [hpt] at h9; cases h9), fun p _ hne => by simp [va_up, hne]⟩
      · skip
        obtain ⟨a0, ha0, ea⟩ := (hnw i hi).2.2.1 (by omega)
        obtain ⟨b0, hb0, eb⟩ := (hnw i hi).2.2.2.1 (by omega) (by omega)
        have hno := hvi
        rw [hqi, ea, eb, ee] at hno
        obtain ⟨⟨a, hpa⟩, hma⟩ := hrd a0 g (Or.inr (Or.inr (Or.inl ⟨by omega, by omega, by rw [ea, tn_nI (by omega)], rfl⟩)))
        obtain ⟨h_a, h_c, hdisa⟩ := hpo (a0 * 4 + g) a (by omega) hpa
        have hSa := hfr a0 g a (by omega) (by omega) hpa hma
        obtain ⟨⟨b, hpb⟩, hmb⟩ := hrd b0 g (Or.inr (Or.inr (Or.inr ⟨by omega, by omega, by rw [eb, tn_nI (by omega)], rfl⟩)))
        obtain ⟨h_b, h_c2, hdisb⟩ := hpo (b0 * 4 + g) b (by omega) hpb
        have hSb := hfr b0 g b (by omega) (by omega) hpb hmb
        refine ct_mono (c_ref4EN  fmo ftr ftg fts ftp ftq fnd fnl hno fxe fak faf fas fap fav fky fpl ftb h_a h_c h_b h_c2 hX (nd5 hd6) (by omega) hg hnfi hky hT.2.1 ((htf _ (by omega)).trans hpt) ha0 ((htf _ (by omega)).trans hpa) hSa hb0 ((htf _ (by omega)).trans hpb) hSb he) (fun zv zV zh => ?_)
        obtain ⟨t, q, vl1, kf1, pf1, n1, tl1, f1, rfl, rfl, ht1, hq, htq, hS⟩ := zh
        have hS2 : TRep (sem T E qk nv i g) n1 tl1 f1 := by rw [sem_eq (hnw i hi) (by omega), ns_4E hqi ea (by omega) eb (by omega) ee (by omega)]; exact hS
        obtain ⟨r1, r2⟩ := cs_new fmo ftr ftg fts ftp ftq fxe fak faf fas fap fav fnd fnl fwg fky fpl ftb hT hdt hX hd6 hnn hnd hnw hky htf hpo htd hnu hfr hmd hO0 hOf hOn hOp hi hg rfl ht1 hq htq hpt hS2
        exact ⟨rfl, _, _, _, _, _, _, r1, r2, ⟨t, by simp [va_up]⟩, by simp [va_up], fun t9 h9 => (by rw [hpt] at h9; cases h9), fun p _ hne => by simp [va_up, hne]⟩
    · skip
      obtain ⟨a0, ha0, ea⟩ := (hnw i hi).2.2.1 (by omega)
      have eb := (hnw i hi).2.2.2.2.1 (by omega)
      obtain ⟨e, he, ee⟩ := (hnw i hi).2.2.2.2.2.2.1 (by omega)
      have hno := hvi
      rw [hqi, ea, eb, ee] at hno
      obtain ⟨⟨a, hpa⟩, hma⟩ := hrd a0 g (Or.inr (Or.inr (Or.inl ⟨by omega, by omega, by rw [ea, tn_nI (by omega)], rfl⟩)))
      obtain ⟨h_a, h_c, hdisa⟩ := hpo (a0 * 4 + g) a (by omega) hpa
      have hSa := hfr a0 g a (by omega) (by omega) hpa hma
      refine ct_mono (c_ref5N  fmo ftr ftg fts ftp ftq fnd fnl hno fxe fak faf fas fap fav fky fpl ftb h_a h_c hX (nd5 hd6) (by omega) hg hnfi hky hT.2.1 ((htf _ (by omega)).trans hpt) ha0 ((htf _ (by omega)).trans hpa) hSa he) (fun zv zV zh => ?_)
      obtain ⟨t, q, vl1, kf1, pf1, n1, tl1, f1, rfl, rfl, ht1, hq, htq, hS⟩ := zh
      have hS2 : TRep (sem T E qk nv i g) n1 tl1 f1 := by rw [sem_eq (hnw i hi) (by omega), ns_5 hqi ea (by omega) ee (by omega)]; exact hS
      obtain ⟨r1, r2⟩ := cs_new fmo ftr ftg fts ftp ftq fxe fak faf fas fap fav fnd fnl fwg fky fpl ftb hT hdt hX hd6 hnn hnd hnw hky htf hpo htd hnu hfr hmd hO0 hOf hOn hOp hi hg rfl ht1 hq htq hpt hS2
      exact ⟨rfl, _, _, _, _, _, _, r1, r2, ⟨t, by simp [va_up]⟩, by simp [va_up], fun t9 h9 => (by rw [hpt] at h9; cases h9), fun p _ hne => by simp [va_up, hne]⟩
    · skip
      obtain ⟨a0, ha0, ea⟩ := (hnw i hi).2.2.1 (by omega)
      have eb := (hnw i hi).2.2.2.2.1 (by omega)
      obtain ⟨e, he, ee⟩ := (hnw i hi).2.2.2.2.2.2.1 (by omega)
      obtain ⟨vv, hvv, e7⟩ := (hnw i hi).2.2.2.2.2.2.2.1 (by omega)
      have hno := hvi
      rw [hqi, ea, eb, ee, e7] at hno
      obtain ⟨⟨a, hpa⟩, hma⟩ := hrd a0 g (Or.inr (Or.inr (Or.inl ⟨by omega, by omega, by rw [ea, tn_nI (by omega)], rfl⟩)))
      obtain ⟨h_a, h_c, hdisa⟩ := hpo (a0 * 4 + g) a (by omega) hpa
      have hSa := hfr a0 g a (by omega) (by omega) hpa hma
      refine ct_mono (c_ref6N  fmo ftr ftg fts ftp ftq fnd fnl hno fxe fak faf fas fap fav fky fpl ftb h_a h_c hX (nd5 hd6) (by omega) hg hnfi hky hT.2.1 ((htf _ (by omega)).trans hpt) ha0 ((htf _ (by omega)).trans hpa) hSa he hvv) (fun zv zV zh => ?_)
      obtain ⟨t, q, vl1, kf1, pf1, n1, tl1, f1, rfl, rfl, ht1, hq, htq, hS⟩ := zh
      have hS2 : TRep (sem T E qk nv i g) n1 tl1 f1 := by rw [sem_eq (hnw i hi) (by omega), ns_6 hqi ea (by omega) ee (by omega) e7 (by omega)]; exact hS
      obtain ⟨r1, r2⟩ := cs_new fmo ftr ftg fts ftp ftq fxe fak faf fas fap fav fnd fnl fwg fky fpl ftb hT hdt hX hd6 hnn hnd hnw hky htf hpo htd hnu hfr hmd hO0 hOf hOn hOp hi hg rfl ht1 hq htq hpt hS2
      exact ⟨rfl, _, _, _, _, _, _, r1, r2, ⟨t, by simp [va_up]⟩, by simp [va_up], fun t9 h9 => (by rw [hpt] at h9; cases h9), fun p _ hne => by simp [va_up, hne]⟩
    · skip
      obtain ⟨a0, ha0, ea⟩ := (hnw i hi).2.2.1 (by omega)
      have eb := (hnw i hi).2.2.2.2.1 (by omega)
      have hno := hvi
      rw [hqi, ea, eb] at hno
      obtain ⟨⟨a, hpa⟩, hma⟩ := hrd a0 g (Or.inr (Or.inr (Or.inl ⟨by omega, by omega, by rw [ea, tn_nI (by omega)], rfl⟩)))
      obtain ⟨h_a, h_c, hdisa⟩ := hpo (a0 * 4 + g) a (by omega) hpa
      have hSa := hfr a0 g a (by omega) (by omega) hpa hma
      refine ct_mono (c_ref7N  fmo ftr ftg fts ftp ftq fnd fnl hno fxe fak faf fas fap fav fky fpl ftb h_a h_c hX (nd5 hd6) (by omega) hg hnfi hky hT.2.1 ((htf _ (by omega)).trans hpt) ha0 ((htf _ (by omega)).trans hpa) hSa) (fun zv zV zh => ?_)
      obtain ⟨t, q, vl1, kf1, pf1, n1, tl1, f1, rfl, rfl, ht1, hq, htq, hS⟩ := zh
      have hS2 : TRep (sem T E qk nv i g) n1 tl1 f1 := by rw [sem_eq (hnw i hi) (by omega), ns_7 hqi ea (by omega)]; exact hS
      obtain ⟨r1, r2⟩ := cs_new fmo ftr ftg fts ftp ftq fxe fak faf fas fap fav fnd fnl fwg fky fpl ftb hT hdt hX hd6 hnn hnd hnw hky htf hpo htd hnu hfr hmd hO0 hOf hOn hOp hi hg rfl ht1 hq htq hpt hS2
      exact ⟨rfl, _, _, _, _, _, _, r1, r2, ⟨t, by simp [va_up]⟩, by simp [va_up], fun t9 h9 => (by rw [hpt] at h9; cases h9), fun p _ hne => by simp [va_up, hne]⟩
    · skip
      obtain ⟨a0, ha0, ea⟩ := (hnw i hi).2.2.1 (by omega)
      have eb := (hnw i hi).2.2.2.2.1 (by omega)
      have hno := hvi
      rw [hqi, ea, eb] at hno
      obtain ⟨⟨a, hpa⟩, hma⟩ := hrd a0 g (Or.inr (Or.inr (Or.inl ⟨by omega, by omega, by rw [ea, tn_nI (by omega)], rfl⟩)))
      obtain ⟨h_a, h_c, hdisa⟩ := hpo (a0 * 4 + g) a (by omega) hpa
      have hSa := hfr a0 g a (by omega) (by omega) hpa hma
      refine ct_mono (c_ref8N  fmo ftr ftg fts ftp ftq fnd fnl hno fxe fak faf fas fap fav fky fpl ftb h_a h_c hX (nd5 hd6) (by omega) hg hnfi hky hT.2.1 ((htf _ (by omega)).trans hpt) ha0 ((htf _ (by omega)).trans hpa) hSa) (fun zv zV zh => ?_)
      obtain ⟨t, q, vl1, kf1, pf1, n1, tl1, f1, rfl, rfl, ht1, hq, htq, hS⟩ := zh
      have hS2 : TRep (sem T E qk nv i g) n1 tl1 f1 := by rw [sem_eq (hnw i hi) (by omega), ns_8 hqi ea (by omega)]; exact hS
      obtain ⟨r1, r2⟩ := cs_new fmo ftr ftg fts ftp ftq fxe fak faf fas fap fav fnd fnl fwg fky fpl ftb hT hdt hX hd6 hnn hnd hnw hky htf hpo htd hnu hfr hmd hO0 hOf hOn hOp hi hg rfl ht1 hq htq hpt hS2
      exact ⟨rfl, _, _, _, _, _, _, r1, r2, ⟨t, by simp [va_up]⟩, by simp [va_up], fun t9 h9 => (by rw [hpt] at h9; cases h9), fun p _ hne => by simp [va_up, hne]⟩
    · skip
      obtain ⟨a0, ha0, ea⟩ := (hnw i hi).2.2.1 (by omega)
      have eb := (hnw i hi).2.2.2.2.1 (by omega)
      obtain ⟨u0, u1, hu0, hu1, e9, e10⟩ := (hnw i hi).2.2.2.2.2.2.2.2.1 hqi
      have hno := hvi
      rw [hqi, ea, eb, e9, e10] at hno
      obtain ⟨⟨a, hpa⟩, hma⟩ := hrd a0 g (Or.inr (Or.inr (Or.inl ⟨by omega, by omega, by rw [ea, tn_nI (by omega)], rfl⟩)))
      obtain ⟨h_a, h_c, hdisa⟩ := hpo (a0 * 4 + g) a (by omega) hpa
      have hSa := hfr a0 g a (by omega) (by omega) hpa hma
      refine ct_mono (c_ref9N  fmo ftr ftg fts ftp ftq fnd fnl hno fxe fak faf fas fap fav fky fpl ftb h_a h_c hX (nd5 hd6) (by omega) hg hnfi hky hT.2.1 ((htf _ (by omega)).trans hpt) ha0 ((htf _ (by omega)).trans hpa) hSa hu0 hu1) (fun zv zV zh => ?_)
      obtain ⟨t, q, vl1, kf1, pf1, n1, tl1, f1, rfl, rfl, ht1, hq, htq, hS⟩ := zh
      have hS2 : TRep (sem T E qk nv i g) n1 tl1 f1 := by rw [sem_eq (hnw i hi) (by omega), ns_9 hqi ea (by omega) e9 (by omega) e10 (by omega)]; exact hS
      obtain ⟨r1, r2⟩ := cs_new fmo ftr ftg fts ftp ftq fxe fak faf fas fap fav fnd fnl fwg fky fpl ftb hT hdt hX hd6 hnn hnd hnw hky htf hpo htd hnu hfr hmd hO0 hOf hOn hOp hi hg rfl ht1 hq htq hpt hS2
      exact ⟨rfl, _, _, _, _, _, _, r1, r2, ⟨t, by simp [va_up]⟩, by simp [va_up], fun t9 h9 => (by rw [hpt] at h9; cases h9), fun p _ hne => by simp [va_up, hne]⟩
    · skip
      obtain ⟨a0, ha0, ea⟩ := (hnw i hi).2.2.1 (by omega)
      have eb := (hnw i hi).2.2.2.2.1 (by omega)
      obtain ⟨e, he, ee⟩ := (hnw i hi).2.2.2.2.2.2.1 (by omega)
      have hno := hvi
      rw [hqi, ea, eb, ee] at hno
      obtain ⟨⟨a, hpa⟩, hma⟩ := hrd a0 g (Or.inr (Or.inr (Or.inl ⟨by omega, by omega, by rw [ea, tn_nI (by omega)], rfl⟩)))
      obtain ⟨h_a, h_c, hdisa⟩ := hpo (a0 * 4 + g) a (by omega) hpa
      have hSa := hfr a0 g a (by omega) (by omega) hpa hma
      refine ct_mono (c_ref10N  fmo ftr ftg fts ftp ftq fnd fnl hno fxe fak faf fas fap fav fky fpl ftb h_a h_c hX (nd5 hd6) (by omega) hg hnfi hky hT.2.1 ((htf _ (by omega)).trans hpt) ha0 ((htf _ (by omega)).trans hpa) hSa he) (fun zv zV zh => ?_)
      obtain ⟨t, q, vl1, kf1, pf1, n1, tl1, f1, rfl, rfl, ht1, hq, htq, hS⟩ := zh
      have hS2 : TRep (sem T E qk nv i g) n1 tl1 f1 := by rw [sem_eq (hnw i hi) (by omega), ns_10 hqi ea (by omega) ee (by omega)]; exact hS
      obtain ⟨r1, r2⟩ := cs_new fmo ftr ftg fts ftp ftq fxe fak faf fas fap fav fnd fnl fwg fky fpl ftb hT hdt hX hd6 hnn hnd hnw hky htf hpo htd hnu hfr hmd hO0 hOf hOn hOp hi hg rfl ht1 hq htq hpt hS2
      exact ⟨rfl, _, _, _, _, _, _, r1, r2, ⟨t, by simp [va_up]⟩, by simp [va_up], fun t9 h9 => (by rw [hpt] at h9; cases h9), fun p _ hne => by simp [va_up, hne]⟩
    · skip
      obtain ⟨a0, ha0, ea⟩ := (hnw i hi).2.2.1 (by omega)
      have eb := (hnw i hi).2.2.2.2.1 (by omega)
      obtain ⟨e, he, ee⟩ := (hnw i hi).2.2.2.2.2.2.1 (by omega)
      obtain ⟨vv, hvv, e7⟩ := (hnw i hi).2.2.2.2.2.2.2.1 (by omega)
      have hno := hvi
      rw [hqi, ea, eb, ee, e7] at hno
      obtain ⟨⟨a, hpa⟩, hma⟩ := hrd a0 g (Or.inr (Or.inr (Or.inl ⟨by omega, by omega, by rw [ea, tn_nI (by omega)], rfl⟩)))
      obtain ⟨h_a, h_c, hdisa⟩ := hpo (a0 * 4 + g) a (by omega) hpa
      have hSa := hfr a0 g a (by omega) (by omega) hpa hma
      refine ct_mono (c_ref11N  fmo ftr ftg fts ftp ftq fnd fnl hno fxe fak faf fas fap fav fky fpl ftb h_a h_c hX (nd5 hd6) (by omega) hg hnfi hky hT.2.1 ((htf _ (by omega)).trans hpt) ha0 ((htf _ (by omega)).trans hpa) hSa he hvv) (fun zv zV zh => ?_)
      obtain ⟨t, q, vl1, kf1, pf1, n1, tl1, f1, rfl, rfl, ht1, hq, htq, hS⟩ := zh
      have hS2 : TRep (sem T E qk nv i g) n1 tl1 f1 := by rw [sem_eq (hnw i hi) (by omega), ns_11 hqi ea (by omega) ee (by omega) e7 (by omega)]; exact hS
      obtain ⟨r1, r2⟩ := cs_new fmo ftr ftg fts ftp ftq fxe fak faf fas fap fav fnd fnl fwg fky fpl ftb hT hdt hX hd6 hnn hnd hnw hky htf hpo htd hnu hfr hmd hO0 hOf hOn hOp hi hg rfl ht1 hq htq hpt hS2
      exact ⟨rfl, _, _, _, _, _, _, r1, r2, ⟨t, by simp [va_up]⟩, by simp [va_up], fun t9 h9 => (by rw [hpt] at h9; cases h9), fun p _ hne => by simp [va_up, hne]⟩
    · skip
      obtain ⟨a0, ha0, ea⟩ := (hnw i hi).2.2.1 (by omega)
      have eb := (hnw i hi).2.2.2.2.1 (by omega)
      obtain ⟨gr0, hgr, e13⟩ := (hnw i hi).2.2.2.2.2.2.2.2.2 hqi
      have hno := hvi
      rw [hqi, ea, eb, e13] at hno
      obtain ⟨⟨a, hpa⟩, hma⟩ := hrd a0 gr0 (Or.inr (Or.inl ⟨hqi, by rw [ea, tn_nI (by omega)], by rw [e13, tn_nI (by omega)]⟩))
      obtain ⟨h_a, h_c, hdisa⟩ := hpo (a0 * 4 + gr0) a (by omega) hpa
      have hSa := hfr a0 gr0 a (by omega) (by omega) hpa hma
      refine ct_mono (c_ref12N  fmo ftr ftg fts ftp ftq fnd fnl hno fxe fak faf fas fap fav fky fpl ftb h_a h_c hX (nd5 hd6) (by omega) hg hnfi hky hT.2.1 ((htf _ (by omega)).trans hpt) ha0 ((htf _ (by omega)).trans hpa) hSa hgr) (fun zv zV zh => ?_)
      obtain ⟨t, q, vl1, kf1, pf1, n1, tl1, f1, rfl, rfl, ht1, hq, htq, hS⟩ := zh
      have hS2 : TRep (sem T E qk nv i g) n1 tl1 f1 := by rw [sem_eq (hnw i hi) (by omega), ns_12 hqi ea (by omega) e13 (by omega)]; exact hS
      obtain ⟨r1, r2⟩ := cs_new fmo ftr ftg fts ftp ftq fxe fak faf fas fap fav fnd fnl fwg fky fpl ftb hT hdt hX hd6 hnn hnd hnw hky htf hpo htd hnu hfr hmd hO0 hOf hOn hOp hi hg rfl ht1 hq htq hpt hS2
      exact ⟨rfl, _, _, _, _, _, _, r1, r2, ⟨t, by simp [va_up]⟩, by simp [va_up], fun t9 h9 => (by rw [hpt] at h9; cases h9), fun p _ hne => by simp [va_up, hne]⟩
    · skip
      obtain ⟨a0, ha0, ea⟩ := (hnw i hi).2.2.1 (by omega)
      have eb := (hnw i hi).2.2.2.2.1 (by omega)
      obtain ⟨vv, hvv, e7⟩ := (hnw i hi).2.2.2.2.2.2.2.1 (by omega)
      have hno := hvi
      rw [hqi, ea, eb, e7] at hno
      have hz1 : ∀ z, 1 ≤ z → z < 4 → (∃ t, pT (a0 * 4 + z) = some t) ∧ pM (a0 * 4 + z) = nI T.length := fun z h1 h2 => hrd a0 z (Or.inl ⟨hqi, by rw [ea, tn_nI (by omega)], h1, h2⟩)
      have hch9 : ∀ z, 1 ≤ z → z < 4 → tf (a0 * 4 + z) = some ((pT (a0 * 4 + z)).getD 0) ∧ V ((pT (a0 * 4 + z)).getD 0) = some (.inr (4, [.ref (pC (a0 * 4 + z)), .int (nI (pN (a0 * 4 + z))), .int (pL (a0 * 4 + z)), .int (pM (a0 * 4 + z))])) ∧ V (pC (a0 * 4 + z)) = some (.inl (cI, 486, .inl (pF (a0 * 4 + z)))) ∧ TRep (sem T E qk nv a0 z) (pN (a0 * 4 + z)) (pL (a0 * 4 + z)) (pF (a0 * 4 + z)) := fun z h1 h2 => by
        obtain ⟨⟨t, hpz⟩, hmz⟩ := hz1 z h1 h2
        obtain ⟨g1, g2, -⟩ := hpo (a0 * 4 + z) t (by omega) hpz
        rw [hpz]
        exact ⟨(htf _ (by omega)).trans hpz, g1, g2, hfr a0 z t (by omega) h2 hpz hmz⟩
      refine ct_mono (c_ref13N (tA := fun z => (pT (a0 * 4 + z)).getD 0) (cA := fun z => pC (a0 * 4 + z)) (nA := fun z => pN (a0 * 4 + z)) (tlA := fun z => pL (a0 * 4 + z)) (mkA := fun z => pM (a0 * 4 + z)) (fA := fun z => pF (a0 * 4 + z)) (SA := fun z => sem T E qk nv a0 z) fmo ftr ftg fts ftp ftq fnd fnl hno fxe fak faf fas fap fav fky fpl ftb hX (nd5 hd6) (by omega) hg hnfi hky hT.2.1 ((htf _ (by omega)).trans hpt) ha0 hch9 hvv) (fun zv zV zh => ?_)
      obtain ⟨t, q, vl1, kf1, pf1, n1, tl1, f1, rfl, rfl, ht1, hq, htq, hS⟩ := zh
      have hS2 : TRep (sem T E qk nv i g) n1 tl1 f1 := by rw [sem_eq (hnw i hi) (by omega), ns_13 hqi ea (by omega) e7 (by omega)]; exact hS
      obtain ⟨r1, r2⟩ := cs_new fmo ftr ftg fts ftp ftq fxe fak faf fas fap fav fnd fnl fwg fky fpl ftb hT hdt hX hd6 hnn hnd hnw hky htf hpo htd hnu hfr hmd hO0 hOf hOn hOp hi hg rfl ht1 hq htq hpt hS2
      exact ⟨rfl, _, _, _, _, _, _, r1, r2, ⟨t, by simp [va_up]⟩, by simp [va_up], fun t9 h9 => (by rw [hpt] at h9; cases h9), fun p _ hne => by simp [va_up, hne]⟩
  | some o =>
    show ct zl D _ base yX1_refresh cX1_refresh 6 none 5 0 0 _ V _
    obtain ⟨h_o, h_oc, hdisP⟩ := hpo (i * 4 + g) o (by omega) hpt
    by_cases hmk : pM (i * 4 + g) = nI T.length
    · rw [hmk] at h_o
      refine ct_mono (c_refF fmo ftr ftb h_o (by omega) hg ((htf _ (by omega)).trans hpt) hT.2.1) (fun zv zV zh => ?_)
      obtain ⟨rfl, rfl⟩ := zh
      exact ⟨rfl, _, _, _, _, _, _, hCS0, fun _ _ => rfl, ⟨o, hpt⟩, hmk, fun _ h9 => h9, fun _ _ _ => ⟨rfl, rfl, rfl, rfl, rfl, rfl⟩⟩
    · skip
      have hq13 := (hnw i hi).1
      rcases (show qk i = 0 ∨ qk i = 1 ∨ qk i = 2 ∨ qk i = 3 ∨ qk i = 4 ∨ qk i = 5 ∨ qk i = 6 ∨ qk i = 7 ∨ qk i = 8 ∨ qk i = 9 ∨ qk i = 10 ∨ qk i = 11 ∨ qk i = 12 ∨ qk i = 13 by omega) with hqi | hqi | hqi | hqi | hqi | hqi | hqi | hqi | hqi | hqi | hqi | hqi | hqi | hqi
      · skip
        obtain ⟨ea, eb, hps, hpp, hpo9⟩ := (hnw i hi).2.1 hqi
        have hno := hvi
        rw [hqi, ea, eb] at hno
        refine ct_mono (c_ref0E  fmo ftr ftg fts ftp ftq fnd fnl hno fxe fak faf fas fap fav fky fpl ftb h_o h_oc hX (nd5 hd6) (by omega) hg hnfi hky hT.2.1 ((htf _ (by omega)).trans hpt) hmk hT hps hpp hpo9) (fun zv zV zh => ?_)
        obtain ⟨vl1, kf1, pf1, n1, tl1, f1, rfl, rfl, hS⟩ := zh
        have hS2 : TRep (sem T E qk nv i g) n1 tl1 f1 := by rw [sem_eq (hnw i hi) (by omega), ns_0 hqi]; exact hS
        obtain ⟨r1, r2⟩ := cs_old fmo ftr ftg fts ftp ftq fxe fak faf fas fap fav fnd fnl fwg fky fpl ftb hT hdt hX hd6 hnn hnd hnw hky htf hpo htd hnu hfr hmd hO0 hOf hOn hOp hi hg rfl hpt rfl hS2
        exact ⟨rfl, _, _, _, _, _, _, r1, r2, ⟨o, by simp [va_up]⟩, by simp [va_up], fun t9 h9 => (by rw [hpt] at h9; rw [← Option.some.inj h9]; simp [va_up]), fun p _ hne => by simp [va_up, hne]⟩
      · skip
        obtain ⟨a0, ha0, ea⟩ := (hnw i hi).2.2.1 (by omega)
        obtain ⟨b0, hb0, eb⟩ := (hnw i hi).2.2.2.1 (by omega) (by omega)
        have hno := hvi
        rw [hqi, ea, eb] at hno
        obtain ⟨⟨a, hpa⟩, hma⟩ := hrd a0 g (Or.inr (Or.inr (Or.inl ⟨by omega, by omega, by rw [ea, tn_nI (by omega)], rfl⟩)))
        obtain ⟨h_a, h_c, hdisa⟩ := hpo (a0 * 4 + g) a (by omega) hpa
        have hSa := hfr a0 g a (by omega) (by omega) hpa hma
        obtain ⟨⟨b, hpb⟩, hmb⟩ := hrd b0 g (Or.inr (Or.inr (Or.inr ⟨by omega, by omega, by rw [eb, tn_nI (by omega)], rfl⟩)))
        obtain ⟨h_b, h_c2, hdisb⟩ := hpo (b0 * 4 + g) b (by omega) hpb
        have hSb := hfr b0 g b (by omega) (by omega) hpb hmb
        refine ct_mono (c_ref1E  fmo ftr ftg fts ftp ftq fnd fnl hno fxe fak faf fas fap fav fky fpl ftb h_o h_oc h_a h_c h_b h_c2 hX (nd5 hd6) (by omega) hg hnfi hky hT.2.1 ((htf _ (by omega)).trans hpt) hmk ha0 ((htf _ (by omega)).trans hpa) hSa (hdisP _ _ (by omega) hpa (by omega)).1.symm (hdisP _ _ (by omega) hpa (by omega)).2.symm hb0 ((htf _ (by omega)).trans hpb) hSb (hdisP _ _ (by omega) hpb (by omega)).1.symm (hdisP _ _ (by omega) hpb (by omega)).2.symm) (fun zv zV zh => ?_)
        obtain ⟨vl1, kf1, pf1, n1, tl1, f1, rfl, rfl, hS⟩ := zh
        have hS2 : TRep (sem T E qk nv i g) n1 tl1 f1 := by rw [sem_eq (hnw i hi) (by omega), ns_1 hqi ea (by omega) eb (by omega)]; exact hS
        obtain ⟨r1, r2⟩ := cs_old fmo ftr ftg fts ftp ftq fxe fak faf fas fap fav fnd fnl fwg fky fpl ftb hT hdt hX hd6 hnn hnd hnw hky htf hpo htd hnu hfr hmd hO0 hOf hOn hOp hi hg rfl hpt rfl hS2
        exact ⟨rfl, _, _, _, _, _, _, r1, r2, ⟨o, by simp [va_up]⟩, by simp [va_up], fun t9 h9 => (by rw [hpt] at h9; rw [← Option.some.inj h9]; simp [va_up]), fun p _ hne => by simp [va_up, hne]⟩
      · skip
        obtain ⟨a0, ha0, ea⟩ := (hnw i hi).2.2.1 (by omega)
        obtain ⟨b0, hb0, eb⟩ := (hnw i hi).2.2.2.1 (by omega) (by omega)
        have hno := hvi
        rw [hqi, ea, eb] at hno
        obtain ⟨⟨a, hpa⟩, hma⟩ := hrd a0 g (Or.inr (Or.inr (Or.inl ⟨by omega, by omega, by rw [ea, tn_nI (by omega)], rfl⟩)))
        obtain ⟨h_a, h_c, hdisa⟩ := hpo (a0 * 4 + g) a (by omega) hpa
        have hSa := hfr a0 g a (by omega) (by omega) hpa hma
        obtain ⟨⟨b, hpb⟩, hmb⟩ := hrd b0 g (Or.inr (Or.inr (Or.inr ⟨by omega, by omega, by rw [eb, tn_nI (by omega)], rfl⟩)))
        obtain ⟨h_b, h_c2, hdisb⟩ := hpo (b0 * 4 + g) b (by omega) hpb
        have hSb := hfr b0 g b (by omega) (by omega) hpb hmb
        refine ct_mono (c_ref2E  fmo ftr ftg fts ftp ftq fnd fnl hno fxe fak faf fas fap fav fky fpl ftb h_o h_oc h_a h_c h_b h_c2 hX (nd5 hd6) (by omega) hg hnfi hky hT.2.1 ((htf _ (by omega)).trans hpt) hmk ha0 ((htf _ (by omega)).trans hpa) hSa (hdisP _ _ (by omega) hpa (by omega)).1.symm (hdisP _ _ (by omega) hpa (by omega)).2.symm hb0 ((htf _ (by omega)).trans hpb) hSb (hdisP _ _ (by omega) hpb (by omega)).1.symm (hdisP _ _ (by omega) hpb (by omega)).2.symm) (fun zv zV zh => ?_)
        obtain ⟨vl1, kf1, pf1, n1, tl1, f1, rfl, rfl, hS⟩ := zh
        have hS2 : TRep (sem T E qk nv i g) n1 tl1 f1 := by rw [sem_eq (hnw i hi) (by omega), ns_2 hqi ea (by omega) eb (by omega)]; exact hS
        obtain ⟨r1, r2⟩ := cs_old fmo ftr ftg fts ftp ftq fxe fak faf fas fap fav fnd fnl fwg fky fpl ftb hT hdt hX hd6 hnn hnd hnw hky htf hpo htd hnu hfr hmd hO0 hOf hOn hOp hi hg rfl hpt rfl hS2
        exact ⟨rfl, _, _, _, _, _, _, r1, r2, ⟨o, by simp [va_up]⟩, by simp [va_up], fun t9 h9 => (by rw [hpt] at h9; rw [← Option.some.inj h9]; simp [va_up]), fun p _ hne => by simp [va_up, hne]⟩
      · skip
        obtain ⟨a0, ha0, ea⟩ := (hnw i hi).2.2.1 (by omega)
        obtain ⟨b0, hb0, eb⟩ := (hnw i hi).2.2.2.1 (by omega) (by omega)
        have hno := hvi
        rw [hqi, ea, eb] at hno
        obtain ⟨⟨a, hpa⟩, hma⟩ := hrd a0 g (Or.inr (Or.inr (Or.inl ⟨by omega, by omega, by rw [ea, tn_nI (by omega)], rfl⟩)))
        obtain ⟨h_a, h_c, hdisa⟩ := hpo (a0 * 4 + g) a (by omega) hpa
        have hSa := hfr a0 g a (by omega) (by omega) hpa hma
        obtain ⟨⟨b, hpb⟩, hmb⟩ := hrd b0 g (Or.inr (Or.inr (Or.inr ⟨by omega, by omega, by rw [eb, tn_nI (by omega)], rfl⟩)))
        obtain ⟨h_b, h_c2, hdisb⟩ := hpo (b0 * 4 + g) b (by omega) hpb
        have hSb := hfr b0 g b (by omega) (by omega) hpb hmb
        refine ct_mono (c_ref3E  fmo ftr ftg fts ftp ftq fnd fnl hno fxe fak faf fas fap fav fky fpl ftb h_o h_oc h_a h_c h_b h_c2 hX (nd5 hd6) (by omega) hg hnfi hky hT.2.1 ((htf _ (by omega)).trans hpt) hmk ha0 ((htf _ (by omega)).trans hpa) hSa (hdisP _ _ (by omega) hpa (by omega)).1.symm (hdisP _ _ (by omega) hpa (by omega)).2.symm hb0 ((htf _ (by omega)).trans hpb) hSb (hdisP _ _ (by omega) hpb (by omega)).1.symm (hdisP _ _ (by omega) hpb (by omega)).2.symm) (fun zv zV zh => ?_)
        obtain ⟨vl1, kf1, pf1, n1, tl1, f1, rfl, rfl, hS⟩ := zh
        have hS2 : TRep (sem T E qk nv i g) n1 tl1 f1 := by rw [sem_eq (hnw i hi) (by omega), ns_3 hqi ea (by omega) eb (by omega)]; exact hS
        obtain ⟨r1, r2⟩ := cs_old fmo ftr ftg fts ftp ftq fxe fak faf fas fap fav fnd fnl fwg fky fpl ftb hT hdt hX hd6 hnn hnd hnw hky htf hpo htd hnu hfr hmd hO0 hOf hOn hOp hi hg rfl hpt rfl hS2
        exact ⟨rfl, _, _, _, _, _, _, r1, r2, ⟨o, by simp [va_up]⟩, by simp [va_up], fun t9 h9 => (by rw [hpt] at h9; rw [← Option.some.inj h9]; simp [va_up]), fun p _ hne => by simp [va_up, hne]⟩
      · rcases (hnw i hi).2.2.2.2.2.1 hqi with ee | ⟨e, he, ee⟩
        · skip
          obtain ⟨a0, ha0, ea⟩ := (hnw i hi).2.2.1 (by omega)
          obtain ⟨b0, hb0, eb⟩ := (hnw i hi).2.2.2.1 (by omega) (by omega)
          have hno := hvi
          rw [hqi, ea, eb, ee] at hno
          obtain ⟨⟨a, hpa⟩, hma⟩ := hrd a0 g (Or.inr (Or.inr (Or.inl ⟨by omega, by omega, by rw [ea, tn_nI (by omega)], rfl⟩)))
          obtain ⟨h_a, h_c, hdisa⟩ := hpo (a0 * 4 + g) a (by omega) hpa
          have hSa := hfr a0 g a (by omega) (by omega) hpa hma
          obtain ⟨⟨b, hpb⟩, hmb⟩ := hrd b0 g (Or.inr (Or.inr (Or.inr ⟨by omega, by omega, by rw [eb, tn_nI (by omega)], rfl⟩)))
          obtain ⟨h_b, h_c2, hdisb⟩ := hpo (b0 * 4 + g) b (by omega) hpb
          have hSb := hfr b0 g b (by omega) (by omega) hpb hmb
          refine ct_mono (c_ref4NE  fmo ftr ftg fts ftp ftq fnd fnl hno fxe fak faf fas fap fav fky fpl ftb h_o h_oc h_a h_c h_b h_c2 hX (nd5 hd6) (by omega) hg hnfi hky hT.2.1 ((htf _ (by omega)).trans hpt) hmk ha0 ((htf _ (by omega)).trans hpa) hSa (hdisP _ _ (by omega) hpa (by omega)).1.symm (hdisP _ _ (by omega) hpa (by omega)).2.symm hb0 ((htf _ (by omega)).trans hpb) hSb (hdisP _ _ (by omega) hpb (by omega)).1.symm (hdisP _ _ (by omega) hpb (by omega)).2.symm) (fun zv zV zh => ?_)
          obtain ⟨vl1, kf1, pf1, n1, tl1, f1, rfl, rfl, hS⟩ := zh
          have hS2 : TRep (sem T E qk nv i g) n1 tl1 f1 := by rw [sem_eq (hnw i hi) (by omega), ns_4N hqi ea (by omega) eb (by omega) ee]; exact hS
          obtain ⟨r1, r2⟩ := cs_old fmo ftr ftg fts ftp ftq fxe fak faf fas fap fav fnd fnl fwg fky fpl ftb hT hdt hX hd6 hnn hnd hnw hky htf hpo htd hnu hfr hmd hO0 hOf hOn hOp hi hg rfl hpt rfl hS2
          exact ⟨rfl, _, _, _, _, _, _, r1, r2, ⟨o, by simp [va_up]⟩, by simp [va_up], fun t9 h9 => (by rw [hpt] at h9; rw [← Option.some.inj h9]; simp [va_up]), fun p _ hne => by simp [va_up, hne]⟩
        · skip
          obtain ⟨a0, ha0, ea⟩ := (hnw i hi).2.2.1 (by omega)
          obtain ⟨b0, hb0, eb⟩ := (hnw i hi).2.2.2.1 (by omega) (by omega)
          have hno := hvi
          rw [hqi, ea, eb, ee] at hno
          obtain ⟨⟨a, hpa⟩, hma⟩ := hrd a0 g (Or.inr (Or.inr (Or.inl ⟨by omega, by omega, by rw [ea, tn_nI (by omega)], rfl⟩)))
          obtain ⟨h_a, h_c, hdisa⟩ := hpo (a0 * 4 + g) a (by omega) hpa
          have hSa := hfr a0 g a (by omega) (by omega) hpa hma
          obtain ⟨⟨b, hpb⟩, hmb⟩ := hrd b0 g (Or.inr (Or.inr (Or.inr ⟨by omega, by omega, by rw [eb, tn_nI (by omega)], rfl⟩)))
          obtain ⟨h_b, h_c2, hdisb⟩ := hpo (b0 * 4 + g) b (by omega) hpb
          have hSb := hfr b0 g b (by omega) (by omega) hpb hmb
          refine ct_mono (c_ref4EE  fmo ftr ftg fts ftp ftq fnd fnl hno fxe fak faf fas fap fav fky fpl ftb h_o h_oc h_a h_c h_b h_c2 hX (nd5 hd6) (by omega) hg hnfi hky hT.2.1 ((htf _ (by omega)).trans hpt) hmk ha0 ((htf _ (by omega)).trans hpa) hSa (hdisP _ _ (by omega) hpa (by omega)).1.symm (hdisP _ _ (by omega) hpa (by omega)).2.symm hb0 ((htf _ (by omega)).trans hpb) hSb (hdisP _ _ (by omega) hpb (by omega)).1.symm (hdisP _ _ (by omega) hpb (by omega)).2.symm he) (fun zv zV zh => ?_)
          obtain ⟨vl1, kf1, pf1, n1, tl1, f1, rfl, rfl, hS⟩ := zh
          have hS2 : TRep (sem T E qk nv i g) n1 tl1 f1 := by rw [sem_eq (hnw i hi) (by omega), ns_4E hqi ea (by omega) eb (by omega) ee (by omega)]; exact hS
          obtain ⟨r1, r2⟩ := cs_old fmo ftr ftg fts ftp ftq fxe fak faf fas fap fav fnd fnl fwg fky fpl ftb hT hdt hX hd6 hnn hnd hnw hky htf hpo htd hnu hfr hmd hO0 hOf hOn hOp hi hg rfl hpt rfl hS2
          exact ⟨rfl, _, _, _, _, _, _, r1, r2, ⟨o, by simp [va_up]⟩, by simp [va_up], fun t9 h9 => (by rw [hpt] at h9; rw [← Option.some.inj h9]; simp [va_up]), fun p _ hne => by simp [va_up, hne]⟩
      · skip
        obtain ⟨a0, ha0, ea⟩ := (hnw i hi).2.2.1 (by omega)
        have eb := (hnw i hi).2.2.2.2.1 (by omega)
        obtain ⟨e, he, ee⟩ := (hnw i hi).2.2.2.2.2.2.1 (by omega)
        have hno := hvi
        rw [hqi, ea, eb, ee] at hno
        obtain ⟨⟨a, hpa⟩, hma⟩ := hrd a0 g (Or.inr (Or.inr (Or.inl ⟨by omega, by omega, by rw [ea, tn_nI (by omega)], rfl⟩)))
        obtain ⟨h_a, h_c, hdisa⟩ := hpo (a0 * 4 + g) a (by omega) hpa
        have hSa := hfr a0 g a (by omega) (by omega) hpa hma
        refine ct_mono (c_ref5E  fmo ftr ftg fts ftp ftq fnd fnl hno fxe fak faf fas fap fav fky fpl ftb h_o h_oc h_a h_c hX (nd5 hd6) (by omega) hg hnfi hky hT.2.1 ((htf _ (by omega)).trans hpt) hmk ha0 ((htf _ (by omega)).trans hpa) hSa (hdisP _ _ (by omega) hpa (by omega)).1.symm (hdisP _ _ (by omega) hpa (by omega)).2.symm he) (fun zv zV zh => ?_)
        obtain ⟨vl1, kf1, pf1, n1, tl1, f1, rfl, rfl, hS⟩ := zh
        have hS2 : TRep (sem T E qk nv i g) n1 tl1 f1 := by rw [sem_eq (hnw i hi) (by omega), ns_5 hqi ea (by omega) ee (by omega)]; exact hS
        obtain ⟨r1, r2⟩ := cs_old fmo ftr ftg fts ftp ftq fxe fak faf fas fap fav fnd fnl fwg fky fpl ftb hT hdt hX hd6 hnn hnd hnw hky htf hpo htd hnu hfr hmd hO0 hOf hOn hOp hi hg rfl hpt rfl hS2
        exact ⟨rfl, _, _, _, _, _, _, r1, r2, ⟨o, by simp [va_up]⟩, by simp [va_up], fun t9 h9 => (by rw [hpt] at h9; rw [← Option.some.inj h9]; simp [va_up]), fun p _ hne => by simp [va_up, hne]⟩
      · skip
        obtain ⟨a0, ha0, ea⟩ := (hnw i hi).2.2.1 (by omega)
        have eb := (hnw i hi).2.2.2.2.1 (by omega)
        obtain ⟨e, he, ee⟩ := (hnw i hi).2.2.2.2.2.2.1 (by omega)
        obtain ⟨vv, hvv, e7⟩ := (hnw i hi).2.2.2.2.2.2.2.1 (by omega)
        have hno := hvi
        rw [hqi, ea, eb, ee, e7] at hno
        obtain ⟨⟨a, hpa⟩, hma⟩ := hrd a0 g (Or.inr (Or.inr (Or.inl ⟨by omega, by omega, by rw [ea, tn_nI (by omega)], rfl⟩)))
        obtain ⟨h_a, h_c, hdisa⟩ := hpo (a0 * 4 + g) a (by omega) hpa
        have hSa := hfr a0 g a (by omega) (by omega) hpa hma
        refine ct_mono (c_ref6E  fmo ftr ftg fts ftp ftq fnd fnl hno fxe fak faf fas fap fav fky fpl ftb h_o h_oc h_a h_c hX (nd5 hd6) (by omega) hg hnfi hky hT.2.1 ((htf _ (by omega)).trans hpt) hmk ha0 ((htf _ (by omega)).trans hpa) hSa (hdisP _ _ (by omega) hpa (by omega)).1.symm (hdisP _ _ (by omega) hpa (by omega)).2.symm he hvv) (fun zv zV zh => ?_)
        obtain ⟨vl1, kf1, pf1, n1, tl1, f1, rfl, rfl, hS⟩ := zh
        have hS2 : TRep (sem T E qk nv i g) n1 tl1 f1 := by rw [sem_eq (hnw i hi) (by omega), ns_6 hqi ea (by omega) ee (by omega) e7 (by omega)]; exact hS
        obtain ⟨r1, r2⟩ := cs_old fmo ftr ftg fts ftp ftq fxe fak faf fas fap fav fnd fnl fwg fky fpl ftb hT hdt hX hd6 hnn hnd hnw hky htf hpo htd hnu hfr hmd hO0 hOf hOn hOp hi hg rfl hpt rfl hS2
        exact ⟨rfl, _, _, _, _, _, _, r1, r2, ⟨o, by simp [va_up]⟩, by simp [va_up], fun t9 h9 => (by rw [hpt] at h9; rw [← Option.some.inj h9]; simp [va_up]), fun p _ hne => by simp [va_up, hne]⟩
      · skip
        obtain ⟨a0, ha0, ea⟩ := (hnw i hi).2.2.1 (by omega)
        have eb := (hnw i hi).2.2.2.2.1 (by omega)
        have hno := hvi
        rw [hqi, ea, eb] at hno
        obtain ⟨⟨a, hpa⟩, hma⟩ := hrd a0 g (Or.inr (Or.inr (Or.inl ⟨by omega, by omega, by rw [ea, tn_nI (by omega)], rfl⟩)))
        obtain ⟨h_a, h_c, hdisa⟩ := hpo (a0 * 4 + g) a (by omega) hpa
        have hSa := hfr a0 g a (by omega) (by omega) hpa hma
        refine ct_mono (c_ref7E  fmo ftr ftg fts ftp ftq fnd fnl hno fxe fak faf fas fap fav fky fpl ftb h_o h_oc h_a h_c hX (nd5 hd6) (by omega) hg hnfi hky hT.2.1 ((htf _ (by omega)).trans hpt) hmk ha0 ((htf _ (by omega)).trans hpa) hSa (hdisP _ _ (by omega) hpa (by omega)).1.symm (hdisP _ _ (by omega) hpa (by omega)).2.symm) (fun zv zV zh => ?_)
        obtain ⟨vl1, kf1, pf1, n1, tl1, f1, rfl, rfl, hS⟩ := zh
        have hS2 : TRep (sem T E qk nv i g) n1 tl1 f1 := by rw [sem_eq (hnw i hi) (by omega), ns_7 hqi ea (by omega)]; exact hS
        obtain ⟨r1, r2⟩ := cs_old fmo ftr ftg fts ftp ftq fxe fak faf fas fap fav fnd fnl fwg fky fpl ftb hT hdt hX hd6 hnn hnd hnw hky htf hpo htd hnu hfr hmd hO0 hOf hOn hOp hi hg rfl hpt rfl hS2
        exact ⟨rfl, _, _, _, _, _, _, r1, r2, ⟨o, by simp [va_up]⟩, by simp [va_up], fun t9 h9 => (by rw [hpt] at h9; rw [← Option.some.inj h9]; simp [va_up]), fun p _ hne => by simp [va_up, hne]⟩
      · skip
        obtain ⟨a0, ha0, ea⟩ := (hnw i hi).2.2.1 (by omega)
        have eb := (hnw i hi).2.2.2.2.1 (by omega)
        have hno := hvi
        rw [hqi, ea, eb] at hno
        obtain ⟨⟨a, hpa⟩, hma⟩ := hrd a0 g (Or.inr (Or.inr (Or.inl ⟨by omega, by omega, by rw [ea, tn_nI (by omega)], rfl⟩)))
        obtain ⟨h_a, h_c, hdisa⟩ := hpo (a0 * 4 + g) a (by omega) hpa
        have hSa := hfr a0 g a (by omega) (by omega) hpa hma
        refine ct_mono (c_ref8E  fmo ftr ftg fts ftp ftq fnd fnl hno fxe fak faf fas fap fav fky fpl ftb h_o h_oc h_a h_c hX (nd5 hd6) (by omega) hg hnfi hky hT.2.1 ((htf _ (by omega)).trans hpt) hmk ha0 ((htf _ (by omega)).trans hpa) hSa (hdisP _ _ (by omega) hpa (by omega)).1.symm (hdisP _ _ (by omega) hpa (by omega)).2.symm) (fun zv zV zh => ?_)
        obtain ⟨vl1, kf1, pf1, n1, tl1, f1, rfl, rfl, hS⟩ := zh
        have hS2 : TRep (sem T E qk nv i g) n1 tl1 f1 := by rw [sem_eq (hnw i hi) (by omega), ns_8 hqi ea (by omega)]; exact hS
        obtain ⟨r1, r2⟩ := cs_old fmo ftr ftg fts ftp ftq fxe fak faf fas fap fav fnd fnl fwg fky fpl ftb hT hdt hX hd6 hnn hnd hnw hky htf hpo htd hnu hfr hmd hO0 hOf hOn hOp hi hg rfl hpt rfl hS2
        exact ⟨rfl, _, _, _, _, _, _, r1, r2, ⟨o, by simp [va_up]⟩, by simp [va_up], fun t9 h9 => (by rw [hpt] at h9; rw [← Option.some.inj h9]; simp [va_up]), fun p _ hne => by simp [va_up, hne]⟩
      · skip
        obtain ⟨a0, ha0, ea⟩ := (hnw i hi).2.2.1 (by omega)
        have eb := (hnw i hi).2.2.2.2.1 (by omega)
        obtain ⟨u0, u1, hu0, hu1, e9, e10⟩ := (hnw i hi).2.2.2.2.2.2.2.2.1 hqi
        have hno := hvi
        rw [hqi, ea, eb, e9, e10] at hno
        obtain ⟨⟨a, hpa⟩, hma⟩ := hrd a0 g (Or.inr (Or.inr (Or.inl ⟨by omega, by omega, by rw [ea, tn_nI (by omega)], rfl⟩)))
        obtain ⟨h_a, h_c, hdisa⟩ := hpo (a0 * 4 + g) a (by omega) hpa
        have hSa := hfr a0 g a (by omega) (by omega) hpa hma
        refine ct_mono (c_ref9E  fmo ftr ftg fts ftp ftq fnd fnl hno fxe fak faf fas fap fav fky fpl ftb h_o h_oc h_a h_c hX (nd5 hd6) (by omega) hg hnfi hky hT.2.1 ((htf _ (by omega)).trans hpt) hmk ha0 ((htf _ (by omega)).trans hpa) hSa (hdisP _ _ (by omega) hpa (by omega)).1.symm (hdisP _ _ (by omega) hpa (by omega)).2.symm hu0 hu1) (fun zv zV zh => ?_)
        obtain ⟨vl1, kf1, pf1, n1, tl1, f1, rfl, rfl, hS⟩ := zh
        have hS2 : TRep (sem T E qk nv i g) n1 tl1 f1 := by rw [sem_eq (hnw i hi) (by omega), ns_9 hqi ea (by omega) e9 (by omega) e10 (by omega)]; exact hS
        obtain ⟨r1, r2⟩ := cs_old fmo ftr ftg fts ftp ftq fxe fak faf fas fap fav fnd fnl fwg fky fpl ftb hT hdt hX hd6 hnn hnd hnw hky htf hpo htd hnu hfr hmd hO0 hOf hOn hOp hi hg rfl hpt rfl hS2
        exact ⟨rfl, _, _, _, _, _, _, r1, r2, ⟨o, by simp [va_up]⟩, by simp [va_up], fun t9 h9 => (by rw [hpt] at h9; rw [← Option.some.inj h9]; simp [va_up]), fun p _ hne => by simp [va_up, hne]⟩
      · skip
        obtain ⟨a0, ha0, ea⟩ := (hnw i hi).2.2.1 (by omega)
        have eb := (hnw i hi).2.2.2.2.1 (by omega)
        obtain ⟨e, he, ee⟩ := (hnw i hi).2.2.2.2.2.2.1 (by omega)
        have hno := hvi
        rw [hqi, ea, eb, ee] at hno
        obtain ⟨⟨a, hpa⟩, hma⟩ := hrd a0 g (Or.inr (Or.inr (Or.inl ⟨by omega, by omega, by rw [ea, tn_nI (by omega)], rfl⟩)))
        obtain ⟨h_a, h_c, hdisa⟩ := hpo (a0 * 4 + g) a (by omega) hpa
        have hSa := hfr a0 g a (by omega) (by omega) hpa hma
        refine ct_mono (c_ref10E  fmo ftr ftg fts ftp ftq fnd fnl hno fxe fak faf fas fap fav fky fpl ftb h_o h_oc h_a h_c hX (nd5 hd6) (by omega) hg hnfi hky hT.2.1 ((htf _ (by omega)).trans hpt) hmk ha0 ((htf _ (by omega)).trans hpa) hSa (hdisP _ _ (by omega) hpa (by omega)).1.symm (hdisP _ _ (by omega) hpa (by omega)).2.symm he) (fun zv zV zh => ?_)
        obtain ⟨vl1, kf1, pf1, n1, tl1, f1, rfl, rfl, hS⟩ := zh
        have hS2 : TRep (sem T E qk nv i g) n1 tl1 f1 := by rw [sem_eq (hnw i hi) (by omega), ns_10 hqi ea (by omega) ee (by omega)]; exact hS
        obtain ⟨r1, r2⟩ := cs_old fmo ftr ftg fts ftp ftq fxe fak faf fas fap fav fnd fnl fwg fky fpl ftb hT hdt hX hd6 hnn hnd hnw hky htf hpo htd hnu hfr hmd hO0 hOf hOn hOp hi hg rfl hpt rfl hS2
        exact ⟨rfl, _, _, _, _, _, _, r1, r2, ⟨o, by simp [va_up]⟩, by simp [va_up], fun t9 h9 => (by rw [hpt] at h9; rw [← Option.some.inj h9]; simp [va_up]), fun p _ hne => by simp [va_up, hne]⟩
      · skip
        obtain ⟨a0, ha0, ea⟩ := (hnw i hi).2.2.1 (by omega)
        have eb := (hnw i hi).2.2.2.2.1 (by omega)
        obtain ⟨e, he, ee⟩ := (hnw i hi).2.2.2.2.2.2.1 (by omega)
        obtain ⟨vv, hvv, e7⟩ := (hnw i hi).2.2.2.2.2.2.2.1 (by omega)
        have hno := hvi
        rw [hqi, ea, eb, ee, e7] at hno
        obtain ⟨⟨a, hpa⟩, hma⟩ := hrd a0 g (Or.inr (Or.inr (Or.inl ⟨by omega, by omega, by rw [ea, tn_nI (by omega)], rfl⟩)))
        obtain ⟨h_a, h_c, hdisa⟩ := hpo (a0 * 4 + g) a (by omega) hpa
        have hSa := hfr a0 g a (by omega) (by omega) hpa hma
        refine ct_mono (c_ref11E  fmo ftr ftg fts ftp ftq fnd fnl hno fxe fak faf fas fap fav fky fpl ftb h_o h_oc h_a h_c hX (nd5 hd6) (by omega) hg hnfi hky hT.2.1 ((htf _ (by omega)).trans hpt) hmk ha0 ((htf _ (by omega)).trans hpa) hSa (hdisP _ _ (by omega) hpa (by omega)).1.symm (hdisP _ _ (by omega) hpa (by omega)).2.symm he hvv) (fun zv zV zh => ?_)
        obtain ⟨vl1, kf1, pf1, n1, tl1, f1, rfl, rfl, hS⟩ := zh
        have hS2 : TRep (sem T E qk nv i g) n1 tl1 f1 := by rw [sem_eq (hnw i hi) (by omega), ns_11 hqi ea (by omega) ee (by omega) e7 (by omega)]; exact hS
        obtain ⟨r1, r2⟩ := cs_old fmo ftr ftg fts ftp ftq fxe fak faf fas fap fav fnd fnl fwg fky fpl ftb hT hdt hX hd6 hnn hnd hnw hky htf hpo htd hnu hfr hmd hO0 hOf hOn hOp hi hg rfl hpt rfl hS2
        exact ⟨rfl, _, _, _, _, _, _, r1, r2, ⟨o, by simp [va_up]⟩, by simp [va_up], fun t9 h9 => (by rw [hpt] at h9; rw [← Option.some.inj h9]; simp [va_up]), fun p _ hne => by simp [va_up, hne]⟩
      · skip
        obtain ⟨a0, ha0, ea⟩ := (hnw i hi).2.2.1 (by omega)
        have eb := (hnw i hi).2.2.2.2.1 (by omega)
        obtain ⟨gr0, hgr, e13⟩ := (hnw i hi).2.2.2.2.2.2.2.2.2 hqi
        have hno := hvi
        rw [hqi, ea, eb, e13] at hno
        obtain ⟨⟨a, hpa⟩, hma⟩ := hrd a0 gr0 (Or.inr (Or.inl ⟨hqi, by rw [ea, tn_nI (by omega)], by rw [e13, tn_nI (by omega)]⟩))
        obtain ⟨h_a, h_c, hdisa⟩ := hpo (a0 * 4 + gr0) a (by omega) hpa
        have hSa := hfr a0 gr0 a (by omega) (by omega) hpa hma
        refine ct_mono (c_ref12E  fmo ftr ftg fts ftp ftq fnd fnl hno fxe fak faf fas fap fav fky fpl ftb h_o h_oc h_a h_c hX (nd5 hd6) (by omega) hg hnfi hky hT.2.1 ((htf _ (by omega)).trans hpt) hmk ha0 ((htf _ (by omega)).trans hpa) hSa hgr (hdisP _ _ (by omega) hpa (by omega)).1.symm (hdisP _ _ (by omega) hpa (by omega)).2.symm) (fun zv zV zh => ?_)
        obtain ⟨vl1, kf1, pf1, n1, tl1, f1, rfl, rfl, hS⟩ := zh
        have hS2 : TRep (sem T E qk nv i g) n1 tl1 f1 := by rw [sem_eq (hnw i hi) (by omega), ns_12 hqi ea (by omega) e13 (by omega)]; exact hS
        obtain ⟨r1, r2⟩ := cs_old fmo ftr ftg fts ftp ftq fxe fak faf fas fap fav fnd fnl fwg fky fpl ftb hT hdt hX hd6 hnn hnd hnw hky htf hpo htd hnu hfr hmd hO0 hOf hOn hOp hi hg rfl hpt rfl hS2
        exact ⟨rfl, _, _, _, _, _, _, r1, r2, ⟨o, by simp [va_up]⟩, by simp [va_up], fun t9 h9 => (by rw [hpt] at h9; rw [← Option.some.inj h9]; simp [va_up]), fun p _ hne => by simp [va_up, hne]⟩
      · skip
        obtain ⟨a0, ha0, ea⟩ := (hnw i hi).2.2.1 (by omega)
        have eb := (hnw i hi).2.2.2.2.1 (by omega)
        obtain ⟨vv, hvv, e7⟩ := (hnw i hi).2.2.2.2.2.2.2.1 (by omega)
        have hno := hvi
        rw [hqi, ea, eb, e7] at hno
        have hz1 : ∀ z, 1 ≤ z → z < 4 → (∃ t, pT (a0 * 4 + z) = some t) ∧ pM (a0 * 4 + z) = nI T.length := fun z h1 h2 => hrd a0 z (Or.inl ⟨hqi, by rw [ea, tn_nI (by omega)], h1, h2⟩)
        have hch9 : ∀ z, 1 ≤ z → z < 4 → tf (a0 * 4 + z) = some ((pT (a0 * 4 + z)).getD 0) ∧ V ((pT (a0 * 4 + z)).getD 0) = some (.inr (4, [.ref (pC (a0 * 4 + z)), .int (nI (pN (a0 * 4 + z))), .int (pL (a0 * 4 + z)), .int (pM (a0 * 4 + z))])) ∧ V (pC (a0 * 4 + z)) = some (.inl (cI, 486, .inl (pF (a0 * 4 + z)))) ∧ nq o ((pT (a0 * 4 + z)).getD 0) ∧ nq (pC (i * 4 + g)) (pC (a0 * 4 + z)) ∧ TRep (sem T E qk nv a0 z) (pN (a0 * 4 + z)) (pL (a0 * 4 + z)) (pF (a0 * 4 + z)) := fun z h1 h2 => by
          obtain ⟨⟨t, hpz⟩, hmz⟩ := hz1 z h1 h2
          obtain ⟨g1, g2, -⟩ := hpo (a0 * 4 + z) t (by omega) hpz
          rw [hpz]
          exact ⟨(htf _ (by omega)).trans hpz, g1, g2, (hdisP _ _ (by omega) hpz (by omega)).1.symm, (hdisP _ _ (by omega) hpz (by omega)).2.symm, hfr a0 z t (by omega) h2 hpz hmz⟩
        refine ct_mono (c_ref13E (tA := fun z => (pT (a0 * 4 + z)).getD 0) (cA := fun z => pC (a0 * 4 + z)) (nA := fun z => pN (a0 * 4 + z)) (tlA := fun z => pL (a0 * 4 + z)) (mkA := fun z => pM (a0 * 4 + z)) (fA := fun z => pF (a0 * 4 + z)) (SA := fun z => sem T E qk nv a0 z) fmo ftr ftg fts ftp ftq fnd fnl hno fxe fak faf fas fap fav fky fpl ftb h_o h_oc hX (nd5 hd6) (by omega) hg hnfi hky hT.2.1 ((htf _ (by omega)).trans hpt) hmk ha0 hch9 hvv) (fun zv zV zh => ?_)
        obtain ⟨vl1, kf1, pf1, n1, tl1, f1, rfl, rfl, hS⟩ := zh
        have hS2 : TRep (sem T E qk nv i g) n1 tl1 f1 := by rw [sem_eq (hnw i hi) (by omega), ns_13 hqi ea (by omega) e7 (by omega)]; exact hS
        obtain ⟨r1, r2⟩ := cs_old fmo ftr ftg fts ftp ftq fxe fak faf fas fap fav fnd fnl fwg fky fpl ftb hT hdt hX hd6 hnn hnd hnw hky htf hpo htd hnu hfr hmd hO0 hOf hOn hOp hi hg rfl hpt rfl hS2
        exact ⟨rfl, _, _, _, _, _, _, r1, r2, ⟨o, by simp [va_up]⟩, by simp [va_up], fun t9 h9 => (by rw [hpt] at h9; rw [← Option.some.inj h9]; simp [va_up]), fun p _ hne => by simp [va_up, hne]⟩
