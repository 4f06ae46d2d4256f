/-! wanted tables: what stands over a wanted table wants what it needs -/
theorem bt_or1 {x y : Int32} {b : Nat} (h : bt x b = true) : bt (x ||| y) b = true := by rw [b_or, h]; rfl
theorem bt_or2 {x y : Int32} {b : Nat} (h : bt y b = true) : bt (x ||| y) b = true := by rw [b_or, h, Bool.or_true]
/-- children stand before -/
def Chl (nv : Nat → Nat → Int32) (m : Nat) : Prop := ∀ i, i < m → (nv i 1 = -1 ∨ ∃ a, a < i ∧ nv i 1 = nI a) ∧ (nv i 2 = -1 ∨ ∃ a, a < i ∧ nv i 2 = nI a)
theorem orA_hi {w : Nat → Int32} {x b : Int32} {i j : Nat} (hi : i < 2 ^ 31) (h : x = -1 ∨ ∃ a, a < i ∧ x = nI a) (hj : i ≤ j) : orA w x b j = w j := by
  unfold orA
  rcases h with h | ⟨a, ha, h⟩
  · rw [if_pos h]
  · rw [if_neg (by rw [h]; exact nI_n1 (by omega)), h, nI_clamp (by omega)]
    simp only [upd]
    rw [if_neg (by omega)]
theorem orA_mono {w : Nat → Int32} {x b : Int32} {j k : Nat} (h : bt (w j) k = true) : bt (orA w x b j) k = true := by
  unfold orA
  split
  · exact h
  · simp only [upd]
    split
    · rename_i h2; rw [← h2]; exact bt_or1 h
    · exact h
theorem orA_at {w : Nat → Int32} {a : Nat} {b : Int32} {k : Nat} (ha : a < 2 ^ 31) (h : bt b k = true) : bt (orA w (nI a) b a) k = true := by
  unfold orA
  rw [if_neg (nI_n1 ha), nI_clamp ha]
  simp only [upd, if_pos]
  exact bt_or2 h
theorem wst_hi {qk : Nat → Nat} {nv : Nat → Nat → Int32} {w : Nat → Int32} {i j n : Nat} (hn : n < 2 ^ 31) (hc : Chl nv n) (hi : i < n) (hj : i ≤ j) : wst qk nv w i j = w j := by
  unfold wst
  rw [orA_hi (by omega) (hc i hi).2 hj, orA_hi (by omega) (hc i hi).1 hj]
theorem wdn_hi {qk : Nat → Nat} {nv : Nat → Nat → Int32} {n : Nat} (hn : n < 2 ^ 31) (hc : Chl nv n) : ∀ {m : Nat} {w : Nat → Int32} {j : Nat}, m ≤ n → m ≤ j + 1 → wdn qk nv m w j = w j
  | 0, _, _, _, _ => rfl
  | m + 1, w, j, h1, h2 => by
    simp only [wdn]
    rw [wdn_hi hn hc (by omega) (by omega), wst_hi hn hc (by omega) (by omega)]
theorem wdn_mono {qk : Nat → Nat} {nv : Nat → Nat → Int32} {j k : Nat} : ∀ {m : Nat} {w : Nat → Int32}, bt (w j) k = true → bt (wdn qk nv m w j) k = true
  | 0, _, h => h
  | m + 1, w, h => by
    simp only [wdn]
    exact wdn_mono (by unfold wst; exact orA_mono (orA_mono h))
theorem wdn_cl {qk : Nat → Nat} {nv : Nat → Nat → Int32} {n : Nat} (hn : n < 2 ^ 31) (hc : Chl nv n) {i a k : Nat} (hx : nv i 1 = nI a ∨ nv i 2 = nI a) (ha : a < i) : ∀ {m : Nat} {w : Nat → Int32}, m ≤ n → i < m → bt (gbl (qk i) (nv i 13) (wdn qk nv m w i)) k = true → bt (wdn qk nv m w a) k = true
  | 0, _, _, h, _ => absurd h (Nat.not_lt_zero _)
  | m + 1, w, h1, h2, h3 => by
    by_cases him : i = m
    · subst him
      rw [wdn_hi hn hc h1 (Nat.le_refl _)] at h3
      simp only [wdn]
      apply wdn_mono
      unfold wst
      rcases hx with hx | hx
      · rw [hx]; exact orA_mono (orA_at (by omega) h3)
      · rw [hx]; exact orA_at (by omega) h3
    · simp only [wdn] at h3 ⊢
      exact wdn_cl hn hc hx ha (by omega) (by omega) h3
def wbt (w : Nat → Int32) (i g : Nat) : Bool := inS (w i) (nI g)
theorem wbt_bt {w : Nat → Int32} {i g : Nat} (hg : g < 4) : wbt w i g = bt (w i) g := inS_bt _ (by omega)
theorem b_14 : bt (nI 14) 1 = true ∧ bt (nI 14) 2 = true ∧ bt (nI 14) 3 = true := by decide
theorem wnt_cl {qk : Nat → Nat} {nv : Nat → Nat → Int32} {ne r i g j z : Nat} {wf : Nat → Int32} (hr : r < 30) (hw : ∀ k, k < r + 1 → NW ne k (qk k) (nv k)) (hc : Chl nv (r + 1)) (hi : i ≤ r) (hg : g < 4) (hb : wbt (wnt qk nv r wf) i g = true) (hn : nd2 (qk i) (nv i) g j z) : wbt (wnt qk nv r wf) j z = true ∧ j < i ∧ z < 4 := by
  have hwi := hw i (by omega)
  rw [wbt_bt hg] at hb
  have hne : ¬ wnt qk nv r wf i = 0 := fun h => by rw [h, b_0] at hb; cases hb
  have gb : ∀ {a k : Nat}, (nv i 1 = nI a ∨ nv i 2 = nI a) → a < i → bt (gbl (qk i) (nv i 13) (wnt qk nv r wf i)) k = true → bt (wnt qk nv r wf a) k = true := fun hx ha h => wdn_cl (by omega) hc hx ha (Nat.le_refl _) (by omega) h
  have h1 : 1 ≤ qk i := by
    rcases hn with h | h | h | h
    · omega
    · omega
    · exact h.1
    · exact h.1
  obtain ⟨a, ha, ea⟩ := hwi.2.2.1 h1
  rcases hn with ⟨hq, hj, hz1, hz2⟩ | ⟨hq, hj, hz⟩ | ⟨_, hq, hj, hz⟩ | ⟨_, hq, hj, hz⟩
  · rw [ea, tn_nI (by omega)] at hj
    subst hj
    refine ⟨?_, ha, hz2⟩
    rw [wbt_bt hz2]
    refine gb (Or.inl ea) ha ?_
    unfold gbl
    rw [if_neg hne, if_neg (by omega), if_pos hq]
    rcases (show z = 1 ∨ z = 2 ∨ z = 3 by omega) with rfl | rfl | rfl
    · exact b_14.1
    · exact b_14.2.1
    · exact b_14.2.2
  · obtain ⟨gr, hgr, e13⟩ := hwi.2.2.2.2.2.2.2.2.2 hq
    rw [ea, tn_nI (by omega)] at hj
    rw [e13, tn_nI (by omega)] at hz
    subst hj; subst hz
    refine ⟨?_, ha, hgr⟩
    rw [wbt_bt hgr]
    refine gb (Or.inl ea) ha ?_
    unfold gbl
    rw [if_neg hne, if_pos hq, e13, b_pow (by omega) (by omega)]
    simp
  · rw [ea, tn_nI (by omega)] at hj
    subst hj; subst hz
    refine ⟨?_, ha, hg⟩
    rw [wbt_bt hg]
    refine gb (Or.inl ea) ha ?_
    unfold gbl
    rw [if_neg hne, if_neg (by omega), if_neg (by omega)]
    exact hb
  · obtain ⟨b, hb2, eb⟩ := hwi.2.2.2.1 h1 hq
    rw [eb, tn_nI (by omega)] at hj
    subst hj; subst hz
    refine ⟨?_, hb2, hg⟩
    rw [wbt_bt hg]
    refine gb (Or.inr eb) hb2 ?_
    unfold gbl
    rw [if_neg hne, if_neg (by omega), if_neg (by omega)]
    exact hb
theorem NW.chl {ne n : Nat} {qk : Nat → Nat} {nv : Nat → Nat → Int32} (h : ∀ k, k < n → NW ne k (qk k) (nv k)) : Chl nv n := fun i hi => by
  have hw := h i hi
  by_cases h0 : qk i = 0
  · exact ⟨Or.inl (hw.2.1 h0).1, Or.inl (hw.2.1 h0).2.1⟩
  · refine ⟨Or.inr (hw.2.2.1 (by omega)), ?_⟩
    by_cases h5 : 5 ≤ qk i
    · exact Or.inl (hw.2.2.2.2.1 h5)
    · exact Or.inr (hw.2.2.2.1 (by omega) (by omega))
theorem wnt_root {qk : Nat → Nat} {nv : Nat → Nat → Int32} {r : Nat} {wf : Nat → Int32} (hr : r < 30) (hc : Chl nv (r + 1)) : wbt (wnt qk nv r wf) r 0 = true := by
  unfold wbt wnt
  rw [wdn_hi (n := r + 1) (by omega) hc (Nat.le_refl _) (Nat.le_refl _)]
  simp only [upd, if_pos]
  decide
/-- how many of the first P places are wanted and have no table yet -/
def cw (w : Nat → Int32) (pT : Nat → Option Nat) (P : Nat) : Nat := cnt (fun p => wbt w (p / 4) (p % 4) && (pT p).isNone) P
theorem cnt_mono {Q : Nat → Bool} {a b : Nat} (h : a ≤ b) : cnt Q a ≤ cnt Q b := by
  induction b with
  | zero => rw [Nat.le_zero.mp h]; exact Nat.le_refl _
  | succ b ih =>
    by_cases hab : a = b + 1
    · rw [hab]; exact Nat.le_refl _
    · refine Nat.le_trans (ih (by omega)) ?_
      simp only [cnt]
      omega
theorem cnt_c {Q Q' : Nat → Bool} {n : Nat} (h : ∀ p, p < n → Q p = Q' p) : cnt Q n = cnt Q' n := by
  induction n with
  | zero => rfl
  | succ n ih => simp only [cnt]; rw [ih (fun p hp => h p (by omega)), h n (by omega)]
theorem cnt_one {Q Q' : Nat → Bool} {n P : Nat} (hP : P < n) (h : ∀ p, p < n → ¬ p = P → Q' p = Q p) (h1 : Q P = false) (h2 : Q' P = true) : cnt Q' n = cnt Q n + 1 := by
  induction n with
  | zero => omega
  | succ n ih =>
    simp only [cnt]
    by_cases hn : P = n
    · subst hn
      rw [h1, h2, cnt_c (Q := Q') (Q' := Q) (fun p hp => h p (by omega) (by omega))]
      simp
    · rw [ih (by omega) (fun p hp hne => h p (by omega) hne), h n (by omega) (fun e => hn e.symm)]
      omega
theorem cw_s {w : Nat → Int32} {pT : Nat → Option Nat} {i g : Nat} (hg : g < 4) : cw w pT (i * 4 + g + 1) = cw w pT (i * 4 + g) + if (wbt w i g && (pT (i * 4 + g)).isNone) = true then 1 else 0 := by
  unfold cw
  simp only [cnt, show (i * 4 + g) / 4 = i by omega, show (i * 4 + g) % 4 = g by omega]
set_option maxHeartbeats 4000000 in
theorem cs_wg {cI cN cR : ClassId} {O : Nat → Prop} {V : gv_V} {mo tr xe nd tb wg ky pl td : Nat} {wf : Nat → Int32} {T : List Tr} {E : Nat → Ex} {ne : Nat} {qk : Nat → Nat} {nv : Nat → Nat → Int32} {nn : Nat} {pT : Nat → Option Nat} {pC pN : Nat → Nat} {pL pM : Nat → Int32} {pF : Nat → Nat → Int32} {w : Nat → Int32} (hCS : CS cI cN cR O V mo tr xe nd tb wg ky pl td wf T E ne qk nv nn pT pC pN pL pM pF) : CS cI cN cR O (gv_up V wg (.inl (cI, 30, .inl w))) mo tr xe nd tb wg ky pl td w T E ne qk nv nn pT pC pN pL pM pF ∧ ∀ q, ¬ O q → (gv_up V wg (.inl (cI, 30, .inl w))) q = V q := by
  obtain ⟨tga, tsa, tpa, tqa, tg, ts, tp, tq, ak, af, as, ap, av, kd, fs, sc, pt, vl, nl, nf, tf, na, kf, pf, fmo, ftr, ftg, fts, ftp, ftq, fxe, fak, faf, fas, fap, fav, fnd, fnl, fwg, fky, fpl, ftb, hT, hdt, hX, hd6, hnn, hnd, hnw, hky, htf, hpo, htd, hnu, hfr, hmd, hO0, hOf, hOn, hOp⟩ := hCS
  have hOl := hOf
  simp only [List.mem_cons, List.not_mem_nil, or_false, forall_eq_or_imp, forall_eq] at hOl
  have hout : ∀ q, ¬ O q → (gv_up V wg (.inl (cI, 30, .inl w))) q = V q := fun q hq0 => gv_up_n (fun e => hq0 (e ▸ hOl.2.2.2.2.2.2.2.2.2.2.2.2.2.2.1))
  refine ⟨⟨tga, tsa, tpa, tqa, tg, ts, tp, tq, ak, af, as, ap, av, kd, fs, sc, pt, vl, nl, nf, tf, na, kf, pf, ((gv_up_n (gv_ne fwg fmo (by simp))).trans fmo), ((gv_up_n (gv_ne fwg ftr (by simp))).trans ftr), ((gv_up_n (gv_ne fwg ftg (by simp))).trans ftg), ((gv_up_n (gv_ne fwg fts (by simp))).trans fts), ((gv_up_n (gv_ne fwg ftp (by simp))).trans ftp), ((gv_up_n (gv_ne fwg ftq (by simp))).trans ftq), ((gv_up_n (gv_ne fwg fxe (by simp))).trans fxe), ((gv_up_n (ndp hd6 0 5 rfl rfl (by decide))).trans fak), ((gv_up_n (ndp hd6 1 5 rfl rfl (by decide))).trans faf), ((gv_up_n (ndp hd6 2 5 rfl rfl (by decide))).trans fas), ((gv_up_n (ndp hd6 3 5 rfl rfl (by decide))).trans fap), ((gv_up_n (ndp hd6 4 5 rfl rfl (by decide))).trans fav), ((gv_up_n (gv_ne fwg fnd (by simp))).trans fnd), ((gv_up_n (gv_ne fwg fnl (by simp))).trans fnl), gv_up_s, ((gv_up_n (gv_ne fwg fky (by simp))).trans fky), ((gv_up_n (gv_ne fwg fpl (by simp))).trans fpl), ((gv_up_n (gv_ne fwg ftb (by simp))).trans ftb), hT, hdt, hX, hd6, hnn, fun k hk => ⟨(hnd k hk).1, (gv_up_n (gv_ne fwg (hnd k hk).2 (by simp))).trans (hnd k hk).2⟩, hnw, hky, htf, fun p t hp hpt => ?_, htd, hnu, hfr, hmd, fun q hq1 => ?_, hOf, hOn, hOp⟩, hout⟩
  · obtain ⟨g1, g2, g3⟩ := hpo p t hp hpt
    exact ⟨(gv_up_n (gv_ne fwg g1 (by simp))).trans g1, (gv_up_n (gv_ne fwg g2 (by simp))).trans g2, g3⟩
  · by_cases h : O q
    · exact h
    · exact hO0 q ((hout q h).symm.trans hq1)
theorem CS.mo {cI cN cR : ClassId} {O : Nat → Prop} {V : gv_V} {mo tr xe nd tb wg ky pl td : Nat} {wf : Nat → Int32} {T : List Tr} {E : Nat → Ex} {ne : Nat} {qk : Nat → Nat} {nv : Nat → Nat → Int32} {nn : Nat} {pT : Nat → Option Nat} {pC pN : Nat → Nat} {pL pM : Nat → Int32} {pF : Nat → Nat → Int32} (h : CS cI cN cR O V mo tr xe nd tb wg ky pl td wf T E ne qk nv nn pT pC pN pL pM pF) : V mo = some (.inr (1, [.ref tr, .ref xe, .ref nd, .ref tb, .ref wg, .ref ky, .ref pl])) := by
  obtain ⟨tga, tsa, tpa, tqa, tg, ts, tp, tq, ak, af, as, ap, av, kd, fs, sc, pt, vl, nl, nf, tf, na, kf, pf, fmo, ftr, ftg, fts, ftp, ftq, fxe, fak, faf, fas, fap, fav, fnd, fnl, fwg, fky, fpl, ftb, hT, hdt, hX, hd6, hnn, hnd, hnw, hky, htf, hpo, htd, hnu, hfr, hmd, hO0, hOf, hOn, hOp⟩ := h
  exact fmo
theorem CS.wg {cI cN cR : ClassId} {O : Nat → Prop} {V : gv_V} {mo tr xe nd tb wg ky pl td : Nat} {wf : Nat → Int32} {T : List Tr} {E : Nat → Ex} {ne : Nat} {qk : Nat → Nat} {nv : Nat → Nat → Int32} {nn : Nat} {pT : Nat → Option Nat} {pC pN : Nat → Nat} {pL pM : Nat → Int32} {pF : Nat → Nat → Int32} (h : CS cI cN cR O V mo tr xe nd tb wg ky pl td wf T E ne qk nv nn pT pC pN pL pM pF) : V wg = some (.inl (cI, 30, .inl wf)) := by
  obtain ⟨tga, tsa, tpa, tqa, tg, ts, tp, tq, ak, af, as, ap, av, kd, fs, sc, pt, vl, nl, nf, tf, na, kf, pf, fmo, ftr, ftg, fts, ftp, ftq, fxe, fak, faf, fas, fap, fav, fnd, fnl, fwg, fky, fpl, ftb, hT, hdt, hX, hd6, hnn, hnd, hnw, hky, htf, hpo, htd, hnu, hfr, hmd, hO0, hOf, hOn, hOp⟩ := h
  exact fwg
theorem CS.tb {cI cN cR : ClassId} {O : Nat → Prop} {V : gv_V} {mo tr xe nd tb wg ky pl td : Nat} {wf : Nat → Int32} {T : List Tr} {E : Nat → Ex} {ne : Nat} {qk : Nat → Nat} {nv : Nat → Nat → Int32} {nn : Nat} {pT : Nat → Option Nat} {pC pN : Nat → Nat} {pL pM : Nat → Int32} {pF : Nat → Nat → Int32} (h : CS cI cN cR O V mo tr xe nd tb wg ky pl td wf T E ne qk nv nn pT pC pN pL pM pF) : ∃ tf, V tb = some (.inl (cR, 120, .inr (.inr (.inr (.inr tf))))) ∧ ∀ p, p < 120 → tf p = pT p := by
  obtain ⟨tga, tsa, tpa, tqa, tg, ts, tp, tq, ak, af, as, ap, av, kd, fs, sc, pt, vl, nl, nf, tf, na, kf, pf, fmo, ftr, ftg, fts, ftp, ftq, fxe, fak, faf, fas, fap, fav, fnd, fnl, fwg, fky, fpl, ftb, hT, hdt, hX, hd6, hnn, hnd, hnw, hky, htf, hpo, htd, hnu, hfr, hmd, hO0, hOf, hOn, hOp⟩ := h
  exact ⟨tf, ftb, htf⟩
theorem CS.nw {cI cN cR : ClassId} {O : Nat → Prop} {V : gv_V} {mo tr xe nd tb wg ky pl td : Nat} {wf : Nat → Int32} {T : List Tr} {E : Nat → Ex} {ne : Nat} {qk : Nat → Nat} {nv : Nat → Nat → Int32} {nn : Nat} {pT : Nat → Option Nat} {pC pN : Nat → Nat} {pL pM : Nat → Int32} {pF : Nat → Nat → Int32} (h : CS cI cN cR O V mo tr xe nd tb wg ky pl td wf T E ne qk nv nn pT pC pN pL pM pF) : nn ≤ 30 ∧ T.length ≤ 60 ∧ (∀ k, k < nn → NW ne k (qk k) (nv k)) := by
  obtain ⟨tga, tsa, tpa, tqa, tg, ts, tp, tq, ak, af, as, ap, av, kd, fs, sc, pt, vl, nl, nf, tf, na, kf, pf, fmo, ftr, ftg, fts, ftp, ftq, fxe, fak, faf, fas, fap, fav, fnd, fnl, fwg, fky, fpl, ftb, hT, hdt, hX, hd6, hnn, hnd, hnw, hky, htf, hpo, htd, hnu, hfr, hmd, hO0, hOf, hOn, hOp⟩ := h
  exact ⟨hnn, hT.2.1, hnw⟩
theorem CS.po {cI cN cR : ClassId} {O : Nat → Prop} {V : gv_V} {mo tr xe nd tb wg ky pl td : Nat} {wf : Nat → Int32} {T : List Tr} {E : Nat → Ex} {ne : Nat} {qk : Nat → Nat} {nv : Nat → Nat → Int32} {nn : Nat} {pT : Nat → Option Nat} {pC pN : Nat → Nat} {pL pM : Nat → Int32} {pF : Nat → Nat → Int32} (h : CS cI cN cR O V mo tr xe nd tb wg ky pl td wf T E ne qk nv nn pT pC pN pL pM pF) : Pool cI V pT pC pN pL pM pF ∧ pT 120 = some td := by
  obtain ⟨tga, tsa, tpa, tqa, tg, ts, tp, tq, ak, af, as, ap, av, kd, fs, sc, pt, vl, nl, nf, tf, na, kf, pf, fmo, ftr, ftg, fts, ftp, ftq, fxe, fak, faf, fas, fap, fav, fnd, fnl, fwg, fky, fpl, ftb, hT, hdt, hX, hd6, hnn, hnd, hnw, hky, htf, hpo, htd, hnu, hfr, hmd, hO0, hOf, hOn, hOp⟩ := h
  exact ⟨hpo, htd⟩
theorem CS.fr {cI cN cR : ClassId} {O : Nat → Prop} {V : gv_V} {mo tr xe nd tb wg ky pl td : Nat} {wf : Nat → Int32} {T : List Tr} {E : Nat → Ex} {ne : Nat} {qk : Nat → Nat} {nv : Nat → Nat → Int32} {nn : Nat} {pT : Nat → Option Nat} {pC pN : Nat → Nat} {pL pM : Nat → Int32} {pF : Nat → Nat → Int32} (h : CS cI cN cR O V mo tr xe nd tb wg ky pl td wf T E ne qk nv nn pT pC pN pL pM pF) {i g t : Nat} (h1 : i < nn) (h2 : g < 4) (h3 : pT (i * 4 + g) = some t) (h4 : pM (i * 4 + g) = nI T.length) : TRep (sem T E qk nv i g) (pN (i * 4 + g)) (pL (i * 4 + g)) (pF (i * 4 + g)) := by
  obtain ⟨tga, tsa, tpa, tqa, tg, ts, tp, tq, ak, af, as, ap, av, kd, fs, sc, pt, vl, nl, nf, tf, na, kf, pf, fmo, ftr, ftg, fts, ftp, ftq, fxe, fak, faf, fas, fap, fav, fnd, fnl, fwg, fky, fpl, ftb, hT, hdt, hX, hd6, hnn, hnd, hnw, hky, htf, hpo, htd, hnu, hfr, hmd, hO0, hOf, hOn, hOp⟩ := h
  exact hfr i g t h1 h2 h3 h4
theorem c_markW {zl : Launch} {D : va_G} {cI cN cR : ClassId} {base : Nat} {O : Nat → Prop} {V : gv_V} {mo tr xe nd tb wg ky pl td : Nat} {wf : Nat → Int32} {T : List Tr} {E : Nat → Ex} {ne : Nat} {qk : Nat → Nat} {nv : Nat → Nat → Int32} {nn : Nat} {pT : Nat → Option Nat} {pC pN : Nat → Nat} {pL pM : Nat → Int32} {pF : Nat → Nat → Int32} {r : Nat} (hCS : CS cI cN cR O V mo tr xe nd tb wg ky pl td wf T E ne qk nv nn pT pC pN pL pM pF) (hr : r < nn) : ct zl D [(cI, .int), (cN, .object "AlgebraTree$Node"), (cR, .object "AlgebraTree$Rows")] base yX1_markWanted cX1_markWanted 5 none 1 0 0 [.ref mo, .int (nI r)] V (fun zv zV => zv = none ∧ CS cI cN cR O zV mo tr xe nd tb wg ky pl td (wnt qk nv r wf) T E ne qk nv nn pT pC pN pL pM pF ∧ ∀ q, ¬ O q → zV q = V q) := by
  have hCS0 := hCS
  obtain ⟨tga, tsa, tpa, tqa, tg, ts, tp, tq, ak, af, as, ap, av, kd, fs, sc, pt, vl, nl, nf, tf, na, kf, pf, fmo, ftr, ftg, fts, ftp, ftq, fxe, fak, faf, fas, fap, fav, fnd, fnl, fwg, fky, fpl, ftb, hT, hdt, hX, hd6, hnn, hnd, hnw, hky, htf, hpo, htd, hnu, hfr, hmd, hO0, hOf, hOn, hOp⟩ := hCS
  refine ct_mono (c_X1_markWanted fmo fnd fnl fwg hr hnn hnd (fun k hk => ⟨(hnw k hk).1, NW.chl hnw k hk⟩)) (fun zv zV zh => ?_)
  obtain ⟨rfl, rfl⟩ := zh
  exact ⟨rfl, cs_wg hCS0⟩
