/-! how a node lies in the reference -/
def MK (fm : Nat → Int32) (k q : Nat) (u : Nat → Int32) : Prop := fm (6 * k) = nI q ∧ (q = 0 → fm (6 * k + 1) = u 3 ∧ fm (6 * k + 2) = u 4 ∧ fm (6 * k + 3) = u 5) ∧ (1 ≤ q → fm (6 * k + 1) = u 1) ∧ (1 ≤ q → q ≤ 4 → fm (6 * k + 2) = u 2) ∧
  (q = 5 ∨ q = 10 → fm (6 * k + 2) = u 6) ∧ (q = 6 ∨ q = 13 → fm (6 * k + 2) = u 7) ∧ (q = 7 ∨ q = 11 → fm (6 * k + 2) = u 8) ∧ (q = 9 → fm (6 * k + 2) = u 9 ∧ fm (6 * k + 3) = u 10) ∧ (q = 12 → fm (6 * k + 2) = u 13) ∧
  (q = 4 ∨ q = 6 → fm (6 * k + 3) = u 6) ∧ (q = 10 → fm (6 * k + 3) = u 11 ∧ (u 11 = nI 0 ∨ u 11 = nI 1)) ∧ (q = 11 → fm (6 * k + 3) = u 12 ∧ fm (6 * k + 4) = u 6 ∧ fm (6 * k + 5) = u 7 ∧ ∃ w, w < 4 ∧ u 12 = nI w)
theorem lrn {X : Nat → Nat → Option (List Row)} {fc fr fc1 fr1 : Nat → Int32} {i g : Nat} (h : ∀ j z, (j < i ∧ z < 4) ∨ (j = i ∧ z < g) → MTb (X j z) (fc (4 * j + z)) (tbl fr (4 * j + z))) (hg : g < 4) (h1 : MTb (X i g) (fc1 (4 * i + g)) (tbl fr1 (4 * i + g))) (hk : Kp (4 * i + g) fc fr fc1 fr1) : ∀ j z, (j < i ∧ z < 4) ∨ (j = i ∧ z < g + 1) → MTb (X j z) (fc1 (4 * j + z)) (tbl fr1 (4 * j + z)) := by
  intro j z hz
  by_cases e : j = i ∧ z = g
  · obtain ⟨rfl, rfl⟩ := e; exact h1
  · exact (h j z (by omega)).kp hk (by omega)
set_option maxHeartbeats 4000000 in
theorem c_rk {zl : Launch} {D : va_G} {cI cN cR : ClassId} {base : Nat} {V : gv_V} {m wt wa wv wm wr wc wn ws wk wp nt ne nn sh : Nat} {kn : Int32} {ft fa fv fm fr fc fw fk fp : Nat → Int32} {i g q : Nat} {u : Nat → Int32} {S : Nat → Nat → Option (List Row)} {E : Nat → Ex} {T : List Tr}  (h_m : V m = some (.inr (7, [.int (nI nt), .ref wt, .int (nI ne), .ref wa, .ref wv, .int (nI nn), .ref wm, .int kn, .ref wr, .ref wc, .ref wn, .int (nI sh), .ref ws, .ref wk, .ref wp]))) (h_wr : V wr = some (.inl (cI, 57600, .inl fr))) (h_wc : V wc = some (.inl (cI, 120, .inl fc))) (h_wn : V wn = some (.inl (cI, 6, .inl fw))) (h_wv : V wv = some (.inl (cI, 30, .inl fv))) (h_wk : V wk = some (.inl (cI, 80, .inl fk))) (h_wp : V wp = some (.inl (cI, 80, .inl fp))) (h_wa : V wa = some (.inl (cI, 90, .inl fa))) (h_wm : V wm = some (.inl (cI, 180, .inl fm))) (h_wt : V wt = some (.inl (cI, 240, .inl ft))) (hi : i < 30) (hg : g < 4) (hwkp : nq wk wp) (hS : ∀ j z1, j < i → z1 < 4 → MTb (S j z1) (fc (4 * j + z1)) (tbl fr (4 * j + z1))) (hM : MA E ne fa) (hT : MT T nt ft) (hw : NW ne i q u) (hk : MK fm i q u) : ct zl D [(cI, .int), (cN, .object "AlgebraTree$Node"), (cR, .object "AlgebraTree$Rows")] base yX7_reckon cX7_reckon 11 none 5 0 0 [.ref m, .int (nI i), .int (nI g)] V (fun zv zV => ∃ fr1 : Nat → Int32, ∃ fc1 : Nat → Int32, ∃ fw1 : Nat → Int32, ∃ fv1 : Nat → Int32, ∃ fk1 : Nat → Int32, ∃ fp1 : Nat → Int32, zv = none ∧ zV = gv_up (gv_up (gv_up (gv_up (gv_up (gv_up V wr (.inl (cI, 57600, .inl fr1))) wc (.inl (cI, 120, .inl fc1))) wn (.inl (cI, 6, .inl fw1))) wv (.inl (cI, 30, .inl fv1))) wk (.inl (cI, 80, .inl fk1))) wp (.inl (cI, 80, .inl fp1)) ∧ (MTb (nsem T E q u S g) (fc1 (4 * i + g)) (tbl fr1 (4 * i + g))) ∧ (Kp (4 * i + g) fc fr fc1 fr1)) := by
  obtain ⟨hq, h0, h1, h2, -, h4, h5, h7, h9, h12⟩ := hw
  obtain ⟨k0, kp, k1, k2, k6, k7, k8, k9, k13, k3, k10, k11⟩ := hk
  have hne30 := hM.1
  rcases (show q = 0 ∨ q = 1 ∨ q = 2 ∨ q = 3 ∨ q = 4 ∨ q = 5 ∨ q = 6 ∨ q = 7 ∨ q = 8 ∨ q = 9 ∨ q = 10 ∨ q = 11 ∨ q = 12 ∨ q = 13 by omega) with rfl | rfl | rfl | rfl | rfl | rfl | rfl | rfl | rfl | rfl | rfl | rfl | rfl | rfl
  · obtain ⟨e1, e2, e3⟩ := kp rfl
    obtain ⟨-, -, p1, p2, p3⟩ := h0 rfl
    have e9 : nsem T E 0 u S g = cap (patL T (nI g) (u 3) (u 4) (u 5)) := by
      simp [nsem, one1, two1, lcnd, ]
    rw [e9]
    exact c_reckon0 h_m h_wr h_wc h_wn h_wv h_wk h_wp h_wa h_wm h_wt hi hg k0 hwkp hT e1 e2 e3 p1 p2 p3
  · obtain ⟨a, ha, ea⟩ := h1 (by omega)
    obtain ⟨b, hb, eb⟩ := h2 (by omega) (by omega)
    have e9 : nsem T E 1 u S g = (S a g).bind (fun A => (S b g).bind (fun B => cap (joinL A B))) := by
      simp [nsem, one1, two1, lcnd, ea, eb, tn_nI (show b < 2 ^ 31 by omega), tn_nI (show a < 2 ^ 31 by omega)]
    rw [e9]
    exact c_reckon1 h_m h_wr h_wc h_wn h_wv h_wk h_wp h_wa h_wm h_wt hi hg k0 hwkp ((k1 (by omega)).trans ea) ha ((k2 (by omega) (by omega)).trans eb) hb hS
  · obtain ⟨a, ha, ea⟩ := h1 (by omega)
    obtain ⟨b, hb, eb⟩ := h2 (by omega) (by omega)
    have e9 : nsem T E 2 u S g = (S a g).bind (fun A => (S b g).bind (fun B => cap (A ++ B))) := by
      simp [nsem, one1, two1, lcnd, ea, eb, tn_nI (show b < 2 ^ 31 by omega), tn_nI (show a < 2 ^ 31 by omega)]
    rw [e9]
    exact c_reckon2 h_m h_wr h_wc h_wn h_wv h_wk h_wp h_wa h_wm h_wt hi hg k0 hwkp ((k1 (by omega)).trans ea) ha ((k2 (by omega) (by omega)).trans eb) hb hS
  · obtain ⟨a, ha, ea⟩ := h1 (by omega)
    obtain ⟨b, hb, eb⟩ := h2 (by omega) (by omega)
    have e9 : nsem T E 3 u S g = (S a g).bind (fun A => (S b g).bind (fun B => cap (minusL A B))) := by
      simp [nsem, one1, two1, lcnd, ea, eb, tn_nI (show b < 2 ^ 31 by omega), tn_nI (show a < 2 ^ 31 by omega)]
    rw [e9]
    exact c_reckon3 h_m h_wr h_wc h_wn h_wv h_wk h_wp h_wa h_wm h_wt hi hg k0 hwkp ((k1 (by omega)).trans ea) ha ((k2 (by omega) (by omega)).trans eb) hb hS
  · rcases h4 rfl with e4 | ⟨e, he, e4⟩
    · obtain ⟨a, ha, ea⟩ := h1 (by omega)
      obtain ⟨b, hb, eb⟩ := h2 (by omega) (by omega)
      have e9 : nsem T E 4 u S g = (S a g).bind (fun A => (S b g).bind (fun B => cap (leftL (lcnd E (-1)) A B))) := by
        simp [nsem, one1, two1, lcnd, ea, eb, tn_nI (show b < 2 ^ 31 by omega), e4, tn_nI (show a < 2 ^ 31 by omega)]
      rw [e9]
      exact c_reckon4n h_m h_wr h_wc h_wn h_wv h_wk h_wp h_wa h_wm h_wt hi hg k0 hwkp ((k1 (by omega)).trans ea) ha ((k2 (by omega) (by omega)).trans eb) hb ((k3 (by omega)).trans e4) hS
    · obtain ⟨a, ha, ea⟩ := h1 (by omega)
      obtain ⟨b, hb, eb⟩ := h2 (by omega) (by omega)
      have e9 : nsem T E 4 u S g = (S a g).bind (fun A => (S b g).bind (fun B => cap (leftL (lcnd E (nI e)) A B))) := by
        simp [nsem, one1, two1, lcnd, ea, eb, tn_nI (show b < 2 ^ 31 by omega), e4, tn_nI (show a < 2 ^ 31 by omega)]
      rw [e9]
      exact c_reckon4e h_m h_wr h_wc h_wn h_wv h_wk h_wp h_wa h_wm h_wt hi hg k0 hwkp ((k1 (by omega)).trans ea) ha ((k2 (by omega) (by omega)).trans eb) hb ((k3 (by omega)).trans e4) hM he hS
  · obtain ⟨a, ha, ea⟩ := h1 (by omega)
    obtain ⟨e, he, ee⟩ := h5 (by omega)
    have e9 : nsem T E 5 u S g = (S a g).bind (fun A => cap (A.filter (fun x => isT (ev E x e)))) := by
      simp [nsem, one1, two1, lcnd, ea, ee, tn_nI (show e < 2 ^ 31 by omega), tn_nI (show a < 2 ^ 31 by omega)]
    rw [e9]
    exact c_reckon5 h_m h_wr h_wc h_wn h_wv h_wk h_wp h_wa h_wm h_wt hi hg k0 hwkp ((k1 (by omega)).trans ea) ha ((k6 (by omega)).trans ee) hM he hS
  · obtain ⟨a, ha, ea⟩ := h1 (by omega)
    obtain ⟨e, he, ee⟩ := h5 (by omega)
    obtain ⟨vv, hvv, ev1⟩ := h7 (by omega)
    have e9 : nsem T E 6 u S g = (S a g).bind (fun A => cap (A.map (fun x => extR vv (ev E x e) x))) := by
      simp [nsem, one1, two1, lcnd, ea, ee, tn_nI (show e < 2 ^ 31 by omega), ev1, tn_nI (show vv < 2 ^ 31 by omega), tn_nI (show a < 2 ^ 31 by omega)]
    rw [e9]
    exact c_reckon6 h_m h_wr h_wc h_wn h_wv h_wk h_wp h_wa h_wm h_wt hi hg k0 hwkp ((k1 (by omega)).trans ea) ha ((k7 (by omega)).trans ev1) hvv ((k3 (by omega)).trans ee) hM he hS
  · obtain ⟨a, ha, ea⟩ := h1 (by omega)
    have e9 : nsem T E 7 u S g = (S a g).bind (fun A => cap (A.map (prj (u 8)))) := by
      simp [nsem, one1, two1, lcnd, ea, tn_nI (show a < 2 ^ 31 by omega)]
    rw [e9]
    exact c_reckon7 h_m h_wr h_wc h_wn h_wv h_wk h_wp h_wa h_wm h_wt hi hg k0 hwkp ((k1 (by omega)).trans ea) ha (k8 (by omega)) hS
  · obtain ⟨a, ha, ea⟩ := h1 (by omega)
    have e9 : nsem T E 8 u S g = (S a g).bind (fun A => cap (distL (nI 63) A)) := by
      simp [nsem, one1, two1, lcnd, ea, tn_nI (show a < 2 ^ 31 by omega)]
    rw [e9]
    exact c_reckon8 h_m h_wr h_wc h_wn h_wv h_wk h_wp h_wa h_wm h_wt hi hg k0 hwkp ((k1 (by omega)).trans ea) ha hS
  · obtain ⟨a, ha, ea⟩ := h1 (by omega)
    obtain ⟨u0, u1, hu0, hu1, eu0, eu1⟩ := h9 rfl
    have e9 : nsem T E 9 u S g = (S a g).bind (fun A => cap ((A.drop u0).take u1)) := by
      simp [nsem, one1, two1, lcnd, ea, eu0, eu1, tn_nI (show u0 < 2 ^ 31 by omega), tn_nI (show u1 < 2 ^ 31 by omega), tn_nI (show a < 2 ^ 31 by omega)]
    rw [e9]
    exact c_reckon9 h_m h_wr h_wc h_wn h_wv h_wk h_wp h_wa h_wm h_wt hi hg k0 hwkp ((k1 (by omega)).trans ea) ha ((k9 rfl).1.trans eu0) ((k9 rfl).2.trans eu1) hu0 hu1 hS
  · rcases (k10 rfl).2 with ed | ed
    · obtain ⟨a, ha, ea⟩ := h1 (by omega)
      obtain ⟨e, he, ee⟩ := h5 (by omega)
      have e9 : nsem T E 10 u S g = (S a g).bind (fun A => cap (orderL (nI 0) (fun x => ev E x e) A)) := by
        simp [nsem, one1, two1, lcnd, ea, ee, tn_nI (show e < 2 ^ 31 by omega), ed, tn_nI (show a < 2 ^ 31 by omega)]
      rw [e9]
      exact c_reckon10n h_m h_wr h_wc h_wn h_wv h_wk h_wp h_wa h_wm h_wt hi hg k0 hwkp ((k1 (by omega)).trans ea) ha ((k6 (by omega)).trans ee) ((k10 rfl).1.trans ed) hM he hS
    · obtain ⟨a, ha, ea⟩ := h1 (by omega)
      obtain ⟨e, he, ee⟩ := h5 (by omega)
      have e9 : nsem T E 10 u S g = (S a g).bind (fun A => cap (orderL (nI 1) (fun x => ev E x e) A)) := by
        simp [nsem, one1, two1, lcnd, ea, ee, tn_nI (show e < 2 ^ 31 by omega), ed, tn_nI (show a < 2 ^ 31 by omega)]
      rw [e9]
      exact c_reckon10d h_m h_wr h_wc h_wn h_wv h_wk h_wp h_wa h_wm h_wt hi hg k0 hwkp ((k1 (by omega)).trans ea) ha ((k6 (by omega)).trans ee) ((k10 rfl).1.trans ed) hM he hS
  · obtain ⟨a, ha, ea⟩ := h1 (by omega)
    obtain ⟨e, he, ee⟩ := h5 (by omega)
    obtain ⟨vv, hvv, ev1⟩ := h7 (by omega)
    obtain ⟨f3, f4, f5, w, hw4, ew⟩ := k11 rfl
    have e9 : nsem T E 11 u S g = (S a g).bind (fun A => cap (groupL (u 8) (nI w) vv (fun x => ev E x e) A)) := by
      simp [nsem, one1, two1, lcnd, ea, ee, tn_nI (show e < 2 ^ 31 by omega), ev1, tn_nI (show vv < 2 ^ 31 by omega), ew, tn_nI (show a < 2 ^ 31 by omega)]
    rw [e9]
    exact c_reckon11 h_m h_wr h_wc h_wn h_wv h_wk h_wp h_wa h_wm h_wt hi hg k0 hwkp ((k1 (by omega)).trans ea) ha (k8 (by omega)) (f3.trans ew) (f4.trans ee) (f5.trans ev1) hw4 hvv hM he hS
  · obtain ⟨a, ha, ea⟩ := h1 (by omega)
    obtain ⟨z, hz, ez⟩ := h12 rfl
    have e9 : nsem T E 12 u S g = (S a z).bind (fun A => cap (A)) := by
      simp [nsem, one1, two1, lcnd, ea, ez, tn_nI (show z < 2 ^ 31 by omega), tn_nI (show a < 2 ^ 31 by omega)]
    rw [e9]
    exact c_reckon12 h_m h_wr h_wc h_wn h_wv h_wk h_wp h_wa h_wm h_wt hi hg k0 hwkp ((k1 (by omega)).trans ea) ha ((k13 rfl).trans ez) hz hS
  · obtain ⟨a, ha, ea⟩ := h1 (by omega)
    obtain ⟨vv, hvv, ev1⟩ := h7 (by omega)
    have e9 : nsem T E 13 u S g = eachS (S a) vv := by
      simp [nsem, one1, two1, lcnd, ea, ev1, tn_nI (show vv < 2 ^ 31 by omega), tn_nI (show a < 2 ^ 31 by omega)]
    rw [e9]
    exact c_reckon13 h_m h_wr h_wc h_wn h_wv h_wk h_wp h_wa h_wm h_wt hi hg k0 hwkp ((k1 (by omega)).trans ea) ha ((k7 (by omega)).trans ev1) hvv hS
set_option maxHeartbeats 4000000 in
set_option maxRecDepth 100000 in
theorem c_learn0 {zl : Launch} {D : va_G} {cI cN cR : ClassId} {base : Nat} {V : gv_V} {m wt wa wv wm wr wc wn ws wk wp nt ne nn sh : Nat} {ft fa fv fm fr fc fw fk fp : Nat → Int32} {E : Nat → Ex} {T : List Tr} {qk : Nat → Nat} {nv : Nat → Nat → Int32}  (h_m : V m = some (.inr (7, [.int (nI nt), .ref wt, .int (nI ne), .ref wa, .ref wv, .int (nI nn), .ref wm, .int (nI 0), .ref wr, .ref wc, .ref wn, .int (nI sh), .ref ws, .ref wk, .ref wp]))) (h_wr : V wr = some (.inl (cI, 57600, .inl fr))) (h_wc : V wc = some (.inl (cI, 120, .inl fc))) (h_wn : V wn = some (.inl (cI, 6, .inl fw))) (h_wv : V wv = some (.inl (cI, 30, .inl fv))) (h_wk : V wk = some (.inl (cI, 80, .inl fk))) (h_wp : V wp = some (.inl (cI, 80, .inl fp))) (h_wa : V wa = some (.inl (cI, 90, .inl fa))) (h_wm : V wm = some (.inl (cI, 180, .inl fm))) (h_wt : V wt = some (.inl (cI, 240, .inl ft))) (hwkp : nq wk wp) (hM : MA E ne fa) (hT : MT T nt ft) (hnn : nn ≤ 30) (hNW : ∀ k, k < nn → NW ne k (qk k) (nv k)) (hMK : ∀ k, k < nn → MK fm k (qk k) (nv k)) : ct zl D [(cI, .int), (cN, .object "AlgebraTree$Node"), (cR, .object "AlgebraTree$Rows")] base yX7_learn cX7_learn 3 none 6 0 0 [.ref m] V (fun zv zV => ∃ fr1 : Nat → Int32, ∃ fc1 : Nat → Int32, ∃ fw1 : Nat → Int32, ∃ fv1 : Nat → Int32, ∃ fk1 : Nat → Int32, ∃ fp1 : Nat → Int32, zv = none ∧ zV = gv_up (gv_up (gv_up (gv_up (gv_up (gv_up (gv_up V wr (.inl (cI, 57600, .inl fr1))) wc (.inl (cI, 120, .inl fc1))) wn (.inl (cI, 6, .inl fw1))) wv (.inl (cI, 30, .inl fv1))) wk (.inl (cI, 80, .inl fk1))) wp (.inl (cI, 80, .inl fp1))) m (.inr (7, [.int (nI nt), .ref wt, .int (nI ne), .ref wa, .ref wv, .int (nI nn), .ref wm, .int (nI 1), .ref wr, .ref wc, .ref wn, .int (nI sh), .ref ws, .ref wk, .ref wp])) ∧ (∀ j z, j < nn → z < 4 → MTb (sem T E qk nv j z) (fc1 (4 * j + z)) (tbl fr1 (4 * j + z)))) := by
  refine ct_of "AlgebraTreeModel" rfl (by decide) (Nat.le_of_ble_eq_true rfl) ?_
  intro zp ze zs zm zargs zbelow zmeth zc C zr zlk znm
  refine k_pc (pc' := 0) (st' := []) rfl rfl ?_
  show K zp zl ze (gv_rm 6 0 0) zs zm zargs zbelow zmeth zc D base 3 (gv_E D [(cI, .int), (cN, .object "AlgebraTree$Node"), (cR, .object "AlgebraTree$Rows")] base zbelow zargs zs 0 0 (fun zv zV => ∃ fr1 : Nat → Int32, ∃ fc1 : Nat → Int32, ∃ fw1 : Nat → Int32, ∃ fv1 : Nat → Int32, ∃ fk1 : Nat → Int32, ∃ fp1 : Nat → Int32, zv = none ∧ zV = gv_up (gv_up (gv_up (gv_up (gv_up (gv_up (gv_up V wr (.inl (cI, 57600, .inl fr1))) wc (.inl (cI, 120, .inl fc1))) wn (.inl (cI, 6, .inl fw1))) wv (.inl (cI, 30, .inl fv1))) wk (.inl (cI, 80, .inl fk1))) wp (.inl (cI, 80, .inl fp1))) m (.inr (7, [.int (nI nt), .ref wt, .int (nI ne), .ref wa, .ref wv, .int (nI nn), .ref wm, .int (nI 1), .ref wr, .ref wc, .ref wn, .int (nI sh), .ref ws, .ref wk, .ref wp])) ∧ (∀ j z, j < nn → z < 4 → MTb (sem T E qk nv j z) (fc1 (4 * j + z)) (tbl fr1 (4 * j + z))))) V 0 0 [(0, .ref m)] 0 []
  refine k_iconst (v := nI 0) C dX7_learn_0 rfl ?_
  refine k_istore_n (lv' := [(1, .int (nI 0)), (0, .ref m)]) C dX7_learn_1 rfl (by decide) rfl ?_
  have L2 : ∀ (zn1 : Nat) (i : Nat) (fr1 : Nat → Int32) (fc1 : Nat → Int32) (fw1 : Nat → Int32) (fv1 : Nat → Int32) (fk1 : Nat → Int32) (fp1 : Nat → Int32), nn - i < zn1 → (i ≤ nn) → (∀ j z, j < i → z < 4 → MTb (sem T E qk nv j z) (fc1 (4 * j + z)) (tbl fr1 (4 * j + z))) → K zp zl ze (gv_rm 6 0 0) zs zm zargs zbelow zmeth zc D base 3 (gv_E D [(cI, .int), (cN, .object "AlgebraTree$Node"), (cR, .object "AlgebraTree$Rows")] base zbelow zargs zs 0 0 (fun zv zV => ∃ fr1 : Nat → Int32, ∃ fc1 : Nat → Int32, ∃ fw1 : Nat → Int32, ∃ fv1 : Nat → Int32, ∃ fk1 : Nat → Int32, ∃ fp1 : Nat → Int32, zv = none ∧ zV = gv_up (gv_up (gv_up (gv_up (gv_up (gv_up (gv_up V wr (.inl (cI, 57600, .inl fr1))) wc (.inl (cI, 120, .inl fc1))) wn (.inl (cI, 6, .inl fw1))) wv (.inl (cI, 30, .inl fv1))) wk (.inl (cI, 80, .inl fk1))) wp (.inl (cI, 80, .inl fp1))) m (.inr (7, [.int (nI nt), .ref wt, .int (nI ne), .ref wa, .ref wv, .int (nI nn), .ref wm, .int (nI 1), .ref wr, .ref wc, .ref wn, .int (nI sh), .ref ws, .ref wk, .ref wp])) ∧ (∀ j z, j < nn → z < 4 → MTb (sem T E qk nv j z) (fc1 (4 * j + z)) (tbl fr1 (4 * j + z))))) (gv_up (gv_up (gv_up (gv_up (gv_up (gv_up V wr (.inl (cI, 57600, .inl fr1))) wc (.inl (cI, 120, .inl fc1))) wn (.inl (cI, 6, .inl fw1))) wv (.inl (cI, 30, .inl fv1))) wk (.inl (cI, 80, .inl fk1))) wp (.inl (cI, 80, .inl fp1))) 0 0 [(1, .int (nI i)), (0, .ref m)] 2 [] := by
    intro zn1
    induction zn1 with
    | zero => intro i fr1 fc1 fw1 fv1 fk1 fp1 hlt; exact absurd hlt (Nat.not_lt_zero _)
    | succ zn1 ih2 =>
      intro i fr1 fc1 fw1 fv1 fk1 fp1 hlt2  hi hL
      refine k_iload_n C dX7_learn_2 rfl 0 rfl ?_
      refine k_aload_n C dX7_learn_3 rfl 1 rfl ?_
      have ne2 : nq m wr := gv_ne h_wr h_m (by simp)
      have ne3 : nq m wc := gv_ne h_wc h_m (by simp)
      have ne4 : nq m wn := gv_ne h_wn h_m (by simp)
      have ne5 : nq m wv := gv_ne h_wv h_m (by simp)
      have ne6 : nq m wk := gv_ne h_wk h_m (by simp)
      have ne7 : nq m wp := gv_ne h_wp h_m (by simp)
      refine k_get (ci := 7) (k := 5) C fl_7_85 ((gv_up_n ne7).trans ((gv_up_n ne6).trans ((gv_up_n ne5).trans ((gv_up_n ne4).trans ((gv_up_n ne3).trans ((gv_up_n ne2).trans h_m)))))) rfl dX7_learn_4 ?_
      refine k_icmp_ge (tgt := 42) C dX7_learn_7 (by decide) (fun c7 => ?_) (fun c7 => ?_)
      · skip
        have b7 : nn ≤ i := (nI_leI (a := nn) (b := i) (by omega) (by omega)).mp c7
        refine k_aload_n C dX7_learn_42 rfl 1 rfl ?_
        refine k_iconst (v := nI 1) C dX7_learn_43 rfl ?_
        refine k_put (ci := 7) (k := 7) (fs' := [.int (nI nt), .ref wt, .int (nI ne), .ref wa, .ref wv, .int (nI nn), .ref wm, .int (nI 1), .ref wr, .ref wc, .ref wn, .int (nI sh), .ref ws, .ref wk, .ref wp]) C fl_7_41 pf_7_7 ((gv_up_n ne7).trans ((gv_up_n ne6).trans ((gv_up_n ne5).trans ((gv_up_n ne4).trans ((gv_up_n ne3).trans ((gv_up_n ne2).trans h_m)))))) rfl rfl (Nat.le_of_ble_eq_true rfl) rfl dX7_learn_44 ?_
        exact k_vret C zr zlk ⟨fr1, fc1, fw1, fv1, fk1, fp1, rfl, rfl, (fun j z hj hz => hL j z (by omega) hz)⟩ (Nat.le_refl _) (Nat.le_refl _) dX7_learn_47
      · skip
        have b7 : ¬ nn ≤ i := fun z => c7 ((nI_leI (a := nn) (b := i) (by omega) (by omega)).mpr z)
        refine k_aload_n C dX7_learn_10 rfl 1 rfl ?_
        refine k_get (ci := 7) (k := 7) C fl_7_41 ((gv_up_n ne7).trans ((gv_up_n ne6).trans ((gv_up_n ne5).trans ((gv_up_n ne4).trans ((gv_up_n ne3).trans ((gv_up_n ne2).trans h_m)))))) rfl dX7_learn_11 ?_
        refine k_if_ne (tgt := 42) C dX7_learn_14 (by decide) (fun c14 => ?_) (fun c14 => ?_)
        · exact absurd c14 (by decide)
        · skip
          have b14 : 0 = 0 := (nI_eq (a := 0) (b := 0) (by omega) (by omega)).mp c14
          refine k_iconst (v := nI 0) C dX7_learn_17 rfl ?_
          refine k_istore_n (lv' := [(2, .int (nI 0)), (1, .int (nI i)), (0, .ref m)]) C dX7_learn_18 rfl (by decide) rfl ?_
          have L19 : ∀ (zn8 : Nat) (g : Nat) (fr2 : Nat → Int32) (fc2 : Nat → Int32) (fw2 : Nat → Int32) (fv2 : Nat → Int32) (fk2 : Nat → Int32) (fp2 : Nat → Int32), 4 - g < zn8 → (g ≤ 4) → (∀ j z, (j < i ∧ z < 4) ∨ (j = i ∧ z < g) → MTb (sem T E qk nv j z) (fc2 (4 * j + z)) (tbl fr2 (4 * j + z))) → K zp zl ze (gv_rm 6 0 0) zs zm zargs zbelow zmeth zc D base 3 (gv_E D [(cI, .int), (cN, .object "AlgebraTree$Node"), (cR, .object "AlgebraTree$Rows")] base zbelow zargs zs 0 0 (fun zv zV => ∃ fr1 : Nat → Int32, ∃ fc1 : Nat → Int32, ∃ fw1 : Nat → Int32, ∃ fv1 : Nat → Int32, ∃ fk1 : Nat → Int32, ∃ fp1 : Nat → Int32, zv = none ∧ zV = gv_up (gv_up (gv_up (gv_up (gv_up (gv_up (gv_up V wr (.inl (cI, 57600, .inl fr1))) wc (.inl (cI, 120, .inl fc1))) wn (.inl (cI, 6, .inl fw1))) wv (.inl (cI, 30, .inl fv1))) wk (.inl (cI, 80, .inl fk1))) wp (.inl (cI, 80, .inl fp1))) m (.inr (7, [.int (nI nt), .ref wt, .int (nI ne), .ref wa, .ref wv, .int (nI nn), .ref wm, .int (nI 1), .ref wr, .ref wc, .ref wn, .int (nI sh), .ref ws, .ref wk, .ref wp])) ∧ (∀ j z, j < nn → z < 4 → MTb (sem T E qk nv j z) (fc1 (4 * j + z)) (tbl fr1 (4 * j + z))))) (gv_up (gv_up (gv_up (gv_up (gv_up (gv_up V wr (.inl (cI, 57600, .inl fr2))) wc (.inl (cI, 120, .inl fc2))) wn (.inl (cI, 6, .inl fw2))) wv (.inl (cI, 30, .inl fv2))) wk (.inl (cI, 80, .inl fk2))) wp (.inl (cI, 80, .inl fp2))) 0 0 [(2, .int (nI g)), (1, .int (nI i)), (0, .ref m)] 19 [] := by
            intro zn8
            induction zn8 with
            | zero => intro g fr2 fc2 fw2 fv2 fk2 fp2 hlt; exact absurd hlt (Nat.not_lt_zero _)
            | succ zn8 ih19 =>
              intro g fr2 fc2 fw2 fv2 fk2 fp2 hlt19  hg hL2
              refine k_iload_n C dX7_learn_19 rfl 0 rfl ?_
              refine k_iconst (v := nI 4) C dX7_learn_20 rfl ?_
              refine k_icmp_ge (tgt := 36) C dX7_learn_21 (by decide) (fun c21 => ?_) (fun c21 => ?_)
              · skip
                have b21 : 4 ≤ g := (nI_leI (a := 4) (b := g) (by omega) (by omega)).mp c21
                refine k_iinc (v := nI (i + 1)) (lv' := [(1, .int (nI (i + 1))), (2, .int (nI g)), (0, .ref m)]) C dX7_learn_36 (k := 1) rfl (nI_add i 1) (by decide) rfl ?_
                refine k_goto (tgt := 2) C dX7_learn_39 (by decide) ?_
                refine k_sub [0, 2] (lv' := [(1, .int (nI (i + 1))), (0, .ref m)]) rfl ?_
                exact ih2 (i + 1) fr2 fc2 fw2 fv2 fk2 fp2 (by omega)  (by omega) (fun j z hj hz => hL2 j z (by omega))
              · skip
                have b21 : ¬ 4 ≤ g := fun z => c21 ((nI_leI (a := 4) (b := g) (by omega) (by omega)).mpr z)
                refine k_aload_n C dX7_learn_24 rfl 2 rfl ?_
                refine k_iload_n C dX7_learn_25 rfl 1 rfl ?_
                refine k_iload_n C dX7_learn_26 rfl 0 rfl ?_
                have ne9 : nq wr wc := gv_ne h_wc h_wr (by simp)
                have ne10 : nq wr wn := gv_ne h_wn h_wr (by simp)
                have ne11 : nq wr wv := gv_ne h_wv h_wr (by simp)
                have ne12 : nq wr wk := gv_ne h_wk h_wr (by simp)
                have ne13 : nq wr wp := gv_ne h_wp h_wr (by simp)
                have ne14 : nq wc wn := gv_ne h_wn h_wc (by simp)
                have ne15 : nq wc wv := gv_ne h_wv h_wc (by simp)
                have ne16 : nq wc wk := gv_ne h_wk h_wc (by simp)
                have ne17 : nq wc wp := gv_ne h_wp h_wc (by simp)
                have ne18 : nq wn wv := gv_ne h_wv h_wn (by simp)
                have ne19 : nq wn wk := gv_ne h_wk h_wn (by simp)
                have ne20 : nq wn wp := gv_ne h_wp h_wn (by simp)
                have ne21 : nq wv wk := gv_ne h_wk h_wv (by simp)
                have ne22 : nq wv wp := gv_ne h_wp h_wv (by simp)
                have ne23 : nq wa wr := gv_ne h_wr h_wa (by simp)
                have ne24 : nq wa wc := gv_ne h_wc h_wa (by simp)
                have ne25 : nq wa wn := gv_ne h_wn h_wa (by simp)
                have ne26 : nq wa wv := gv_ne h_wv h_wa (by simp)
                have ne27 : nq wa wk := gv_ne h_wk h_wa (by simp)
                have ne28 : nq wa wp := gv_ne h_wp h_wa (by simp)
                have ne29 : nq wm wr := gv_ne h_wr h_wm (by simp)
                have ne30 : nq wm wc := gv_ne h_wc h_wm (by simp)
                have ne31 : nq wm wn := gv_ne h_wn h_wm (by simp)
                have ne32 : nq wm wv := gv_ne h_wv h_wm (by simp)
                have ne33 : nq wm wk := gv_ne h_wk h_wm (by simp)
                have ne34 : nq wm wp := gv_ne h_wp h_wm (by simp)
                have ne35 : nq wt wr := gv_ne h_wr h_wt (by simp)
                have ne36 : nq wt wc := gv_ne h_wc h_wt (by simp)
                have ne37 : nq wt wn := gv_ne h_wn h_wt (by simp)
                have ne38 : nq wt wv := gv_ne h_wv h_wt (by simp)
                have ne39 : nq wt wk := gv_ne h_wk h_wt (by simp)
                have ne40 : nq wt wp := gv_ne h_wp h_wt (by simp)
                refine k_callV C mv_7_172 (c_rk  ((gv_up_n ne7).trans ((gv_up_n ne6).trans ((gv_up_n ne5).trans ((gv_up_n ne4).trans ((gv_up_n ne3).trans ((gv_up_n ne2).trans h_m)))))) ((gv_up_n ne13).trans ((gv_up_n ne12).trans ((gv_up_n ne11).trans ((gv_up_n ne10).trans ((gv_up_n ne9).trans gv_up_s))))) ((gv_up_n ne17).trans ((gv_up_n ne16).trans ((gv_up_n ne15).trans ((gv_up_n ne14).trans gv_up_s)))) ((gv_up_n ne20).trans ((gv_up_n ne19).trans ((gv_up_n ne18).trans gv_up_s))) ((gv_up_n ne22).trans ((gv_up_n ne21).trans gv_up_s)) ((gv_up_n hwkp).trans gv_up_s) gv_up_s ((gv_up_n ne28).trans ((gv_up_n ne27).trans ((gv_up_n ne26).trans ((gv_up_n ne25).trans ((gv_up_n ne24).trans ((gv_up_n ne23).trans h_wa)))))) ((gv_up_n ne34).trans ((gv_up_n ne33).trans ((gv_up_n ne32).trans ((gv_up_n ne31).trans ((gv_up_n ne30).trans ((gv_up_n ne29).trans h_wm)))))) ((gv_up_n ne40).trans ((gv_up_n ne39).trans ((gv_up_n ne38).trans ((gv_up_n ne37).trans ((gv_up_n ne36).trans ((gv_up_n ne35).trans h_wt)))))) (by omega) (by omega) hwkp (fun j z hj hz => hL2 j z (Or.inl ⟨hj, hz⟩)) hM hT (hNW i (by omega)) (hMK i (by omega))) ((gv_up_n ne7).trans ((gv_up_n ne6).trans ((gv_up_n ne5).trans ((gv_up_n ne4).trans ((gv_up_n ne3).trans ((gv_up_n ne2).trans h_m)))))) rfl rfl (by simp [Value.category]) ⟨Nat.le_of_ble_eq_true rfl, Nat.le_of_ble_eq_true rfl⟩ ⟨(by decide), (by decide)⟩ dX7_learn_27 (fun zv zV zh => ?_)
                obtain ⟨fr1_w41, fc1_w41, fw1_w41, fv1_w41, fk1_w41, fp1_w41, rfl, rfl, hM1_w41, hK1_w41⟩ := zh
                refine k_pc (pc' := 30) (st' := []) rfl rfl ?_
                refine k_view (V1 := gv_up (gv_up (gv_up (gv_up (gv_up (gv_up (gv_up (gv_up (gv_up (gv_up (gv_up V wr (.inl (cI, 57600, .inl fr1_w41))) wc (.inl (cI, 120, .inl fc2))) wn (.inl (cI, 6, .inl fw2))) wv (.inl (cI, 30, .inl fv2))) wk (.inl (cI, 80, .inl fk2))) wp (.inl (cI, 80, .inl fp2))) wc (.inl (cI, 120, .inl fc1_w41))) wn (.inl (cI, 6, .inl fw1_w41))) wv (.inl (cI, 30, .inl fv1_w41))) wk (.inl (cI, 80, .inl fk1_w41))) wp (.inl (cI, 80, .inl fp1_w41))) (congrArg (fun W => gv_up W wp (.inl (cI, 80, .inl fp1_w41))) (congrArg (fun W => gv_up W wk (.inl (cI, 80, .inl fk1_w41))) (congrArg (fun W => gv_up W wv (.inl (cI, 30, .inl fv1_w41))) (congrArg (fun W => gv_up W wn (.inl (cI, 6, .inl fw1_w41))) (congrArg (fun W => gv_up W wc (.inl (cI, 120, .inl fc1_w41))) ((gv_uc ne13).trans (congrArg (fun W => gv_up W wp (.inl (cI, 80, .inl fp2))) ((gv_uc ne12).trans (congrArg (fun W => gv_up W wk (.inl (cI, 80, .inl fk2))) ((gv_uc ne11).trans (congrArg (fun W => gv_up W wv (.inl (cI, 30, .inl fv2))) ((gv_uc ne10).trans (congrArg (fun W => gv_up W wn (.inl (cI, 6, .inl fw2))) ((gv_uc ne9).trans (congrArg (fun W => gv_up W wc (.inl (cI, 120, .inl fc2))) gv_uu))))))))))))))) ?_
                refine k_view (V1 := gv_up (gv_up (gv_up (gv_up (gv_up (gv_up (gv_up (gv_up (gv_up (gv_up V wr (.inl (cI, 57600, .inl fr1_w41))) wc (.inl (cI, 120, .inl fc1_w41))) wn (.inl (cI, 6, .inl fw2))) wv (.inl (cI, 30, .inl fv2))) wk (.inl (cI, 80, .inl fk2))) wp (.inl (cI, 80, .inl fp2))) wn (.inl (cI, 6, .inl fw1_w41))) wv (.inl (cI, 30, .inl fv1_w41))) wk (.inl (cI, 80, .inl fk1_w41))) wp (.inl (cI, 80, .inl fp1_w41))) (congrArg (fun W => gv_up W wp (.inl (cI, 80, .inl fp1_w41))) (congrArg (fun W => gv_up W wk (.inl (cI, 80, .inl fk1_w41))) (congrArg (fun W => gv_up W wv (.inl (cI, 30, .inl fv1_w41))) (congrArg (fun W => gv_up W wn (.inl (cI, 6, .inl fw1_w41))) ((gv_uc ne17).trans (congrArg (fun W => gv_up W wp (.inl (cI, 80, .inl fp2))) ((gv_uc ne16).trans (congrArg (fun W => gv_up W wk (.inl (cI, 80, .inl fk2))) ((gv_uc ne15).trans (congrArg (fun W => gv_up W wv (.inl (cI, 30, .inl fv2))) ((gv_uc ne14).trans (congrArg (fun W => gv_up W wn (.inl (cI, 6, .inl fw2))) gv_uu)))))))))))) ?_
                refine k_view (V1 := gv_up (gv_up (gv_up (gv_up (gv_up (gv_up (gv_up (gv_up (gv_up V wr (.inl (cI, 57600, .inl fr1_w41))) wc (.inl (cI, 120, .inl fc1_w41))) wn (.inl (cI, 6, .inl fw1_w41))) wv (.inl (cI, 30, .inl fv2))) wk (.inl (cI, 80, .inl fk2))) wp (.inl (cI, 80, .inl fp2))) wv (.inl (cI, 30, .inl fv1_w41))) wk (.inl (cI, 80, .inl fk1_w41))) wp (.inl (cI, 80, .inl fp1_w41))) (congrArg (fun W => gv_up W wp (.inl (cI, 80, .inl fp1_w41))) (congrArg (fun W => gv_up W wk (.inl (cI, 80, .inl fk1_w41))) (congrArg (fun W => gv_up W wv (.inl (cI, 30, .inl fv1_w41))) ((gv_uc ne20).trans (congrArg (fun W => gv_up W wp (.inl (cI, 80, .inl fp2))) ((gv_uc ne19).trans (congrArg (fun W => gv_up W wk (.inl (cI, 80, .inl fk2))) ((gv_uc ne18).trans (congrArg (fun W => gv_up W wv (.inl (cI, 30, .inl fv2))) gv_uu))))))))) ?_
                refine k_view (V1 := gv_up (gv_up (gv_up (gv_up (gv_up (gv_up (gv_up (gv_up V wr (.inl (cI, 57600, .inl fr1_w41))) wc (.inl (cI, 120, .inl fc1_w41))) wn (.inl (cI, 6, .inl fw1_w41))) wv (.inl (cI, 30, .inl fv1_w41))) wk (.inl (cI, 80, .inl fk2))) wp (.inl (cI, 80, .inl fp2))) wk (.inl (cI, 80, .inl fk1_w41))) wp (.inl (cI, 80, .inl fp1_w41))) (congrArg (fun W => gv_up W wp (.inl (cI, 80, .inl fp1_w41))) (congrArg (fun W => gv_up W wk (.inl (cI, 80, .inl fk1_w41))) ((gv_uc ne22).trans (congrArg (fun W => gv_up W wp (.inl (cI, 80, .inl fp2))) ((gv_uc ne21).trans (congrArg (fun W => gv_up W wk (.inl (cI, 80, .inl fk2))) gv_uu)))))) ?_
                refine k_view (V1 := gv_up (gv_up (gv_up (gv_up (gv_up (gv_up (gv_up V wr (.inl (cI, 57600, .inl fr1_w41))) wc (.inl (cI, 120, .inl fc1_w41))) wn (.inl (cI, 6, .inl fw1_w41))) wv (.inl (cI, 30, .inl fv1_w41))) wk (.inl (cI, 80, .inl fk1_w41))) wp (.inl (cI, 80, .inl fp2))) wp (.inl (cI, 80, .inl fp1_w41))) (congrArg (fun W => gv_up W wp (.inl (cI, 80, .inl fp1_w41))) ((gv_uc hwkp).trans (congrArg (fun W => gv_up W wp (.inl (cI, 80, .inl fp2))) gv_uu))) ?_
                refine k_view (V1 := gv_up (gv_up (gv_up (gv_up (gv_up (gv_up V wr (.inl (cI, 57600, .inl fr1_w41))) wc (.inl (cI, 120, .inl fc1_w41))) wn (.inl (cI, 6, .inl fw1_w41))) wv (.inl (cI, 30, .inl fv1_w41))) wk (.inl (cI, 80, .inl fk1_w41))) wp (.inl (cI, 80, .inl fp1_w41))) gv_uu ?_
                refine k_iinc (v := nI (g + 1)) (lv' := [(2, .int (nI (g + 1))), (1, .int (nI i)), (0, .ref m)]) C dX7_learn_30 (k := 0) rfl (nI_add g 1) (by decide) rfl ?_
                refine k_goto (tgt := 19) C dX7_learn_33 (by decide) ?_
                exact ih19 (g + 1) fr1_w41 fc1_w41 fw1_w41 fv1_w41 fk1_w41 fp1_w41 (by omega)  (by omega) (lrn hL2 (by omega) (by rw [sem_eq (hNW i (by omega)) (by omega)]; exact hM1_w41) hK1_w41)
          exact L19 _ 0 fr1 fc1 fw1 fv1 fk1 fp1 (Nat.lt_succ_self _)  (by omega) (fun j z hz => hL j z (by omega) (by omega))
  refine k_view (V1 := gv_up V wr (.inl (cI, 57600, .inl fr))) (gv_id h_wr).symm ?_
  have ne42 : nq wc wr := gv_ne h_wr h_wc (by simp)
  refine k_view (V1 := gv_up (gv_up V wr (.inl (cI, 57600, .inl fr))) wc (.inl (cI, 120, .inl fc))) (gv_id ((gv_up_n ne42).trans h_wc)).symm ?_
  have ne43 : nq wn wr := gv_ne h_wr h_wn (by simp)
  have ne44 : nq wn wc := gv_ne h_wc h_wn (by simp)
  refine k_view (V1 := gv_up (gv_up (gv_up V wr (.inl (cI, 57600, .inl fr))) wc (.inl (cI, 120, .inl fc))) wn (.inl (cI, 6, .inl fw))) (gv_id ((gv_up_n ne44).trans ((gv_up_n ne43).trans h_wn))).symm ?_
  have ne45 : nq wv wr := gv_ne h_wr h_wv (by simp)
  have ne46 : nq wv wc := gv_ne h_wc h_wv (by simp)
  have ne47 : nq wv wn := gv_ne h_wn h_wv (by simp)
  refine k_view (V1 := gv_up (gv_up (gv_up (gv_up V wr (.inl (cI, 57600, .inl fr))) wc (.inl (cI, 120, .inl fc))) wn (.inl (cI, 6, .inl fw))) wv (.inl (cI, 30, .inl fv))) (gv_id ((gv_up_n ne47).trans ((gv_up_n ne46).trans ((gv_up_n ne45).trans h_wv)))).symm ?_
  have ne48 : nq wk wr := gv_ne h_wr h_wk (by simp)
  have ne49 : nq wk wc := gv_ne h_wc h_wk (by simp)
  have ne50 : nq wk wn := gv_ne h_wn h_wk (by simp)
  have ne51 : nq wk wv := gv_ne h_wv h_wk (by simp)
  refine k_view (V1 := gv_up (gv_up (gv_up (gv_up (gv_up V wr (.inl (cI, 57600, .inl fr))) wc (.inl (cI, 120, .inl fc))) wn (.inl (cI, 6, .inl fw))) wv (.inl (cI, 30, .inl fv))) wk (.inl (cI, 80, .inl fk))) (gv_id ((gv_up_n ne51).trans ((gv_up_n ne50).trans ((gv_up_n ne49).trans ((gv_up_n ne48).trans h_wk))))).symm ?_
  have ne52 : nq wp wr := gv_ne h_wr h_wp (by simp)
  have ne53 : nq wp wc := gv_ne h_wc h_wp (by simp)
  have ne54 : nq wp wn := gv_ne h_wn h_wp (by simp)
  have ne55 : nq wp wv := gv_ne h_wv h_wp (by simp)
  refine k_view (V1 := gv_up (gv_up (gv_up (gv_up (gv_up (gv_up V wr (.inl (cI, 57600, .inl fr))) wc (.inl (cI, 120, .inl fc))) wn (.inl (cI, 6, .inl fw))) wv (.inl (cI, 30, .inl fv))) wk (.inl (cI, 80, .inl fk))) wp (.inl (cI, 80, .inl fp))) (gv_id ((gv_up_n (Ne.symm hwkp)).trans ((gv_up_n ne55).trans ((gv_up_n ne54).trans ((gv_up_n ne53).trans ((gv_up_n ne52).trans h_wp)))))).symm ?_
  exact L2 _ 0 fr fc fw fv fk fp (Nat.lt_succ_self _)  (by omega) (fun _ _ h => absurd h (Nat.not_lt_zero _))
set_option maxHeartbeats 4000000 in
set_option maxRecDepth 100000 in
theorem c_learn1 {zl : Launch} {D : va_G} {cI cN cR : ClassId} {base : Nat} {V : gv_V} {m wt wa wv wm wr wc wn ws wk wp nt ne nn sh : Nat} {ft fa fv fm fr fc fw fk fp : Nat → Int32} {E : Nat → Ex} {T : List Tr} {qk : Nat → Nat} {nv : Nat → Nat → Int32}  (h_m : V m = some (.inr (7, [.int (nI nt), .ref wt, .int (nI ne), .ref wa, .ref wv, .int (nI nn), .ref wm, .int (nI 1), .ref wr, .ref wc, .ref wn, .int (nI sh), .ref ws, .ref wk, .ref wp]))) (h_wr : V wr = some (.inl (cI, 57600, .inl fr))) (h_wc : V wc = some (.inl (cI, 120, .inl fc))) (h_wn : V wn = some (.inl (cI, 6, .inl fw))) (h_wv : V wv = some (.inl (cI, 30, .inl fv))) (h_wk : V wk = some (.inl (cI, 80, .inl fk))) (h_wp : V wp = some (.inl (cI, 80, .inl fp))) (h_wa : V wa = some (.inl (cI, 90, .inl fa))) (h_wm : V wm = some (.inl (cI, 180, .inl fm))) (h_wt : V wt = some (.inl (cI, 240, .inl ft))) (hwkp : nq wk wp) (hM : MA E ne fa) (hT : MT T nt ft) (hnn : nn ≤ 30) (hNW : ∀ k, k < nn → NW ne k (qk k) (nv k)) (hMK : ∀ k, k < nn → MK fm k (qk k) (nv k)) (hL : ∀ j z, j < nn → z < 4 → MTb (sem T E qk nv j z) (fc (4 * j + z)) (tbl fr (4 * j + z))) : ct zl D [(cI, .int), (cN, .object "AlgebraTree$Node"), (cR, .object "AlgebraTree$Rows")] base yX7_learn cX7_learn 3 none 6 0 0 [.ref m] V (fun zv zV => ∃ fr1 : Nat → Int32, ∃ fc1 : Nat → Int32, ∃ fw1 : Nat → Int32, ∃ fv1 : Nat → Int32, ∃ fk1 : Nat → Int32, ∃ fp1 : Nat → Int32, zv = none ∧ zV = gv_up (gv_up (gv_up (gv_up (gv_up (gv_up (gv_up V wr (.inl (cI, 57600, .inl fr1))) wc (.inl (cI, 120, .inl fc1))) wn (.inl (cI, 6, .inl fw1))) wv (.inl (cI, 30, .inl fv1))) wk (.inl (cI, 80, .inl fk1))) wp (.inl (cI, 80, .inl fp1))) m (.inr (7, [.int (nI nt), .ref wt, .int (nI ne), .ref wa, .ref wv, .int (nI nn), .ref wm, .int (nI 1), .ref wr, .ref wc, .ref wn, .int (nI sh), .ref ws, .ref wk, .ref wp])) ∧ (∀ j z, j < nn → z < 4 → MTb (sem T E qk nv j z) (fc1 (4 * j + z)) (tbl fr1 (4 * j + z)))) := by
  refine ct_of "AlgebraTreeModel" rfl (by decide) (Nat.le_of_ble_eq_true rfl) ?_
  intro zp ze zs zm zargs zbelow zmeth zc C zr zlk znm
  refine k_pc (pc' := 0) (st' := []) rfl rfl ?_
  show K zp zl ze (gv_rm 6 0 0) zs zm zargs zbelow zmeth zc D base 3 (gv_E D [(cI, .int), (cN, .object "AlgebraTree$Node"), (cR, .object "AlgebraTree$Rows")] base zbelow zargs zs 0 0 (fun zv zV => ∃ fr1 : Nat → Int32, ∃ fc1 : Nat → Int32, ∃ fw1 : Nat → Int32, ∃ fv1 : Nat → Int32, ∃ fk1 : Nat → Int32, ∃ fp1 : Nat → Int32, zv = none ∧ zV = gv_up (gv_up (gv_up (gv_up (gv_up (gv_up (gv_up V wr (.inl (cI, 57600, .inl fr1))) wc (.inl (cI, 120, .inl fc1))) wn (.inl (cI, 6, .inl fw1))) wv (.inl (cI, 30, .inl fv1))) wk (.inl (cI, 80, .inl fk1))) wp (.inl (cI, 80, .inl fp1))) m (.inr (7, [.int (nI nt), .ref wt, .int (nI ne), .ref wa, .ref wv, .int (nI nn), .ref wm, .int (nI 1), .ref wr, .ref wc, .ref wn, .int (nI sh), .ref ws, .ref wk, .ref wp])) ∧ (∀ j z, j < nn → z < 4 → MTb (sem T E qk nv j z) (fc1 (4 * j + z)) (tbl fr1 (4 * j + z))))) V 0 0 [(0, .ref m)] 0 []
  refine k_iconst (v := nI 0) C dX7_learn_0 rfl ?_
  refine k_istore_n (lv' := [(1, .int (nI 0)), (0, .ref m)]) C dX7_learn_1 rfl (by decide) rfl ?_
  refine k_iload_n C dX7_learn_2 rfl 0 rfl ?_
  refine k_aload_n C dX7_learn_3 rfl 1 rfl ?_
  refine k_get (ci := 7) (k := 5) C fl_7_85 h_m rfl dX7_learn_4 ?_
  refine k_icmp_ge (tgt := 42) C dX7_learn_7 (by decide) (fun c7 => ?_) (fun c7 => ?_)
  · skip
    have b7 : nn ≤ 0 := (nI_leI (a := nn) (b := 0) (by omega) (by omega)).mp c7
    refine k_aload_n C dX7_learn_42 rfl 1 rfl ?_
    refine k_iconst (v := nI 1) C dX7_learn_43 rfl ?_
    refine k_put (ci := 7) (k := 7) (fs' := [.int (nI nt), .ref wt, .int (nI ne), .ref wa, .ref wv, .int (nI nn), .ref wm, .int (nI 1), .ref wr, .ref wc, .ref wn, .int (nI sh), .ref ws, .ref wk, .ref wp]) C fl_7_41 pf_7_7 h_m rfl rfl (Nat.le_of_ble_eq_true rfl) rfl dX7_learn_44 ?_
    have ne1 : nq wr m := gv_ne h_m h_wr (by simp)
    refine k_view (V1 := gv_up (gv_up V m (.inr (7, [.int (nI nt), .ref wt, .int (nI ne), .ref wa, .ref wv, .int (nI nn), .ref wm, .int (nI 1), .ref wr, .ref wc, .ref wn, .int (nI sh), .ref ws, .ref wk, .ref wp]))) wr (.inl (cI, 57600, .inl fr))) (gv_id ((gv_up_n ne1).trans h_wr)).symm ?_
    have ne2 : nq wc m := gv_ne h_m h_wc (by simp)
    have ne3 : nq wc wr := gv_ne h_wr h_wc (by simp)
    refine k_view (V1 := gv_up (gv_up (gv_up V m (.inr (7, [.int (nI nt), .ref wt, .int (nI ne), .ref wa, .ref wv, .int (nI nn), .ref wm, .int (nI 1), .ref wr, .ref wc, .ref wn, .int (nI sh), .ref ws, .ref wk, .ref wp]))) wr (.inl (cI, 57600, .inl fr))) wc (.inl (cI, 120, .inl fc))) (gv_id ((gv_up_n ne3).trans ((gv_up_n ne2).trans h_wc))).symm ?_
    have ne4 : nq wn m := gv_ne h_m h_wn (by simp)
    have ne5 : nq wn wr := gv_ne h_wr h_wn (by simp)
    have ne6 : nq wn wc := gv_ne h_wc h_wn (by simp)
    refine k_view (V1 := gv_up (gv_up (gv_up (gv_up V m (.inr (7, [.int (nI nt), .ref wt, .int (nI ne), .ref wa, .ref wv, .int (nI nn), .ref wm, .int (nI 1), .ref wr, .ref wc, .ref wn, .int (nI sh), .ref ws, .ref wk, .ref wp]))) wr (.inl (cI, 57600, .inl fr))) wc (.inl (cI, 120, .inl fc))) wn (.inl (cI, 6, .inl fw))) (gv_id ((gv_up_n ne6).trans ((gv_up_n ne5).trans ((gv_up_n ne4).trans h_wn)))).symm ?_
    have ne7 : nq wv m := gv_ne h_m h_wv (by simp)
    have ne8 : nq wv wr := gv_ne h_wr h_wv (by simp)
    have ne9 : nq wv wc := gv_ne h_wc h_wv (by simp)
    have ne10 : nq wv wn := gv_ne h_wn h_wv (by simp)
    refine k_view (V1 := gv_up (gv_up (gv_up (gv_up (gv_up V m (.inr (7, [.int (nI nt), .ref wt, .int (nI ne), .ref wa, .ref wv, .int (nI nn), .ref wm, .int (nI 1), .ref wr, .ref wc, .ref wn, .int (nI sh), .ref ws, .ref wk, .ref wp]))) wr (.inl (cI, 57600, .inl fr))) wc (.inl (cI, 120, .inl fc))) wn (.inl (cI, 6, .inl fw))) wv (.inl (cI, 30, .inl fv))) (gv_id ((gv_up_n ne10).trans ((gv_up_n ne9).trans ((gv_up_n ne8).trans ((gv_up_n ne7).trans h_wv))))).symm ?_
    have ne11 : nq wk m := gv_ne h_m h_wk (by simp)
    have ne12 : nq wk wr := gv_ne h_wr h_wk (by simp)
    have ne13 : nq wk wc := gv_ne h_wc h_wk (by simp)
    have ne14 : nq wk wn := gv_ne h_wn h_wk (by simp)
    have ne15 : nq wk wv := gv_ne h_wv h_wk (by simp)
    refine k_view (V1 := gv_up (gv_up (gv_up (gv_up (gv_up (gv_up V m (.inr (7, [.int (nI nt), .ref wt, .int (nI ne), .ref wa, .ref wv, .int (nI nn), .ref wm, .int (nI 1), .ref wr, .ref wc, .ref wn, .int (nI sh), .ref ws, .ref wk, .ref wp]))) wr (.inl (cI, 57600, .inl fr))) wc (.inl (cI, 120, .inl fc))) wn (.inl (cI, 6, .inl fw))) wv (.inl (cI, 30, .inl fv))) wk (.inl (cI, 80, .inl fk))) (gv_id ((gv_up_n ne15).trans ((gv_up_n ne14).trans ((gv_up_n ne13).trans ((gv_up_n ne12).trans ((gv_up_n ne11).trans h_wk)))))).symm ?_
    have ne16 : nq wp m := gv_ne h_m h_wp (by simp)
    have ne17 : nq wp wr := gv_ne h_wr h_wp (by simp)
    have ne18 : nq wp wc := gv_ne h_wc h_wp (by simp)
    have ne19 : nq wp wn := gv_ne h_wn h_wp (by simp)
    have ne20 : nq wp wv := gv_ne h_wv h_wp (by simp)
    refine k_view (V1 := gv_up (gv_up (gv_up (gv_up (gv_up (gv_up (gv_up V m (.inr (7, [.int (nI nt), .ref wt, .int (nI ne), .ref wa, .ref wv, .int (nI nn), .ref wm, .int (nI 1), .ref wr, .ref wc, .ref wn, .int (nI sh), .ref ws, .ref wk, .ref wp]))) wr (.inl (cI, 57600, .inl fr))) wc (.inl (cI, 120, .inl fc))) wn (.inl (cI, 6, .inl fw))) wv (.inl (cI, 30, .inl fv))) wk (.inl (cI, 80, .inl fk))) wp (.inl (cI, 80, .inl fp))) (gv_id ((gv_up_n (Ne.symm hwkp)).trans ((gv_up_n ne20).trans ((gv_up_n ne19).trans ((gv_up_n ne18).trans ((gv_up_n ne17).trans ((gv_up_n ne16).trans h_wp))))))).symm ?_
    refine k_view (V1 := gv_up (gv_up (gv_up (gv_up (gv_up (gv_up (gv_up V wr (.inl (cI, 57600, .inl fr))) m (.inr (7, [.int (nI nt), .ref wt, .int (nI ne), .ref wa, .ref wv, .int (nI nn), .ref wm, .int (nI 1), .ref wr, .ref wc, .ref wn, .int (nI sh), .ref ws, .ref wk, .ref wp]))) wc (.inl (cI, 120, .inl fc))) wn (.inl (cI, 6, .inl fw))) wv (.inl (cI, 30, .inl fv))) wk (.inl (cI, 80, .inl fk))) wp (.inl (cI, 80, .inl fp))) (congrArg (fun W => gv_up W wp (.inl (cI, 80, .inl fp))) (congrArg (fun W => gv_up W wk (.inl (cI, 80, .inl fk))) (congrArg (fun W => gv_up W wv (.inl (cI, 30, .inl fv))) (congrArg (fun W => gv_up W wn (.inl (cI, 6, .inl fw))) (congrArg (fun W => gv_up W wc (.inl (cI, 120, .inl fc))) (gv_uc ne1)))))) ?_
    refine k_view (V1 := gv_up (gv_up (gv_up (gv_up (gv_up (gv_up (gv_up V wr (.inl (cI, 57600, .inl fr))) wc (.inl (cI, 120, .inl fc))) m (.inr (7, [.int (nI nt), .ref wt, .int (nI ne), .ref wa, .ref wv, .int (nI nn), .ref wm, .int (nI 1), .ref wr, .ref wc, .ref wn, .int (nI sh), .ref ws, .ref wk, .ref wp]))) wn (.inl (cI, 6, .inl fw))) wv (.inl (cI, 30, .inl fv))) wk (.inl (cI, 80, .inl fk))) wp (.inl (cI, 80, .inl fp))) (congrArg (fun W => gv_up W wp (.inl (cI, 80, .inl fp))) (congrArg (fun W => gv_up W wk (.inl (cI, 80, .inl fk))) (congrArg (fun W => gv_up W wv (.inl (cI, 30, .inl fv))) (congrArg (fun W => gv_up W wn (.inl (cI, 6, .inl fw))) (gv_uc ne2))))) ?_
    refine k_view (V1 := gv_up (gv_up (gv_up (gv_up (gv_up (gv_up (gv_up V wr (.inl (cI, 57600, .inl fr))) wc (.inl (cI, 120, .inl fc))) wn (.inl (cI, 6, .inl fw))) m (.inr (7, [.int (nI nt), .ref wt, .int (nI ne), .ref wa, .ref wv, .int (nI nn), .ref wm, .int (nI 1), .ref wr, .ref wc, .ref wn, .int (nI sh), .ref ws, .ref wk, .ref wp]))) wv (.inl (cI, 30, .inl fv))) wk (.inl (cI, 80, .inl fk))) wp (.inl (cI, 80, .inl fp))) (congrArg (fun W => gv_up W wp (.inl (cI, 80, .inl fp))) (congrArg (fun W => gv_up W wk (.inl (cI, 80, .inl fk))) (congrArg (fun W => gv_up W wv (.inl (cI, 30, .inl fv))) (gv_uc ne4)))) ?_
    refine k_view (V1 := gv_up (gv_up (gv_up (gv_up (gv_up (gv_up (gv_up V wr (.inl (cI, 57600, .inl fr))) wc (.inl (cI, 120, .inl fc))) wn (.inl (cI, 6, .inl fw))) wv (.inl (cI, 30, .inl fv))) m (.inr (7, [.int (nI nt), .ref wt, .int (nI ne), .ref wa, .ref wv, .int (nI nn), .ref wm, .int (nI 1), .ref wr, .ref wc, .ref wn, .int (nI sh), .ref ws, .ref wk, .ref wp]))) wk (.inl (cI, 80, .inl fk))) wp (.inl (cI, 80, .inl fp))) (congrArg (fun W => gv_up W wp (.inl (cI, 80, .inl fp))) (congrArg (fun W => gv_up W wk (.inl (cI, 80, .inl fk))) (gv_uc ne7))) ?_
    refine k_view (V1 := gv_up (gv_up (gv_up (gv_up (gv_up (gv_up (gv_up V wr (.inl (cI, 57600, .inl fr))) wc (.inl (cI, 120, .inl fc))) wn (.inl (cI, 6, .inl fw))) wv (.inl (cI, 30, .inl fv))) wk (.inl (cI, 80, .inl fk))) m (.inr (7, [.int (nI nt), .ref wt, .int (nI ne), .ref wa, .ref wv, .int (nI nn), .ref wm, .int (nI 1), .ref wr, .ref wc, .ref wn, .int (nI sh), .ref ws, .ref wk, .ref wp]))) wp (.inl (cI, 80, .inl fp))) (congrArg (fun W => gv_up W wp (.inl (cI, 80, .inl fp))) (gv_uc ne11)) ?_
    refine k_view (V1 := gv_up (gv_up (gv_up (gv_up (gv_up (gv_up (gv_up V wr (.inl (cI, 57600, .inl fr))) wc (.inl (cI, 120, .inl fc))) wn (.inl (cI, 6, .inl fw))) wv (.inl (cI, 30, .inl fv))) wk (.inl (cI, 80, .inl fk))) wp (.inl (cI, 80, .inl fp))) m (.inr (7, [.int (nI nt), .ref wt, .int (nI ne), .ref wa, .ref wv, .int (nI nn), .ref wm, .int (nI 1), .ref wr, .ref wc, .ref wn, .int (nI sh), .ref ws, .ref wk, .ref wp]))) (gv_uc ne16) ?_
    exact k_vret C zr zlk ⟨fr, fc, fw, fv, fk, fp, rfl, rfl, hL⟩ (Nat.le_refl _) (Nat.le_refl _) dX7_learn_47
  · skip
    have b7 : ¬ nn ≤ 0 := fun z => c7 ((nI_leI (a := nn) (b := 0) (by omega) (by omega)).mpr z)
    refine k_aload_n C dX7_learn_10 rfl 1 rfl ?_
    refine k_get (ci := 7) (k := 7) C fl_7_41 h_m rfl dX7_learn_11 ?_
    refine k_if_ne (tgt := 42) C dX7_learn_14 (by decide) (fun c14 => ?_) (fun c14 => ?_)
    · skip
      have b14 : ¬ 1 = 0 := fun z => c14 ((nI_eq (a := 1) (b := 0) (by omega) (by omega)).mpr z)
      refine k_aload_n C dX7_learn_42 rfl 1 rfl ?_
      refine k_iconst (v := nI 1) C dX7_learn_43 rfl ?_
      refine k_put (ci := 7) (k := 7) (fs' := [.int (nI nt), .ref wt, .int (nI ne), .ref wa, .ref wv, .int (nI nn), .ref wm, .int (nI 1), .ref wr, .ref wc, .ref wn, .int (nI sh), .ref ws, .ref wk, .ref wp]) C fl_7_41 pf_7_7 h_m rfl rfl (Nat.le_of_ble_eq_true rfl) rfl dX7_learn_44 ?_
      have ne21 : nq wr m := gv_ne h_m h_wr (by simp)
      refine k_view (V1 := gv_up (gv_up V m (.inr (7, [.int (nI nt), .ref wt, .int (nI ne), .ref wa, .ref wv, .int (nI nn), .ref wm, .int (nI 1), .ref wr, .ref wc, .ref wn, .int (nI sh), .ref ws, .ref wk, .ref wp]))) wr (.inl (cI, 57600, .inl fr))) (gv_id ((gv_up_n ne21).trans h_wr)).symm ?_
      have ne22 : nq wc m := gv_ne h_m h_wc (by simp)
      have ne23 : nq wc wr := gv_ne h_wr h_wc (by simp)
      refine k_view (V1 := gv_up (gv_up (gv_up V m (.inr (7, [.int (nI nt), .ref wt, .int (nI ne), .ref wa, .ref wv, .int (nI nn), .ref wm, .int (nI 1), .ref wr, .ref wc, .ref wn, .int (nI sh), .ref ws, .ref wk, .ref wp]))) wr (.inl (cI, 57600, .inl fr))) wc (.inl (cI, 120, .inl fc))) (gv_id ((gv_up_n ne23).trans ((gv_up_n ne22).trans h_wc))).symm ?_
      have ne24 : nq wn m := gv_ne h_m h_wn (by simp)
      have ne25 : nq wn wr := gv_ne h_wr h_wn (by simp)
      have ne26 : nq wn wc := gv_ne h_wc h_wn (by simp)
      refine k_view (V1 := gv_up (gv_up (gv_up (gv_up V m (.inr (7, [.int (nI nt), .ref wt, .int (nI ne), .ref wa, .ref wv, .int (nI nn), .ref wm, .int (nI 1), .ref wr, .ref wc, .ref wn, .int (nI sh), .ref ws, .ref wk, .ref wp]))) wr (.inl (cI, 57600, .inl fr))) wc (.inl (cI, 120, .inl fc))) wn (.inl (cI, 6, .inl fw))) (gv_id ((gv_up_n ne26).trans ((gv_up_n ne25).trans ((gv_up_n ne24).trans h_wn)))).symm ?_
      have ne27 : nq wv m := gv_ne h_m h_wv (by simp)
      have ne28 : nq wv wr := gv_ne h_wr h_wv (by simp)
      have ne29 : nq wv wc := gv_ne h_wc h_wv (by simp)
      have ne30 : nq wv wn := gv_ne h_wn h_wv (by simp)
      refine k_view (V1 := gv_up (gv_up (gv_up (gv_up (gv_up V m (.inr (7, [.int (nI nt), .ref wt, .int (nI ne), .ref wa, .ref wv, .int (nI nn), .ref wm, .int (nI 1), .ref wr, .ref wc, .ref wn, .int (nI sh), .ref ws, .ref wk, .ref wp]))) wr (.inl (cI, 57600, .inl fr))) wc (.inl (cI, 120, .inl fc))) wn (.inl (cI, 6, .inl fw))) wv (.inl (cI, 30, .inl fv))) (gv_id ((gv_up_n ne30).trans ((gv_up_n ne29).trans ((gv_up_n ne28).trans ((gv_up_n ne27).trans h_wv))))).symm ?_
      have ne31 : nq wk m := gv_ne h_m h_wk (by simp)
      have ne32 : nq wk wr := gv_ne h_wr h_wk (by simp)
      have ne33 : nq wk wc := gv_ne h_wc h_wk (by simp)
      have ne34 : nq wk wn := gv_ne h_wn h_wk (by simp)
      have ne35 : nq wk wv := gv_ne h_wv h_wk (by simp)
      refine k_view (V1 := gv_up (gv_up (gv_up (gv_up (gv_up (gv_up V m (.inr (7, [.int (nI nt), .ref wt, .int (nI ne), .ref wa, .ref wv, .int (nI nn), .ref wm, .int (nI 1), .ref wr, .ref wc, .ref wn, .int (nI sh), .ref ws, .ref wk, .ref wp]))) wr (.inl (cI, 57600, .inl fr))) wc (.inl (cI, 120, .inl fc))) wn (.inl (cI, 6, .inl fw))) wv (.inl (cI, 30, .inl fv))) wk (.inl (cI, 80, .inl fk))) (gv_id ((gv_up_n ne35).trans ((gv_up_n ne34).trans ((gv_up_n ne33).trans ((gv_up_n ne32).trans ((gv_up_n ne31).trans h_wk)))))).symm ?_
      have ne36 : nq wp m := gv_ne h_m h_wp (by simp)
      have ne37 : nq wp wr := gv_ne h_wr h_wp (by simp)
      have ne38 : nq wp wc := gv_ne h_wc h_wp (by simp)
      have ne39 : nq wp wn := gv_ne h_wn h_wp (by simp)
      have ne40 : nq wp wv := gv_ne h_wv h_wp (by simp)
      refine k_view (V1 := gv_up (gv_up (gv_up (gv_up (gv_up (gv_up (gv_up V m (.inr (7, [.int (nI nt), .ref wt, .int (nI ne), .ref wa, .ref wv, .int (nI nn), .ref wm, .int (nI 1), .ref wr, .ref wc, .ref wn, .int (nI sh), .ref ws, .ref wk, .ref wp]))) wr (.inl (cI, 57600, .inl fr))) wc (.inl (cI, 120, .inl fc))) wn (.inl (cI, 6, .inl fw))) wv (.inl (cI, 30, .inl fv))) wk (.inl (cI, 80, .inl fk))) wp (.inl (cI, 80, .inl fp))) (gv_id ((gv_up_n (Ne.symm hwkp)).trans ((gv_up_n ne40).trans ((gv_up_n ne39).trans ((gv_up_n ne38).trans ((gv_up_n ne37).trans ((gv_up_n ne36).trans h_wp))))))).symm ?_
      refine k_view (V1 := gv_up (gv_up (gv_up (gv_up (gv_up (gv_up (gv_up V wr (.inl (cI, 57600, .inl fr))) m (.inr (7, [.int (nI nt), .ref wt, .int (nI ne), .ref wa, .ref wv, .int (nI nn), .ref wm, .int (nI 1), .ref wr, .ref wc, .ref wn, .int (nI sh), .ref ws, .ref wk, .ref wp]))) wc (.inl (cI, 120, .inl fc))) wn (.inl (cI, 6, .inl fw))) wv (.inl (cI, 30, .inl fv))) wk (.inl (cI, 80, .inl fk))) wp (.inl (cI, 80, .inl fp))) (congrArg (fun W => gv_up W wp (.inl (cI, 80, .inl fp))) (congrArg (fun W => gv_up W wk (.inl (cI, 80, .inl fk))) (congrArg (fun W => gv_up W wv (.inl (cI, 30, .inl fv))) (congrArg (fun W => gv_up W wn (.inl (cI, 6, .inl fw))) (congrArg (fun W => gv_up W wc (.inl (cI, 120, .inl fc))) (gv_uc ne21)))))) ?_
      refine k_view (V1 := gv_up (gv_up (gv_up (gv_up (gv_up (gv_up (gv_up V wr (.inl (cI, 57600, .inl fr))) wc (.inl (cI, 120, .inl fc))) m (.inr (7, [.int (nI nt), .ref wt, .int (nI ne), .ref wa, .ref wv, .int (nI nn), .ref wm, .int (nI 1), .ref wr, .ref wc, .ref wn, .int (nI sh), .ref ws, .ref wk, .ref wp]))) wn (.inl (cI, 6, .inl fw))) wv (.inl (cI, 30, .inl fv))) wk (.inl (cI, 80, .inl fk))) wp (.inl (cI, 80, .inl fp))) (congrArg (fun W => gv_up W wp (.inl (cI, 80, .inl fp))) (congrArg (fun W => gv_up W wk (.inl (cI, 80, .inl fk))) (congrArg (fun W => gv_up W wv (.inl (cI, 30, .inl fv))) (congrArg (fun W => gv_up W wn (.inl (cI, 6, .inl fw))) (gv_uc ne22))))) ?_
      refine k_view (V1 := gv_up (gv_up (gv_up (gv_up (gv_up (gv_up (gv_up V wr (.inl (cI, 57600, .inl fr))) wc (.inl (cI, 120, .inl fc))) wn (.inl (cI, 6, .inl fw))) m (.inr (7, [.int (nI nt), .ref wt, .int (nI ne), .ref wa, .ref wv, .int (nI nn), .ref wm, .int (nI 1), .ref wr, .ref wc, .ref wn, .int (nI sh), .ref ws, .ref wk, .ref wp]))) wv (.inl (cI, 30, .inl fv))) wk (.inl (cI, 80, .inl fk))) wp (.inl (cI, 80, .inl fp))) (congrArg (fun W => gv_up W wp (.inl (cI, 80, .inl fp))) (congrArg (fun W => gv_up W wk (.inl (cI, 80, .inl fk))) (congrArg (fun W => gv_up W wv (.inl (cI, 30, .inl fv))) (gv_uc ne24)))) ?_
      refine k_view (V1 := gv_up (gv_up (gv_up (gv_up (gv_up (gv_up (gv_up V wr (.inl (cI, 57600, .inl fr))) wc (.inl (cI, 120, .inl fc))) wn (.inl (cI, 6, .inl fw))) wv (.inl (cI, 30, .inl fv))) m (.inr (7, [.int (nI nt), .ref wt, .int (nI ne), .ref wa, .ref wv, .int (nI nn), .ref wm, .int (nI 1), .ref wr, .ref wc, .ref wn, .int (nI sh), .ref ws, .ref wk, .ref wp]))) wk (.inl (cI, 80, .inl fk))) wp (.inl (cI, 80, .inl fp))) (congrArg (fun W => gv_up W wp (.inl (cI, 80, .inl fp))) (congrArg (fun W => gv_up W wk (.inl (cI, 80, .inl fk))) (gv_uc ne27))) ?_
      refine k_view (V1 := gv_up (gv_up (gv_up (gv_up (gv_up (gv_up (gv_up V wr (.inl (cI, 57600, .inl fr))) wc (.inl (cI, 120, .inl fc))) wn (.inl (cI, 6, .inl fw))) wv (.inl (cI, 30, .inl fv))) wk (.inl (cI, 80, .inl fk))) m (.inr (7, [.int (nI nt), .ref wt, .int (nI ne), .ref wa, .ref wv, .int (nI nn), .ref wm, .int (nI 1), .ref wr, .ref wc, .ref wn, .int (nI sh), .ref ws, .ref wk, .ref wp]))) wp (.inl (cI, 80, .inl fp))) (congrArg (fun W => gv_up W wp (.inl (cI, 80, .inl fp))) (gv_uc ne31)) ?_
      refine k_view (V1 := gv_up (gv_up (gv_up (gv_up (gv_up (gv_up (gv_up V wr (.inl (cI, 57600, .inl fr))) wc (.inl (cI, 120, .inl fc))) wn (.inl (cI, 6, .inl fw))) wv (.inl (cI, 30, .inl fv))) wk (.inl (cI, 80, .inl fk))) wp (.inl (cI, 80, .inl fp))) m (.inr (7, [.int (nI nt), .ref wt, .int (nI ne), .ref wa, .ref wv, .int (nI nn), .ref wm, .int (nI 1), .ref wr, .ref wc, .ref wn, .int (nI sh), .ref ws, .ref wk, .ref wp]))) (gv_uc ne36) ?_
      exact k_vret C zr zlk ⟨fr, fc, fw, fv, fk, fp, rfl, rfl, hL⟩ (Nat.le_refl _) (Nat.le_refl _) dX7_learn_47
    · exact absurd c14 (by decide)
theorem c_learn {zl : Launch} {D : va_G} {cI cN cR : ClassId} {base : Nat} {V : gv_V} {m wt wa wv wm wr wc wn ws wk wp nt ne nn sh : Nat} {kn : Int32} {ft fa fv fm fr fc fw fk fp : Nat → Int32} {E : Nat → Ex} {T : List Tr} {qk : Nat → Nat} {nv : Nat → Nat → Int32}  (h_m : V m = some (.inr (7, [.int (nI nt), .ref wt, .int (nI ne), .ref wa, .ref wv, .int (nI nn), .ref wm, .int kn, .ref wr, .ref wc, .ref wn, .int (nI sh), .ref ws, .ref wk, .ref wp]))) (h_wr : V wr = some (.inl (cI, 57600, .inl fr))) (h_wc : V wc = some (.inl (cI, 120, .inl fc))) (h_wn : V wn = some (.inl (cI, 6, .inl fw))) (h_wv : V wv = some (.inl (cI, 30, .inl fv))) (h_wk : V wk = some (.inl (cI, 80, .inl fk))) (h_wp : V wp = some (.inl (cI, 80, .inl fp))) (h_wa : V wa = some (.inl (cI, 90, .inl fa))) (h_wm : V wm = some (.inl (cI, 180, .inl fm))) (h_wt : V wt = some (.inl (cI, 240, .inl ft))) (hwkp : nq wk wp) (hM : MA E ne fa) (hT : MT T nt ft) (hnn : nn ≤ 30) (hNW : ∀ k, k < nn → NW ne k (qk k) (nv k)) (hMK : ∀ k, k < nn → MK fm k (qk k) (nv k)) (hkn : kn = nI 0 ∨ (kn = nI 1 ∧ ∀ j z, j < nn → z < 4 → MTb (sem T E qk nv j z) (fc (4 * j + z)) (tbl fr (4 * j + z)))) : ct zl D [(cI, .int), (cN, .object "AlgebraTree$Node"), (cR, .object "AlgebraTree$Rows")] base yX7_learn cX7_learn 3 none 6 0 0 [.ref m] V (fun zv zV => ∃ fr1 : Nat → Int32, ∃ fc1 : Nat → Int32, ∃ fw1 : Nat → Int32, ∃ fv1 : Nat → Int32, ∃ fk1 : Nat → Int32, ∃ fp1 : Nat → Int32, zv = none ∧ zV = gv_up (gv_up (gv_up (gv_up (gv_up (gv_up (gv_up V wr (.inl (cI, 57600, .inl fr1))) wc (.inl (cI, 120, .inl fc1))) wn (.inl (cI, 6, .inl fw1))) wv (.inl (cI, 30, .inl fv1))) wk (.inl (cI, 80, .inl fk1))) wp (.inl (cI, 80, .inl fp1))) m (.inr (7, [.int (nI nt), .ref wt, .int (nI ne), .ref wa, .ref wv, .int (nI nn), .ref wm, .int (nI 1), .ref wr, .ref wc, .ref wn, .int (nI sh), .ref ws, .ref wk, .ref wp])) ∧ (∀ j z, j < nn → z < 4 → MTb (sem T E qk nv j z) (fc1 (4 * j + z)) (tbl fr1 (4 * j + z)))) := by
  rcases hkn with rfl | ⟨rfl, hL⟩
  · exact c_learn0 h_m h_wr h_wc h_wn h_wv h_wk h_wp h_wa h_wm h_wt hwkp hM hT hnn hNW hMK
  · exact c_learn1 h_m h_wr h_wc h_wn h_wv h_wk h_wp h_wa h_wm h_wt hwkp hM hT hnn hNW hMK hL
