/-! what stays when expressions, nodes, triples come -/
theorem evs_E {E E' : Nat → Ex} {r : Row} : ∀ {m : Nat}, (∀ k, k < m → E' k = E k) → evs E' r m = evs E r m
  | 0, _ => rfl
  | m + 1, h => by
    simp only [evs]
    rw [evs_E (fun k hk => h k (by omega))]
    congr 1
    unfold e1
    rw [h m (by omega)]
theorem ev_E {E E' : Nat → Ex} {r : Row} {n e : Nat} (h : ∀ k, k < n → E' k = E k) (he : e < n) : ev E' r e = ev E r e := by
  unfold ev
  rw [evs_E (fun k hk => h k (by omega))]
  unfold e1
  rw [h e he]
theorem nsem_E {T : List Tr} {E E' : Nat → Ex} {ne k q : Nat} {nv : Nat → Int32} {S : Nat → Nat → Option (List Row)} {g : Nat} (hw : NW ne k q nv) (hn : ne ≤ 30) (h : ∀ j, j < ne → E' j = E j) : nsem T E' q nv S g = nsem T E q nv S g := by
  have hev : ∀ e, e < ne → (fun x => ev E' x e) = (fun x => ev E x e) := fun e he => funext fun x => ev_E h he
  have hev2 : ∀ e x, e < ne → ev E' x e = ev E x e := fun e x he => ev_E h he
  unfold nsem
  by_cases h0 : q = 0
  · rw [if_pos h0, if_pos h0]
  rw [if_neg h0, if_neg h0]
  by_cases h13 : q = 13
  · rw [if_pos h13, if_pos h13]
  rw [if_neg h13, if_neg h13]
  by_cases h12 : q = 12
  · rw [if_pos h12, if_pos h12]
  rw [if_neg h12, if_neg h12]
  by_cases h5 : 5 ≤ q
  · rw [if_pos h5, if_pos h5]
    have : one1 E' q nv = one1 E q nv := by
      funext A
      unfold one1
      by_cases he : q = 5 ∨ q = 6 ∨ q = 10 ∨ q = 11
      · obtain ⟨e, he1, ee⟩ := hw.2.2.2.2.2.2.1 he
        rw [ee, tn_nI (by omega)]
        simp only [hev2 e _ he1]
      · rw [if_neg (by omega), if_neg (by omega), if_neg (show ¬ q = 5 by omega), if_neg (show ¬ q = 6 by omega)]
        by_cases h7 : q = 7
        · rw [if_pos h7, if_pos h7]
        rw [if_neg h7, if_neg h7]
        by_cases h8 : q = 8
        · rw [if_pos h8, if_pos h8]
        rw [if_neg h8, if_neg h8]
        by_cases h9 : q = 9
        · rw [if_pos h9, if_pos h9]
        exfalso
        have := hw.1
        omega
    rw [this]
  · rw [if_neg h5, if_neg h5]
    have : two1 E' q nv = two1 E q nv := by
      funext A B
      unfold two1
      by_cases h4 : q = 4
      · rw [if_neg (by omega), if_neg (by omega), if_neg (by omega), if_neg (show ¬ q = 1 by omega), if_neg (show ¬ q = 2 by omega), if_neg (show ¬ q = 3 by omega)]
        have : lcnd E' (nv 6) = lcnd E (nv 6) := by
          funext x
          unfold lcnd
          rcases hw.2.2.2.2.2.1 h4 with ee | ⟨e, he1, ee⟩
          · rw [if_pos ee, if_pos ee]
          · rw [ee, tn_nI (by omega), hev2 e x he1]
        rw [this]
      · by_cases h1 : q = 1
        · rw [if_pos h1, if_pos h1]
        rw [if_neg h1, if_neg h1]
        by_cases h2 : q = 2
        · rw [if_pos h2, if_pos h2]
        rw [if_neg h2, if_neg h2]
        by_cases h3 : q = 3
        · rw [if_pos h3, if_pos h3]
        exfalso; omega
    rw [this]
theorem tabs_E {T : List Tr} {E E' : Nat → Ex} {qk : Nat → Nat} {nv : Nat → Nat → Int32} {ne : Nat} (hn : ne ≤ 30) (h : ∀ j, j < ne → E' j = E j) : ∀ {m : Nat}, (∀ k, k < m → NW ne k (qk k) (nv k)) → tabs T E' qk nv m = tabs T E qk nv m
  | 0, _ => rfl
  | m + 1, hw => by
    simp only [tabs]
    rw [tabs_E hn h (fun k hk => hw k (by omega))]
    funext i g
    rw [nsem_E (hw m (by omega)) hn h]
theorem sem_E {T : List Tr} {E E' : Nat → Ex} {qk : Nat → Nat} {nv : Nat → Nat → Int32} {ne nn i g : Nat} (hn : ne ≤ 30) (h : ∀ j, j < ne → E' j = E j) (hw : ∀ k, k < nn → NW ne k (qk k) (nv k)) (hi : i < nn) : sem T E' qk nv i g = sem T E qk nv i g := by
  unfold sem
  rw [tabs_E hn h (fun k hk => hw k (by omega)), nsem_E (hw i hi) hn h]
theorem tabs_N {T : List Tr} {E : Nat → Ex} {qk qk' : Nat → Nat} {nv nv' : Nat → Nat → Int32} : ∀ {m : Nat}, (∀ k, k < m → qk' k = qk k ∧ nv' k = nv k) → tabs T E qk' nv' m = tabs T E qk nv m
  | 0, _ => rfl
  | m + 1, h => by
    simp only [tabs]
    rw [tabs_N (fun k hk => h k (by omega)), (h m (by omega)).1, (h m (by omega)).2]
theorem sem_N {T : List Tr} {E : Nat → Ex} {qk qk' : Nat → Nat} {nv nv' : Nat → Nat → Int32} {nn i g : Nat} (h : ∀ k, k < nn → qk' k = qk k ∧ nv' k = nv k) (hi : i < nn) : sem T E qk' nv' i g = sem T E qk nv i g := by
  unfold sem
  rw [tabs_N (fun k hk => h k (by omega)), (h i hi).1, (h i hi).2]
theorem NW.mono {ne ne' k q : Nat} {nv : Nat → Int32} (h : NW ne k q nv) (hn : ne ≤ ne') : NW ne' k q nv := by
  obtain ⟨a1, a2, a3, a4, a5, a6, a7, a8, a9, a10⟩ := h
  refine ⟨a1, a2, a3, a4, a5, fun hq => ?_, fun hq => ?_, a8, a9, a10⟩
  · rcases a6 hq with h | ⟨e, h1, h2⟩
    · exact Or.inl h
    · exact Or.inr ⟨e, by omega, h2⟩
  · obtain ⟨e, h1, h2⟩ := a7 hq
    exact ⟨e, by omega, h2⟩
theorem blw_nI {x : Int32} {n : Nat} (hn : n < 2 ^ 31) (h : blw x (nI n) = true) : ∃ k, k < n ∧ x = nI k := by
  simp only [blw, Bool.and_eq_true, decide_eq_true_eq] at h
  obtain ⟨j, hj, rfl⟩ := nI_of (Int32.not_lt.mpr h.1)
  exact ⟨j, (nI_ltI hj hn).mp h.2, rfl⟩
theorem TrR.add {T : List Tr} {nt : Nat} {tg ts tp tq : Nat → Int32} {g s p o : Int32} (h : TrR T nt tg ts tp tq) (hn : nt < 60) : TrR (T ++ [(g, s, p, o)]) (nt + 1) (upd tg nt g) (upd ts nt s) (upd tp nt p) (upd tq nt o) := by
  obtain ⟨h1, h2, h3⟩ := h
  refine ⟨by simp [h1], by omega, fun i hi => ?_⟩
  by_cases hk : i = nt
  · subst hk
    have : trAt (T ++ [(g, s, p, o)]) i = (g, s, p, o) := by simp [trAt, h1]
    rw [this]
    simp [upd]
  · have : trAt (T ++ [(g, s, p, o)]) i = trAt T i := by simp only [trAt, List.getD_eq_getElem?_getD, List.getElem?_append_left (show i < T.length by omega)]
    rw [this]
    simp only [upd, if_neg hk]
    exact h3 i (by omega)
theorem bt_shl {n i : Nat} (hn : n < 30) : bt (nI 1 <<< (nI n &&& 31)) i = decide (i = n) := by
  rcases Nat.lt_or_ge i 32 with h | h
  · exact b_pow (by omega) h
  · rw [b_big h, decide_eq_false (by omega)]
/-- an expression comes -/
theorem ExR.add {E : Nat → Ex} {ne : Nat} {kd fs sc pt : Nat → Int32} (h : ExR E ne kd fs sc pt) (hn : ne < 30) {q : Nat} {a b s w : Int32} (hq : q ≤ 11) (hop : q ≤ 8 → ∃ i1 i2, i1 < ne ∧ i2 < ne ∧ a = nI i1 ∧ (if q = 8 then a else b) = nI i2 ∧ s = nI i2 ∧ w = (pt i1 ||| pt i2)) (hlf : 9 ≤ q → w = nI 0 ∧ (q = 9 ∨ ∃ v, v < 6 ∧ a = nI v)) : ExR (va_up E ne (q, a, b)) (ne + 1) (upd kd ne (nI q)) (upd fs ne a) (upd sc ne s) (upd pt ne (w ||| nI 1 <<< (nI ne &&& 31))) := by
  refine ⟨by omega, fun k hk => ?_⟩
  have low : ∀ k i, k < ne → bt (pt k) i = true → i ≤ k := fun k i hk hb => ((h.2 k hk).2.2.2.1 i hb).1
  by_cases hkn : k = ne
  · subst hkn
    have eE : va_up E k (q, a, b) k = (q, a, b) := by simp [va_up]
    have eu : ∀ (f : Nat → Int32) (x : Int32), upd f k x k = x := fun f x => by simp [upd]
    have en : ∀ (f : Nat → Int32) (x : Int32) (i : Nat), i < k → upd f k x i = f i := fun f x i hi => by simp only [upd]; rw [if_neg (by omega)]
    rw [eE, eu, eu, eu, eu]
    have wb : ∀ i, bt (w ||| nI 1 <<< (nI k &&& 31)) i = (bt w i || decide (i = k)) := fun i => by rw [b_or, bt_shl hn]
    refine ⟨rfl, hq, by rw [wb]; simp, fun i hi => ?_, fun hq8 => ?_, fun hq9 => ?_⟩
    · rw [wb] at hi
      by_cases hik : i = k
      · subst hik
        exact ⟨Nat.le_refl _, fun j hj => by rw [eu] at hj; exact hj⟩
      · rw [decide_eq_false hik, Bool.or_false] at hi
        by_cases hq8 : q ≤ 8
        · obtain ⟨i1, i2, h1, h2, -, -, -, hw⟩ := hop hq8
          rw [hw, b_or, Bool.or_eq_true] at hi
          have hil : i < k := by rcases hi with h9 | h9 <;> have := low _ _ (by assumption) h9 <;> omega
          refine ⟨by omega, fun j hj => ?_⟩
          rw [en _ _ _ hil] at hj
          rw [wb, hw, b_or]
          rcases hi with h9 | h9
          · rw [h.tr h1 h9 hj]; rfl
          · rw [h.tr h2 h9 hj]; simp
        · rw [(hlf (by omega)).1] at hi
          exact absurd hi (by rw [show nI 0 = 0 from rfl, b_0]; decide)
    · obtain ⟨i1, i2, h1, h2, e1, e2, e3, hw⟩ := hop hq8
      exact ⟨i1, i2, h1, h2, e1, e2, e1, e3, by rw [wb, hw, b_or, h.se h1]; rfl, by rw [wb, hw, b_or, h.se h2]; simp⟩
    · exact ⟨rfl, (hlf hq9).2⟩
  · have hk2 : k < ne := by omega
    have eE : va_up E ne (q, a, b) k = E k := by simp [va_up, hkn]
    have en : ∀ (f : Nat → Int32) (x : Int32) (i : Nat), i < ne → upd f ne x i = f i := fun f x i hi => by simp only [upd]; rw [if_neg (by omega)]
    rw [eE, en _ _ _ hk2, en _ _ _ hk2, en _ _ _ hk2, en _ _ _ hk2]
    obtain ⟨a1, a2, a3, a4, a5, a6⟩ := h.2 k hk2
    refine ⟨a1, a2, a3, fun i hi => ⟨(a4 i hi).1, fun j hj => ?_⟩, a5, a6⟩
    rw [en _ _ _ (by have := (a4 i hi).1; omega)] at hj
    exact (a4 i hi).2 j hj
