/-! nodes in the class's form: kind, and fields 1 a, 2 b, 3 s, 4 p, 5 o, 6 expression, 7 variable, 8 set, 9 from, 10 length, 11 down, 12 aggregate, 13 graph -/
def tn (x : Int32) : Nat := x.toNatClampNeg
theorem tn_nI {k : Nat} (h : k < 2 ^ 31) : tn (nI k) = k := nI_clamp h
noncomputable def one1 (E : Nat → Ex) (q : Nat) (nv : Nat → Int32) (A : List Row) : List Row :=
  if q = 5 then A.filter (fun x => isT (ev E x (tn (nv 6)))) else if q = 6 then A.map (fun x => extR (tn (nv 7)) (ev E x (tn (nv 6))) x) else if q = 7 then A.map (prj (nv 8)) else if q = 8 then distL (nI 63) A
  else if q = 9 then (A.drop (tn (nv 9))).take (tn (nv 10)) else if q = 10 then orderL (nv 11) (fun x => ev E x (tn (nv 6))) A else groupL (nv 8) (nv 12) (tn (nv 7)) (fun x => ev E x (tn (nv 6))) A
def lcnd (E : Nat → Ex) (ex : Int32) (x : Row) : Bool := if ex = -1 then true else isT (ev E x (tn ex))
def two1 (E : Nat → Ex) (q : Nat) (nv : Nat → Int32) (A B : List Row) : List Row := if q = 1 then joinL A B else if q = 2 then A ++ B else if q = 3 then minusL A B else leftL (lcnd E (nv 6)) A B
noncomputable def nsem (T : List Tr) (E : Nat → Ex) (q : Nat) (nv : Nat → Int32) (S : Nat → Nat → Option (List Row)) (g : Nat) : Option (List Row) :=
  if q = 0 then cap (patL T (nI g) (nv 3) (nv 4) (nv 5))
  else if q = 13 then eachS (fun z => S (tn (nv 1)) z) (tn (nv 7))
  else if q = 12 then (S (tn (nv 1)) (tn (nv 13))).bind (fun A => cap A)
  else if 5 ≤ q then (S (tn (nv 1)) g).bind (fun A => cap (one1 E q nv A))
  else (S (tn (nv 1)) g).bind (fun A => (S (tn (nv 2)) g).bind (fun B => cap (two1 E q nv A B)))
noncomputable def tabs (T : List Tr) (E : Nat → Ex) (qk : Nat → Nat) (nv : Nat → Nat → Int32) : Nat → Nat → Nat → Option (List Row)
  | 0 => fun _ _ => none
  | k + 1 => fun i g => if i = k then nsem T E (qk k) (nv k) (tabs T E qk nv k) g else tabs T E qk nv k i g
noncomputable def sem (T : List Tr) (E : Nat → Ex) (qk : Nat → Nat) (nv : Nat → Nat → Int32) (i g : Nat) : Option (List Row) := nsem T E (qk i) (nv i) (tabs T E qk nv i) g
theorem tabs_at {T : List Tr} {E : Nat → Ex} {qk : Nat → Nat} {nv : Nat → Nat → Int32} {j g : Nat} : ∀ {k : Nat}, j < k → tabs T E qk nv k j g = sem T E qk nv j g
  | 0, h => absurd h (Nat.not_lt_zero _)
  | k + 1, h => by
    simp only [tabs]
    by_cases hj : j = k
    · rw [if_pos hj, hj]; rfl
    · rw [if_neg hj]; exact tabs_at (by omega)
/-- a node is as it should be -/
def NW (ne k q : Nat) (nv : Nat → Int32) : Prop := q ≤ 13 ∧ (q = 0 → nv 1 = -1 ∧ nv 2 = -1 ∧ plc (nv 3) = true ∧ plc (nv 4) = true ∧ plc (nv 5) = true) ∧
  (1 ≤ q → ∃ a, a < k ∧ nv 1 = nI a) ∧ (1 ≤ q → q ≤ 4 → ∃ b, b < k ∧ nv 2 = nI b) ∧ (5 ≤ q → nv 2 = -1) ∧
  (q = 4 → nv 6 = -1 ∨ ∃ e, e < ne ∧ nv 6 = nI e) ∧ (q = 5 ∨ q = 6 ∨ q = 10 ∨ q = 11 → ∃ e, e < ne ∧ nv 6 = nI e) ∧ (q = 6 ∨ q = 11 ∨ q = 13 → ∃ v, v < 6 ∧ nv 7 = nI v) ∧
  (q = 9 → ∃ u0 u1, u0 ≤ 1000 ∧ u1 ≤ 1000 ∧ nv 9 = nI u0 ∧ nv 10 = nI u1) ∧ (q = 12 → ∃ z, z < 4 ∧ nv 13 = nI z)
theorem eachS_c {S S' : Nat → Option (List Row)} {v : Nat} (h : ∀ z, 1 ≤ z → z < 4 → S z = S' z) : eachS S v = eachS S' v := by
  unfold eachS
  rw [h 1 (by omega) (by omega), h 2 (by omega) (by omega), h 3 (by omega) (by omega)]
  have e : grP S v 4 = grP S' v 4 := by
    simp [grP, h 1 (by omega) (by omega), h 2 (by omega) (by omega), h 3 (by omega) (by omega)]
  rw [e]
theorem nsem_c {T : List Tr} {E : Nat → Ex} {ne k q : Nat} {nv : Nat → Int32} {S S' : Nat → Nat → Option (List Row)} {g : Nat} (hw : NW ne k q nv) (hk : k < 2 ^ 31) (h : ∀ j z, j < k → S j z = S' j z) : nsem T E q nv S g = nsem T E q nv S' g := by
  unfold nsem
  by_cases h0 : q = 0
  · rw [if_pos h0, if_pos h0]
  rw [if_neg h0, if_neg h0]
  obtain ⟨a, ha, ea⟩ := hw.2.2.1 (by omega)
  have hA : ∀ z, S (tn (nv 1)) z = S' (tn (nv 1)) z := fun z => by rw [ea, tn_nI (by omega)]; exact h a z ha
  by_cases h13 : q = 13
  · rw [if_pos h13, if_pos h13]; exact eachS_c (fun z _ _ => hA z)
  rw [if_neg h13, if_neg h13, hA]
  by_cases h12 : q = 12
  · rw [if_pos h12, if_pos h12]
  rw [if_neg h12, if_neg h12]
  by_cases h5 : 5 ≤ q
  · rw [if_pos h5, if_pos h5, hA]
  rw [if_neg h5, if_neg h5, hA]
  obtain ⟨b, hb, eb⟩ := hw.2.2.2.1 (by omega) (by omega)
  rw [show S (tn (nv 2)) g = S' (tn (nv 2)) g by rw [eb, tn_nI (by omega)]; exact h b g hb]
theorem sem_eq {T : List Tr} {E : Nat → Ex} {qk : Nat → Nat} {nv : Nat → Nat → Int32} {ne i g : Nat} (hw : NW ne i (qk i) (nv i)) (hi : i < 2 ^ 31) : sem T E qk nv i g = nsem T E (qk i) (nv i) (sem T E qk nv) g := by
  unfold sem
  exact nsem_c hw hi (fun j z hj => tabs_at hj)
section CTM
variable {l : Launch} {D : va_G} {tys : List (ClassId × FieldType)} {base : Nat} {y : MethodName} {b : ByteArray} {n : Nat} {r : Option FieldType} {lev mc ms : Nat} {As : List Value} {V : gv_V} {post post' : Option Value → gv_V → Prop}
theorem ct_mono (h : ct l D tys base y b n r lev mc ms As V post) (hp : ∀ v V', post v V' → post' v V') : ct l D tys base y b n r lev mc ms As V post' := by
  unfold ct Met at h ⊢
  exact MetFree.mono h (fun _ _ h => h) (fun _ _ _ _ _ h => h) (fun a s o s' _ hq => by
    obtain ⟨⟨⟨v, V', h1, h2, h3⟩, h4⟩, h5⟩ := hq
    exact ⟨⟨⟨v, V', h1, hp v V' h2, h3⟩, h4⟩, h5⟩)
end CTM
