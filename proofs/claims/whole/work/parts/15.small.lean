set_option maxHeartbeats 4000000 in
set_option maxRecDepth 100000 in
theorem c_X5_contains {zl : Launch} {D : va_G} {cI cN cR : ClassId} {base : Nat} {V : gv_V} {tr : Nat} {tga tsa tpa tqa nt : Nat} {tg ts tp tq : Nat → Int32} {g0 s0 p0 o0 : Int32} {T : List Tr}  (h_tr : V tr = some (.inr (5, [.ref tga, .ref tsa, .ref tpa, .ref tqa, .int (nI nt)]))) (h_tga : V tga = some (.inl (cI, 60, .inl tg))) (h_tsa : V tsa = some (.inl (cI, 60, .inl ts))) (h_tpa : V tpa = some (.inl (cI, 60, .inl tp))) (h_tqa : V tqa = some (.inl (cI, 60, .inl tq))) (hT : TrR T nt tg ts tp tq) : ct zl D [(cI, .int), (cN, .object "AlgebraTree$Node"), (cR, .object "AlgebraTree$Rows")] base yX5_contains cX5_contains 6 (some .boolean) 0 0 0 [.ref tr, .int g0, .int s0, .int p0, .int o0] V (pi (bI (trIn T (g0, s0, p0, o0))) V) := by
  refine ct_of "AlgebraTree$Triples" rfl (by decide) (Nat.le_of_ble_eq_true rfl) ?_
  intro zp ze zs zm zargs zbelow zmeth zc C zr zlk znm
  refine k_pc (pc' := 0) (st' := []) rfl rfl ?_
  show K zp zl ze (gv_rm 0 0 0) zs zm zargs zbelow zmeth zc D base 6 (gv_E D [(cI, .int), (cN, .object "AlgebraTree$Node"), (cR, .object "AlgebraTree$Rows")] base zbelow zargs zs 0 0 (pi (bI (trIn T (g0, s0, p0, o0))) V)) V 0 0 [(0, .ref tr), (1, .int g0), (2, .int s0), (3, .int p0), (4, .int o0)] 0 []
  have hT1 := hT.1
  have hT2 := hT.2.1
  refine k_iconst (v := nI 0) C dX5_contains_0 rfl ?_
  refine k_istore (lv' := [(5, .int (nI 0)), (0, .ref tr), (1, .int g0), (2, .int s0), (3, .int p0), (4, .int o0)]) C dX5_contains_1 (by decide) rfl ?_
  have L3 : ∀ (zn1 : Nat) (k : Nat), nt - k < zn1 → (k ≤ nt) → (∀ z, z < k → ¬ trAt T z = (g0, s0, p0, o0)) → K zp zl ze (gv_rm 0 0 0) zs zm zargs zbelow zmeth zc D base 6 (gv_E D [(cI, .int), (cN, .object "AlgebraTree$Node"), (cR, .object "AlgebraTree$Rows")] base zbelow zargs zs 0 0 (pi (bI (trIn T (g0, s0, p0, o0))) V)) V 0 0 [(5, .int (nI k)), (0, .ref tr), (1, .int g0), (2, .int s0), (3, .int p0), (4, .int o0)] 3 [] := by
    intro zn1
    induction zn1 with
    | zero => intro k hlt; exact absurd hlt (Nat.not_lt_zero _)
    | succ zn1 ih3 =>
      intro k hlt3  hk hal
      refine k_iload C dX5_contains_3 0 rfl ?_
      refine k_aload_n C dX5_contains_5 rfl 1 rfl ?_
      refine k_get (ci := 5) (k := 4) C fl_5_24 h_tr rfl dX5_contains_6 ?_
      refine k_icmp_ge (tgt := 65) C dX5_contains_9 (by decide) (fun c9 => ?_) (fun c9 => ?_)
      · skip
        have b9 : nt ≤ k := (nI_leI (a := nt) (b := k) (by omega) (by omega)).mp c9
        refine k_iconst (v := nI 0) C dX5_contains_65 rfl ?_
        exact k_zret C zr zlk rfl (pi_of (bI_f (trIn_n (fun z hz => hal z (by omega)))) rfl) (Nat.le_refl _) (Nat.le_refl _) dX5_contains_66
      · skip
        have b9 : ¬ nt ≤ k := fun z => c9 ((nI_leI (a := nt) (b := k) (by omega) (by omega)).mpr z)
        refine k_aload_n C dX5_contains_12 rfl 1 rfl ?_
        refine k_get (ci := 5) (k := 0) C fl_5_9 h_tr rfl dX5_contains_13 ?_
        refine k_iload C dX5_contains_16 0 rfl ?_
        refine k_iald (v := tg k) C 0 h_tga rfl (vp_in_nI (by omega) (by omega)) (by rw [nI_clamp (by omega)]) dX5_contains_18 ?_
        refine k_iload_n C dX5_contains_19 rfl 2 rfl ?_
        refine k_icmp_ne (tgt := 59) C dX5_contains_20 (by decide) (fun c20 => ?_) (fun c20 => ?_)
        · skip
          refine k_iinc (v := nI (k + 1)) (lv' := [(5, .int (nI (k + 1))), (0, .ref tr), (1, .int g0), (2, .int s0), (3, .int p0), (4, .int o0)]) C dX5_contains_59 (k := 0) rfl (nI_add k 1) (by decide) rfl ?_
          refine k_goto (tgt := 3) C dX5_contains_62 (by decide) ?_
          exact ih3 (k + 1) (by omega)  (by omega) (fun z hz => by rcases Nat.lt_or_ge z k with h | h; (exact hal z h); (rw [show z = k by omega]; intro he; have h4 := hT.2.2 k (by omega); rw [he] at h4; simp_all))
        · skip
          refine k_aload_n C dX5_contains_23 rfl 1 rfl ?_
          refine k_get (ci := 5) (k := 1) C fl_5_15 h_tr rfl dX5_contains_24 ?_
          refine k_iload C dX5_contains_27 0 rfl ?_
          refine k_iald (v := ts k) C 0 h_tsa rfl (vp_in_nI (by omega) (by omega)) (by rw [nI_clamp (by omega)]) dX5_contains_29 ?_
          refine k_iload_n C dX5_contains_30 rfl 3 rfl ?_
          refine k_icmp_ne (tgt := 59) C dX5_contains_31 (by decide) (fun c31 => ?_) (fun c31 => ?_)
          · skip
            refine k_iinc (v := nI (k + 1)) (lv' := [(5, .int (nI (k + 1))), (0, .ref tr), (1, .int g0), (2, .int s0), (3, .int p0), (4, .int o0)]) C dX5_contains_59 (k := 0) rfl (nI_add k 1) (by decide) rfl ?_
            refine k_goto (tgt := 3) C dX5_contains_62 (by decide) ?_
            exact ih3 (k + 1) (by omega)  (by omega) (fun z hz => by rcases Nat.lt_or_ge z k with h | h; (exact hal z h); (rw [show z = k by omega]; intro he; have h4 := hT.2.2 k (by omega); rw [he] at h4; simp_all))
          · skip
            refine k_aload_n C dX5_contains_34 rfl 1 rfl ?_
            refine k_get (ci := 5) (k := 2) C fl_5_18 h_tr rfl dX5_contains_35 ?_
            refine k_iload C dX5_contains_38 0 rfl ?_
            refine k_iald (v := tp k) C 0 h_tpa rfl (vp_in_nI (by omega) (by omega)) (by rw [nI_clamp (by omega)]) dX5_contains_40 ?_
            refine k_iload_n C dX5_contains_41 rfl 4 rfl ?_
            refine k_icmp_ne (tgt := 59) C dX5_contains_42 (by decide) (fun c42 => ?_) (fun c42 => ?_)
            · skip
              refine k_iinc (v := nI (k + 1)) (lv' := [(5, .int (nI (k + 1))), (0, .ref tr), (1, .int g0), (2, .int s0), (3, .int p0), (4, .int o0)]) C dX5_contains_59 (k := 0) rfl (nI_add k 1) (by decide) rfl ?_
              refine k_goto (tgt := 3) C dX5_contains_62 (by decide) ?_
              exact ih3 (k + 1) (by omega)  (by omega) (fun z hz => by rcases Nat.lt_or_ge z k with h | h; (exact hal z h); (rw [show z = k by omega]; intro he; have h4 := hT.2.2 k (by omega); rw [he] at h4; simp_all))
            · skip
              refine k_aload_n C dX5_contains_45 rfl 1 rfl ?_
              refine k_get (ci := 5) (k := 3) C fl_5_21 h_tr rfl dX5_contains_46 ?_
              refine k_iload C dX5_contains_49 0 rfl ?_
              refine k_iald (v := tq k) C 0 h_tqa rfl (vp_in_nI (by omega) (by omega)) (by rw [nI_clamp (by omega)]) dX5_contains_51 ?_
              refine k_iload C dX5_contains_52 5 rfl ?_
              refine k_icmp_ne (tgt := 59) C dX5_contains_54 (by decide) (fun c54 => ?_) (fun c54 => ?_)
              · skip
                refine k_iinc (v := nI (k + 1)) (lv' := [(5, .int (nI (k + 1))), (0, .ref tr), (1, .int g0), (2, .int s0), (3, .int p0), (4, .int o0)]) C dX5_contains_59 (k := 0) rfl (nI_add k 1) (by decide) rfl ?_
                refine k_goto (tgt := 3) C dX5_contains_62 (by decide) ?_
                exact ih3 (k + 1) (by omega)  (by omega) (fun z hz => by rcases Nat.lt_or_ge z k with h | h; (exact hal z h); (rw [show z = k by omega]; intro he; have h4 := hT.2.2 k (by omega); rw [he] at h4; simp_all))
              · skip
                refine k_iconst (v := nI 1) C dX5_contains_57 rfl ?_
                exact k_zret C zr zlk rfl (pi_of (bI_t (trIn_y (i := k) (by omega) (by have h4 := hT.2.2 k (by omega); rw [c20, c31, c42, c54] at h4; exact Prod.ext h4.1.symm (Prod.ext h4.2.1.symm (Prod.ext h4.2.2.1.symm h4.2.2.2.symm))))) rfl) (Nat.le_refl _) (Nat.le_refl _) dX5_contains_58
  exact L3 _ 0 (Nat.lt_succ_self _)  (by omega) (fun _ h => absurd h (Nat.not_lt_zero _))
set_option maxHeartbeats 4000000 in
set_option maxRecDepth 100000 in
theorem c_trAddN {zl : Launch} {D : va_G} {cI cN cR : ClassId} {base : Nat} {V : gv_V} {tr : Nat} {tga tsa tpa tqa nt : Nat} {tg ts tp tq : Nat → Int32} {g0 s0 p0 o0 : Int32} {T : List Tr}  (h_tr : V tr = some (.inr (5, [.ref tga, .ref tsa, .ref tpa, .ref tqa, .int (nI nt)]))) (h_tga : V tga = some (.inl (cI, 60, .inl tg))) (h_tsa : V tsa = some (.inl (cI, 60, .inl ts))) (h_tpa : V tpa = some (.inl (cI, 60, .inl tp))) (h_tqa : V tqa = some (.inl (cI, 60, .inl tq))) (hT : TrR T nt tg ts tp tq) (hno : nt = 60 ∨ trIn T (g0, s0, p0, o0) = true) : ct zl D [(cI, .int), (cN, .object "AlgebraTree$Node"), (cR, .object "AlgebraTree$Rows")] base yX5_add cX5_add 5 (some .int) 1 0 0 [.ref tr, .int g0, .int s0, .int p0, .int o0] V (pi (-1 : Int32) V) := by
  refine ct_of "AlgebraTree$Triples" rfl (by decide) (Nat.le_of_ble_eq_true rfl) ?_
  intro zp ze zs zm zargs zbelow zmeth zc C zr zlk znm
  refine k_pc (pc' := 0) (st' := []) rfl rfl ?_
  show K zp zl ze (gv_rm 1 0 0) zs zm zargs zbelow zmeth zc D base 5 (gv_E D [(cI, .int), (cN, .object "AlgebraTree$Node"), (cR, .object "AlgebraTree$Rows")] base zbelow zargs zs 0 0 (pi (-1 : Int32) V)) V 0 0 [(0, .ref tr), (1, .int g0), (2, .int s0), (3, .int p0), (4, .int o0)] 0 []
  have hT1 := hT.1
  have hT2 := hT.2.1
  refine k_aload_n C dX5_add_0 rfl 0 rfl ?_
  refine k_get (ci := 5) (k := 4) C fl_5_24 h_tr rfl dX5_add_1 ?_
  refine k_bipush (v := nI 60) C dX5_add_4 rfl ?_
  refine k_icmp_eq (tgt := 21) C dX5_add_6 (by decide) (fun c6 => ?_) (fun c6 => ?_)
  · skip
    have b6 : nt = 60 := (nI_eq (a := nt) (b := 60) (by omega) (by omega)).mp c6
    refine k_iconst (v := (-1 : Int32)) C dX5_add_21 (by decide) ?_
    exact k_iret C zr zlk (pi_of rfl rfl) (Nat.le_refl _) (Nat.le_refl _) dX5_add_22
  · skip
    have b6 : ¬ nt = 60 := fun z => c6 ((nI_eq (a := nt) (b := 60) (by omega) (by omega)).mpr z)
    refine k_aload_n C dX5_add_9 rfl 0 rfl ?_
    refine k_iload_n C dX5_add_10 rfl 1 rfl ?_
    refine k_iload_n C dX5_add_11 rfl 2 rfl ?_
    refine k_iload_n C dX5_add_12 rfl 3 rfl ?_
    refine k_iload C dX5_add_13 4 rfl ?_
    refine k_callV_pi C mv_5_28 (c_X5_contains  h_tr h_tga h_tsa h_tpa h_tqa (by first | assumption | omega)) h_tr rfl rfl (by simp [Value.category]) ⟨by decide, by decide⟩ ⟨(by decide), (by decide)⟩ dX5_add_15 ?_
    refine k_if_eq (tgt := 23) C dX5_add_18 (by decide) (fun c18 => ?_) (fun c18 => ?_)
    · skip
      exact absurd (bI_0.mp c18) (by rw [hno.resolve_left b6]; decide)
    · skip
      have b18 : (trIn T (g0, s0, p0, o0)) = true := bI_n.mp c18
      refine k_iconst (v := (-1 : Int32)) C dX5_add_21 (by decide) ?_
      exact k_iret C zr zlk (pi_of rfl rfl) (Nat.le_refl _) (Nat.le_refl _) dX5_add_22
set_option maxHeartbeats 4000000 in
set_option maxRecDepth 100000 in
theorem c_trAdd {zl : Launch} {D : va_G} {cI cN cR : ClassId} {base : Nat} {V : gv_V} {tr : Nat} {tga tsa tpa tqa nt : Nat} {tg ts tp tq : Nat → Int32} {g0 s0 p0 o0 : Int32} {T : List Tr}  (h_tr : V tr = some (.inr (5, [.ref tga, .ref tsa, .ref tpa, .ref tqa, .int (nI nt)]))) (h_tga : V tga = some (.inl (cI, 60, .inl tg))) (h_tsa : V tsa = some (.inl (cI, 60, .inl ts))) (h_tpa : V tpa = some (.inl (cI, 60, .inl tp))) (h_tqa : V tqa = some (.inl (cI, 60, .inl tq))) (hT : TrR T nt tg ts tp tq) (hlt : nt < 60) (hno : trIn T (g0, s0, p0, o0) = false) (hdt : [tga, tsa, tpa, tqa].Nodup) : ct zl D [(cI, .int), (cN, .object "AlgebraTree$Node"), (cR, .object "AlgebraTree$Rows")] base yX5_add cX5_add 5 (some .int) 1 0 0 [.ref tr, .int g0, .int s0, .int p0, .int o0] V (pi (nI nt) (gv_up (gv_up (gv_up (gv_up (gv_up V tga (.inl (cI, 60, .inl (upd tg nt g0)))) tsa (.inl (cI, 60, .inl (upd ts nt s0)))) tpa (.inl (cI, 60, .inl (upd tp nt p0)))) tqa (.inl (cI, 60, .inl (upd tq nt o0)))) tr (.inr (5, [.ref tga, .ref tsa, .ref tpa, .ref tqa, .int (nI (nt + 1))])))) := by
  refine ct_of "AlgebraTree$Triples" rfl (by decide) (Nat.le_of_ble_eq_true rfl) ?_
  intro zp ze zs zm zargs zbelow zmeth zc C zr zlk znm
  refine k_pc (pc' := 0) (st' := []) rfl rfl ?_
  show K zp zl ze (gv_rm 1 0 0) zs zm zargs zbelow zmeth zc D base 5 (gv_E D [(cI, .int), (cN, .object "AlgebraTree$Node"), (cR, .object "AlgebraTree$Rows")] base zbelow zargs zs 0 0 (pi (nI nt) (gv_up (gv_up (gv_up (gv_up (gv_up V tga (.inl (cI, 60, .inl (upd tg nt g0)))) tsa (.inl (cI, 60, .inl (upd ts nt s0)))) tpa (.inl (cI, 60, .inl (upd tp nt p0)))) tqa (.inl (cI, 60, .inl (upd tq nt o0)))) tr (.inr (5, [.ref tga, .ref tsa, .ref tpa, .ref tqa, .int (nI (nt + 1))]))))) V 0 0 [(0, .ref tr), (1, .int g0), (2, .int s0), (3, .int p0), (4, .int o0)] 0 []
  refine k_aload_n C dX5_add_0 rfl 0 rfl ?_
  refine k_get (ci := 5) (k := 4) C fl_5_24 h_tr rfl dX5_add_1 ?_
  refine k_bipush (v := nI 60) C dX5_add_4 rfl ?_
  refine k_icmp_eq (tgt := 21) C dX5_add_6 (by decide) (fun c6 => ?_) (fun c6 => ?_)
  · skip
    exact absurd ((nI_eq (by omega) (by omega)).mp c6) (by omega)
  · skip
    have b6 : ¬ nt = 60 := fun z => c6 ((nI_eq (a := nt) (b := 60) (by omega) (by omega)).mpr z)
    refine k_aload_n C dX5_add_9 rfl 0 rfl ?_
    refine k_iload_n C dX5_add_10 rfl 1 rfl ?_
    refine k_iload_n C dX5_add_11 rfl 2 rfl ?_
    refine k_iload_n C dX5_add_12 rfl 3 rfl ?_
    refine k_iload C dX5_add_13 4 rfl ?_
    refine k_callV_pi C mv_5_28 (c_X5_contains  h_tr h_tga h_tsa h_tpa h_tqa (by first | assumption | omega)) h_tr rfl rfl (by simp [Value.category]) ⟨by decide, by decide⟩ ⟨(by decide), (by decide)⟩ dX5_add_15 ?_
    refine k_if_eq (tgt := 23) C dX5_add_18 (by decide) (fun c18 => ?_) (fun c18 => ?_)
    · skip
      have b18 : (trIn T (g0, s0, p0, o0)) = false := bI_0.mp c18
      refine k_aload_n C dX5_add_23 rfl 0 rfl ?_
      refine k_get (ci := 5) (k := 0) C fl_5_9 h_tr rfl dX5_add_24 ?_
      refine k_aload_n C dX5_add_27 rfl 0 rfl ?_
      refine k_get (ci := 5) (k := 4) C fl_5_24 h_tr rfl dX5_add_28 ?_
      refine k_iload_n C dX5_add_31 rfl 1 rfl ?_
      refine k_iast (f' := upd tg nt g0) C 0 h_tga rfl (vp_in_nI (by omega) (by omega)) (by rw [nI_clamp (by omega)]) dX5_add_32 ?_
      refine k_aload_n C dX5_add_33 rfl 0 rfl ?_
      have ne1 : nq tr tga := gv_ne h_tga h_tr (by simp)
      refine k_get (ci := 5) (k := 1) C fl_5_15 ((gv_up_n ne1).trans h_tr) rfl dX5_add_34 ?_
      refine k_aload_n C dX5_add_37 rfl 0 rfl ?_
      refine k_get (ci := 5) (k := 4) C fl_5_24 ((gv_up_n ne1).trans h_tr) rfl dX5_add_38 ?_
      refine k_iload_n C dX5_add_41 rfl 2 rfl ?_
      refine k_iast (f' := upd ts nt s0) C 0 ((gv_up_n (ndp hdt 1 0 rfl rfl (by decide))).trans h_tsa) rfl (vp_in_nI (by omega) (by omega)) (by rw [nI_clamp (by omega)]) dX5_add_42 ?_
      refine k_aload_n C dX5_add_43 rfl 0 rfl ?_
      have ne2 : nq tr tsa := gv_ne h_tsa h_tr (by simp)
      refine k_get (ci := 5) (k := 2) C fl_5_18 ((gv_up_n ne2).trans ((gv_up_n ne1).trans h_tr)) rfl dX5_add_44 ?_
      refine k_aload_n C dX5_add_47 rfl 0 rfl ?_
      refine k_get (ci := 5) (k := 4) C fl_5_24 ((gv_up_n ne2).trans ((gv_up_n ne1).trans h_tr)) rfl dX5_add_48 ?_
      refine k_iload_n C dX5_add_51 rfl 3 rfl ?_
      refine k_iast (f' := upd tp nt p0) C 0 ((gv_up_n (ndp hdt 2 1 rfl rfl (by decide))).trans ((gv_up_n (ndp hdt 2 0 rfl rfl (by decide))).trans h_tpa)) rfl (vp_in_nI (by omega) (by omega)) (by rw [nI_clamp (by omega)]) dX5_add_52 ?_
      refine k_aload_n C dX5_add_53 rfl 0 rfl ?_
      have ne3 : nq tr tpa := gv_ne h_tpa h_tr (by simp)
      refine k_get (ci := 5) (k := 3) C fl_5_21 ((gv_up_n ne3).trans ((gv_up_n ne2).trans ((gv_up_n ne1).trans h_tr))) rfl dX5_add_54 ?_
      refine k_aload_n C dX5_add_57 rfl 0 rfl ?_
      refine k_get (ci := 5) (k := 4) C fl_5_24 ((gv_up_n ne3).trans ((gv_up_n ne2).trans ((gv_up_n ne1).trans h_tr))) rfl dX5_add_58 ?_
      refine k_iload C dX5_add_61 4 rfl ?_
      refine k_iast (f' := upd tq nt o0) C 0 ((gv_up_n (ndp hdt 3 2 rfl rfl (by decide))).trans ((gv_up_n (ndp hdt 3 1 rfl rfl (by decide))).trans ((gv_up_n (ndp hdt 3 0 rfl rfl (by decide))).trans h_tqa))) rfl (vp_in_nI (by omega) (by omega)) (by rw [nI_clamp (by omega)]) dX5_add_63 ?_
      refine k_aload_n C dX5_add_64 rfl 0 rfl ?_
      refine k_dup C dX5_add_65 rfl ?_
      have ne4 : nq tr tqa := gv_ne h_tqa h_tr (by simp)
      refine k_get (ci := 5) (k := 4) C fl_5_24 ((gv_up_n ne4).trans ((gv_up_n ne3).trans ((gv_up_n ne2).trans ((gv_up_n ne1).trans h_tr)))) rfl dX5_add_66 ?_
      refine k_iconst (v := nI 1) C dX5_add_69 rfl ?_
      refine k_iadd C dX5_add_70 ?_
      refine k_val (y := nI (nt + 1)) (nI_add nt 1) ?_
      refine k_put (ci := 5) (k := 4) (fs' := [.ref tga, .ref tsa, .ref tpa, .ref tqa, .int (nI (nt + 1))]) C fl_5_24 pf_5_4 ((gv_up_n ne4).trans ((gv_up_n ne3).trans ((gv_up_n ne2).trans ((gv_up_n ne1).trans h_tr)))) rfl rfl (Nat.le_of_ble_eq_true rfl) rfl dX5_add_71 ?_
      refine k_aload_n C dX5_add_74 rfl 0 rfl ?_
      refine k_get (ci := 5) (k := 4) C fl_5_24 gv_up_s rfl dX5_add_75 ?_
      refine k_iconst (v := nI 1) C dX5_add_78 rfl ?_
      refine k_isub C dX5_add_79 ?_
      refine k_val (y := nI nt) (by rw [pk_sub (by omega), Nat.add_sub_cancel]) ?_
      exact k_iret C zr zlk (pi_of rfl rfl) (Nat.le_refl _) (Nat.le_refl _) dX5_add_80
    · skip
      exact absurd (bI_n.mp c18) (by rw [hno]; decide)
set_option maxHeartbeats 4000000 in
set_option maxRecDepth 100000 in
theorem c_X3_isFull {zl : Launch} {D : va_G} {cI cN cR : ClassId} {base : Nat} {V : gv_V} {nd nl nn : Nat}  (h_nd : V nd = some (.inr (3, [.ref nl, .int (nI nn)]))) (hnn : nn ≤ 30) : ct zl D [(cI, .int), (cN, .object "AlgebraTree$Node"), (cR, .object "AlgebraTree$Rows")] base yX3_isFull cX3_isFull 1 (some .boolean) 0 0 0 [.ref nd] V (pi (bI (decide (nn = 30))) V) := by
  refine ct_of "AlgebraTree$Nodes" rfl (by decide) (Nat.le_of_ble_eq_true rfl) ?_
  intro zp ze zs zm zargs zbelow zmeth zc C zr zlk znm
  refine k_pc (pc' := 0) (st' := []) rfl rfl ?_
  show K zp zl ze (gv_rm 0 0 0) zs zm zargs zbelow zmeth zc D base 1 (gv_E D [(cI, .int), (cN, .object "AlgebraTree$Node"), (cR, .object "AlgebraTree$Rows")] base zbelow zargs zs 0 0 (pi (bI (decide (nn = 30))) V)) V 0 0 [(0, .ref nd)] 0 []
  refine k_aload_n C dX3_isFull_0 rfl 0 rfl ?_
  refine k_get (ci := 3) (k := 1) C fl_3_17 h_nd rfl dX3_isFull_1 ?_
  refine k_bipush (v := nI 30) C dX3_isFull_4 rfl ?_
  refine k_icmp_ne (tgt := 13) C dX3_isFull_6 (by decide) (fun c6 => ?_) (fun c6 => ?_)
  · skip
    have b6 : ¬ nn = 30 := fun z => c6 ((nI_eq (a := nn) (b := 30) (by omega) (by omega)).mpr z)
    refine k_iconst (v := nI 0) C dX3_isFull_13 rfl ?_
    exact k_zret C zr zlk rfl (pi_of (by first | exact bI_t (by simpa using b6) | exact bI_f (by simpa using b6)) rfl) (Nat.le_refl _) (Nat.le_refl _) dX3_isFull_14
  · skip
    have b6 : nn = 30 := (nI_eq (a := nn) (b := 30) (by omega) (by omega)).mp c6
    refine k_iconst (v := nI 1) C dX3_isFull_9 rfl ?_
    refine k_goto (tgt := 14) C dX3_isFull_10 (by decide) ?_
    exact k_zret C zr zlk rfl (pi_of (by first | exact bI_t (by simpa using b6) | exact bI_f (by simpa using b6)) rfl) (Nat.le_refl _) (Nat.le_refl _) dX3_isFull_14
set_option maxHeartbeats 4000000 in
set_option maxRecDepth 100000 in
theorem c_X3_has {zl : Launch} {D : va_G} {cI cN cR : ClassId} {base : Nat} {V : gv_V} {nd nl nn : Nat} {x : Int32}  (h_nd : V nd = some (.inr (3, [.ref nl, .int (nI nn)])))  : ct zl D [(cI, .int), (cN, .object "AlgebraTree$Node"), (cR, .object "AlgebraTree$Rows")] base yX3_has cX3_has 2 (some .boolean) 1 0 0 [.ref nd, .int x] V (pi (bI (blw x (nI nn))) V) := by
  refine ct_of "AlgebraTree$Nodes" rfl (by decide) (Nat.le_of_ble_eq_true rfl) ?_
  intro zp ze zs zm zargs zbelow zmeth zc C zr zlk znm
  refine k_pc (pc' := 0) (st' := []) rfl rfl ?_
  show K zp zl ze (gv_rm 1 0 0) zs zm zargs zbelow zmeth zc D base 2 (gv_E D [(cI, .int), (cN, .object "AlgebraTree$Node"), (cR, .object "AlgebraTree$Rows")] base zbelow zargs zs 0 0 (pi (bI (blw x (nI nn))) V)) V 0 0 [(0, .ref nd), (1, .int x)] 0 []
  refine k_iload_n C dX3_has_0 rfl 1 rfl ?_
  refine k_aload_n C dX3_has_1 rfl 0 rfl ?_
  refine k_get (ci := 3) (k := 1) C fl_3_17 h_nd rfl dX3_has_2 ?_
  refine k_callS_pi C ms_3_21 (c_X6_isBelow   ) rfl rfl (by simp [Value.category]) ⟨by decide, by decide⟩ ⟨(by decide), (by decide)⟩ dX3_has_5 ?_
  exact k_zret C zr zlk bI_nar (pi_of rfl rfl) (Nat.le_refl _) (Nat.le_refl _) dX3_has_8
set_option maxHeartbeats 4000000 in
set_option maxRecDepth 100000 in
theorem c_X3_canStandOver {zl : Launch} {D : va_G} {cI cN cR : ClassId} {base : Nat} {V : gv_V} {nd nl nn : Nat} {x : Int32}  (h_nd : V nd = some (.inr (3, [.ref nl, .int (nI nn)]))) (hnn : nn ≤ 30) : ct zl D [(cI, .int), (cN, .object "AlgebraTree$Node"), (cR, .object "AlgebraTree$Rows")] base yX3_canStandOver cX3_canStandOver 2 (some .boolean) 2 0 0 [.ref nd, .int x] V (pi (bI (!decide (nn = 30) && blw x (nI nn))) V) := by
  refine ct_of "AlgebraTree$Nodes" rfl (by decide) (Nat.le_of_ble_eq_true rfl) ?_
  intro zp ze zs zm zargs zbelow zmeth zc C zr zlk znm
  refine k_pc (pc' := 0) (st' := []) rfl rfl ?_
  show K zp zl ze (gv_rm 2 0 0) zs zm zargs zbelow zmeth zc D base 2 (gv_E D [(cI, .int), (cN, .object "AlgebraTree$Node"), (cR, .object "AlgebraTree$Rows")] base zbelow zargs zs 0 0 (pi (bI (!decide (nn = 30) && blw x (nI nn))) V)) V 0 0 [(0, .ref nd), (1, .int x)] 0 []
  refine k_aload_n C dX3_canStandOver_0 rfl 0 rfl ?_
  refine k_callV_pi C mv_3_25 (c_X3_isFull  h_nd (by first | assumption | omega)) h_nd rfl rfl (by simp [Value.category]) ⟨by decide, by decide⟩ ⟨(by decide), (by decide)⟩ dX3_canStandOver_1 ?_
  refine k_if_ne (tgt := 19) C dX3_canStandOver_4 (by decide) (fun c4 => ?_) (fun c4 => ?_)
  · skip
    have b4 : (decide (nn = 30)) = true := bI_n.mp c4
    refine k_iconst (v := nI 0) C dX3_canStandOver_19 rfl ?_
    exact k_zret C zr zlk rfl (pi_of (by first | exact bI_t (by simp_all) | exact bI_f (by simp_all)) rfl) (Nat.le_refl _) (Nat.le_refl _) dX3_canStandOver_20
  · skip
    have b4 : (decide (nn = 30)) = false := bI_0.mp c4
    refine k_aload_n C dX3_canStandOver_7 rfl 0 rfl ?_
    refine k_iload_n C dX3_canStandOver_8 rfl 1 rfl ?_
    refine k_callV_pi C mv_3_29 (c_X3_has  h_nd ) h_nd rfl rfl (by simp [Value.category]) ⟨by decide, by decide⟩ ⟨(by decide), (by decide)⟩ dX3_canStandOver_9 ?_
    refine k_if_eq (tgt := 19) C dX3_canStandOver_12 (by decide) (fun c12 => ?_) (fun c12 => ?_)
    · skip
      have b12 : (blw x (nI nn)) = false := bI_0.mp c12
      refine k_iconst (v := nI 0) C dX3_canStandOver_19 rfl ?_
      exact k_zret C zr zlk rfl (pi_of (by first | exact bI_t (by simp_all) | exact bI_f (by simp_all)) rfl) (Nat.le_refl _) (Nat.le_refl _) dX3_canStandOver_20
    · skip
      have b12 : (blw x (nI nn)) = true := bI_n.mp c12
      refine k_iconst (v := nI 1) C dX3_canStandOver_15 rfl ?_
      refine k_goto (tgt := 20) C dX3_canStandOver_16 (by decide) ?_
      exact k_zret C zr zlk rfl (pi_of (by first | exact bI_t (by simp_all) | exact bI_f (by simp_all)) rfl) (Nat.le_refl _) (Nat.le_refl _) dX3_canStandOver_20
set_option maxHeartbeats 4000000 in
set_option maxRecDepth 100000 in
theorem c_X3_add {zl : Launch} {D : va_G} {cI cN cR : ClassId} {base : Nat} {V : gv_V} {nd nl nn : Nat} {nf : Nat → Option Nat} {no : Nat} {kind na nb ps pp po ex va st fr ln dn ag gr : Int32}  (h_nd : V nd = some (.inr (3, [.ref nl, .int (nI nn)]))) (h_nl : V nl = some (.inl (cN, 30, .inr (.inr (.inr (.inr nf)))))) (h_no : V no = some (.inr (2, [.int kind, .int na, .int nb, .int ps, .int pp, .int po, .int ex, .int va, .int st, .int fr, .int ln, .int dn, .int ag, .int gr]))) (hnn : nn < 30) : ct zl D [(cI, .int), (cN, .object "AlgebraTree$Node"), (cR, .object "AlgebraTree$Rows")] base yX3_add cX3_add 2 (some .int) 1 0 0 [.ref nd, .ref no] V (pi (nI nn) (gv_up (gv_up V nl (.inl (cN, 30, .inr (.inr (.inr (.inr (va_up nf nn (some no)))))))) nd (.inr (3, [.ref nl, .int (nI (nn + 1))])))) := by
  refine ct_of "AlgebraTree$Nodes" rfl (by decide) (Nat.le_of_ble_eq_true rfl) ?_
  intro zp ze zs zm zargs zbelow zmeth zc C zr zlk znm
  refine k_pc (pc' := 0) (st' := []) rfl rfl ?_
  show K zp zl ze (gv_rm 1 0 0) zs zm zargs zbelow zmeth zc D base 2 (gv_E D [(cI, .int), (cN, .object "AlgebraTree$Node"), (cR, .object "AlgebraTree$Rows")] base zbelow zargs zs 0 0 (pi (nI nn) (gv_up (gv_up V nl (.inl (cN, 30, .inr (.inr (.inr (.inr (va_up nf nn (some no)))))))) nd (.inr (3, [.ref nl, .int (nI (nn + 1))]))))) V 0 0 [(0, .ref nd), (1, .ref no)] 0 []
  refine k_aload_n C dX3_add_0 rfl 0 rfl ?_
  refine k_callV_pi C mv_3_25 (c_X3_isFull  h_nd (by first | assumption | omega)) h_nd rfl rfl (by simp [Value.category]) ⟨by decide, by decide⟩ ⟨(by decide), (by decide)⟩ dX3_add_1 ?_
  refine k_if_eq (tgt := 9) C dX3_add_4 (by decide) (fun c4 => ?_) (fun c4 => ?_)
  · skip
    have b4 : (decide (nn = 30)) = false := bI_0.mp c4
    refine k_aload_n C dX3_add_9 rfl 0 rfl ?_
    refine k_get (ci := 3) (k := 0) C fl_3_11 h_nd rfl dX3_add_10 ?_
    refine k_aload_n C dX3_add_13 rfl 0 rfl ?_
    refine k_get (ci := 3) (k := 1) C fl_3_17 h_nd rfl dX3_add_14 ?_
    refine k_aload_n C dX3_add_17 rfl 1 rfl ?_
    refine k_aast (f' := va_up nf nn (some no)) C 1 2 h_nl rfl h_no rfl (vp_in_nI (by omega) (by omega)) (by rw [nI_clamp (by omega)]) dX3_add_18 ?_
    refine k_aload_n C dX3_add_19 rfl 0 rfl ?_
    refine k_dup C dX3_add_20 rfl ?_
    have ne1 : nq nd nl := gv_ne h_nl h_nd (by simp)
    refine k_get (ci := 3) (k := 1) C fl_3_17 ((gv_up_n ne1).trans h_nd) rfl dX3_add_21 ?_
    refine k_iconst (v := nI 1) C dX3_add_24 rfl ?_
    refine k_iadd C dX3_add_25 ?_
    refine k_val (y := nI (nn + 1)) (nI_add nn 1) ?_
    refine k_put (ci := 3) (k := 1) (fs' := [.ref nl, .int (nI (nn + 1))]) C fl_3_17 pf_3_1 ((gv_up_n ne1).trans h_nd) rfl rfl (Nat.le_of_ble_eq_true rfl) rfl dX3_add_26 ?_
    refine k_aload_n C dX3_add_29 rfl 0 rfl ?_
    refine k_get (ci := 3) (k := 1) C fl_3_17 gv_up_s rfl dX3_add_30 ?_
    refine k_iconst (v := nI 1) C dX3_add_33 rfl ?_
    refine k_isub C dX3_add_34 ?_
    refine k_val (y := nI nn) (by rw [pk_sub (by omega), Nat.add_sub_cancel]) ?_
    exact k_iret C zr zlk (pi_of rfl rfl) (Nat.le_refl _) (Nat.le_refl _) dX3_add_35
  · skip
    exact absurd (bI_n.mp c4) (by rw [decide_eq_false (by omega)]; decide)
set_option maxHeartbeats 4000000 in
set_option maxRecDepth 100000 in
theorem c_X3_at {zl : Launch} {D : va_G} {cI cN cR : ClassId} {base : Nat} {V : gv_V} {nd nl nn : Nat} {nf : Nat → Option Nat} {i no : Nat}  (h_nd : V nd = some (.inr (3, [.ref nl, .int (nI nn)]))) (h_nl : V nl = some (.inl (cN, 30, .inr (.inr (.inr (.inr nf)))))) (hi : i < 30) (hno : nf i = some no) : ct zl D [(cI, .int), (cN, .object "AlgebraTree$Node"), (cR, .object "AlgebraTree$Rows")] base yX3_at cX3_at 2 (some (.object "AlgebraTree$Node")) 0 0 0 [.ref nd, .int (nI i)] V (pr no V) := by
  refine ct_of "AlgebraTree$Nodes" rfl (by decide) (Nat.le_of_ble_eq_true rfl) ?_
  intro zp ze zs zm zargs zbelow zmeth zc C zr zlk znm
  refine k_pc (pc' := 0) (st' := []) rfl rfl ?_
  show K zp zl ze (gv_rm 0 0 0) zs zm zargs zbelow zmeth zc D base 2 (gv_E D [(cI, .int), (cN, .object "AlgebraTree$Node"), (cR, .object "AlgebraTree$Rows")] base zbelow zargs zs 0 0 (pr no V)) V 0 0 [(0, .ref nd), (1, .int (nI i))] 0 []
  refine k_aload_n C dX3_at_0 rfl 0 rfl ?_
  refine k_get (ci := 3) (k := 0) C fl_3_11 h_nd rfl dX3_at_1 ?_
  refine k_iload_n C dX3_at_4 rfl 1 rfl ?_
  refine k_aald (v := .ref no) C 1 h_nl rfl (vp_in_nI (by omega) (by omega)) (by rw [nI_clamp (by omega), hno]; rfl) dX3_at_5 ?_
  exact k_aret C zr zlk (pr_of rfl rfl) (Nat.le_refl _) (Nat.le_refl _) dX3_at_6
set_option maxHeartbeats 4000000 in
set_option maxRecDepth 100000 in
theorem c_X2_init {zl : Launch} {D : va_G} {cI cN cR : ClassId} {base : Nat} {V : gv_V} {no : Nat} {kind na nb ps pp po ex va st fr ln dn ag gr : Int32} {x y z : Int32}  (h_no : V no = some (.inr (2, [.int kind, .int na, .int nb, .int ps, .int pp, .int po, .int ex, .int va, .int st, .int fr, .int ln, .int dn, .int ag, .int gr])))  : ct zl D [(cI, .int), (cN, .object "AlgebraTree$Node"), (cR, .object "AlgebraTree$Rows")] base yX2_init cX2_init 4 none 1 0 0 [.ref no, .int x, .int y, .int z] V (pv (gv_up V no (.inr (2, [.int x, .int y, .int z, .int ps, .int pp, .int po, .int ex, .int va, .int st, .int fr, .int ln, .int dn, .int ag, .int gr])))) := by
  refine ct_of "AlgebraTree$Node" rfl (by decide) (Nat.le_of_ble_eq_true rfl) ?_
  intro zp ze zs zm zargs zbelow zmeth zc C zr zlk znm
  refine k_pc (pc' := 0) (st' := []) rfl rfl ?_
  show K zp zl ze (gv_rm 1 0 0) zs zm zargs zbelow zmeth zc D base 4 (gv_E D [(cI, .int), (cN, .object "AlgebraTree$Node"), (cR, .object "AlgebraTree$Rows")] base zbelow zargs zs 0 0 (pv (gv_up V no (.inr (2, [.int x, .int y, .int z, .int ps, .int pp, .int po, .int ex, .int va, .int st, .int fr, .int ln, .int dn, .int ag, .int gr]))))) V 0 0 [(0, .ref no), (1, .int x), (2, .int y), (3, .int z)] 0 []
  refine k_aload_n C dX2_init_0 rfl 0 rfl ?_
  refine k_objInit C wd_270 wd_61 wd_62 dX2_init_1 (by decide) (by decide) ?_
  refine k_aload_n C dX2_init_4 rfl 0 rfl ?_
  refine k_iload_n C dX2_init_5 rfl 1 rfl ?_
  refine k_putF (ci := 2) (k := 0) (fs' := [.int x, .int na, .int nb, .int ps, .int pp, .int po, .int ex, .int va, .int st, .int fr, .int ln, .int dn, .int ag, .int gr]) C znm ff_2_7 pf_2_0 h_no rfl rfl (Nat.le_of_ble_eq_true rfl) rfl dX2_init_6 ?_
  refine k_aload_n C dX2_init_9 rfl 0 rfl ?_
  refine k_iload_n C dX2_init_10 rfl 2 rfl ?_
  refine k_putF (ci := 2) (k := 1) (fs' := [.int x, .int y, .int nb, .int ps, .int pp, .int po, .int ex, .int va, .int st, .int fr, .int ln, .int dn, .int ag, .int gr]) C znm ff_2_13 pf_2_1 gv_up_s rfl rfl (Nat.le_of_ble_eq_true rfl) rfl dX2_init_11 ?_
  refine k_view (V1 := gv_up V no (.inr (2, [.int x, .int y, .int nb, .int ps, .int pp, .int po, .int ex, .int va, .int st, .int fr, .int ln, .int dn, .int ag, .int gr]))) gv_uu ?_
  refine k_aload_n C dX2_init_14 rfl 0 rfl ?_
  refine k_iload_n C dX2_init_15 rfl 3 rfl ?_
  refine k_putF (ci := 2) (k := 2) (fs' := [.int x, .int y, .int z, .int ps, .int pp, .int po, .int ex, .int va, .int st, .int fr, .int ln, .int dn, .int ag, .int gr]) C znm ff_2_16 pf_2_2 gv_up_s rfl rfl (Nat.le_of_ble_eq_true rfl) rfl dX2_init_16 ?_
  refine k_view (V1 := gv_up V no (.inr (2, [.int x, .int y, .int z, .int ps, .int pp, .int po, .int ex, .int va, .int st, .int fr, .int ln, .int dn, .int ag, .int gr]))) gv_uu ?_
  exact k_vret C zr zlk (pv_of rfl) (Nat.le_refl _) (Nat.le_refl _) dX2_init_19
set_option maxHeartbeats 4000000 in
set_option maxRecDepth 100000 in
theorem c_X4_init {zl : Launch} {D : va_G} {cI cN cR : ClassId} {base : Nat} {V : gv_V} {a : Nat}  (h_a : V a = some (.inr (4, [.null, .int 0, .int 0, .int 0])))  : ct zl D [(cI, .int), (cN, .object "AlgebraTree$Node"), (cR, .object "AlgebraTree$Rows")] base yX4_init cX4_init 1 none 1 1 486 [.ref a] V (fun zv zV => ∃ q : Nat, zv = none ∧ zV = gv_up (gv_up V q (.inl (cI, 486, .inl (fun _ => 0)))) a (.inr (4, [.ref q, .int 0, .int 0, .int (-1 : Int32)])) ∧ (V q = none) ∧ (nq a q)) := by
  refine ct_of "AlgebraTree$Rows" rfl (by decide) (Nat.le_of_ble_eq_true rfl) ?_
  intro zp ze zs zm zargs zbelow zmeth zc C zr zlk znm
  refine k_pc (pc' := 0) (st' := []) rfl rfl ?_
  show K zp zl ze (gv_rm 1 1 486) zs zm zargs zbelow zmeth zc D base 1 (gv_E D [(cI, .int), (cN, .object "AlgebraTree$Node"), (cR, .object "AlgebraTree$Rows")] base zbelow zargs zs 1 486 (fun zv zV => ∃ q : Nat, zv = none ∧ zV = gv_up (gv_up V q (.inl (cI, 486, .inl (fun _ => 0)))) a (.inr (4, [.ref q, .int 0, .int 0, .int (-1 : Int32)])) ∧ (V q = none) ∧ (nq a q))) V 0 0 [(0, .ref a)] 0 []
  refine k_aload_n C dX4_init_0 rfl 0 rfl ?_
  refine k_objInit C wd_169 wd_61 wd_62 dX4_init_1 (by decide) (by decide) ?_
  refine k_aload_n C dX4_init_4 rfl 0 rfl ?_
  refine k_sipush (v := nI 486) C dX4_init_5 rfl ?_
  refine k_newi C 0 rfl wd_96 (nI_pos (by decide)) (nI_clamp (by decide)) (by decide) (by decide) (by decide) dX4_init_8 (fun q1 hq1 => ?_)
  have ne2 : nq a q1 := gv_nf hq1 h_a
  refine k_putF (ci := 4) (k := 0) (fs' := [.ref q1, .int 0, .int 0, .int 0]) C znm ff_4_9 pf_4_0 ((gv_up_n ne2).trans h_a) rfl rfl (Nat.le_of_ble_eq_true rfl) rfl dX4_init_10 ?_
  refine k_aload_n C dX4_init_13 rfl 0 rfl ?_
  refine k_iconst (v := (-1 : Int32)) C dX4_init_14 (by decide) ?_
  refine k_put (ci := 4) (k := 3) (fs' := [.ref q1, .int 0, .int 0, .int (-1 : Int32)]) C fl_4_15 pf_4_3 gv_up_s rfl rfl (Nat.le_of_ble_eq_true rfl) rfl dX4_init_15 ?_
  refine k_view (V1 := gv_up (gv_up V q1 (.inl (cI, 486, .inl (fun _ => 0)))) a (.inr (4, [.ref q1, .int 0, .int 0, .int (-1 : Int32)]))) gv_uu ?_
  exact k_vret C zr zlk ⟨q1, rfl, rfl, hq1, ne2⟩ (Nat.le_refl _) (Nat.le_refl _) dX4_init_18
set_option maxHeartbeats 4000000 in
set_option maxRecDepth 100000 in
theorem c_tableOf {zl : Launch} {D : va_G} {cI cN cR : ClassId} {base : Nat} {V : gv_V} {mo tr nd tb wg ky pl : Nat} {xe : Nat} {tf : Nat → Option Nat} {i g0 t : Nat}  (h_mo : V mo = some (.inr (1, [.ref tr, .ref xe, .ref nd, .ref tb, .ref wg, .ref ky, .ref pl]))) (h_tb : V tb = some (.inl (cR, 120, .inr (.inr (.inr (.inr tf)))))) (hi : i < 30) (hg : g0 < 4) (ht : tf (i * 4 + g0) = some t) : ct zl D [(cI, .int), (cN, .object "AlgebraTree$Node"), (cR, .object "AlgebraTree$Rows")] base yX1_tableOf cX1_tableOf 4 (some (.object "AlgebraTree$Rows")) 2 0 0 [.ref mo, .int (nI i), .int (nI g0)] V (pr t V) := by
  refine ct_of "AlgebraTree$Maker" rfl (by decide) (Nat.le_of_ble_eq_true rfl) ?_
  intro zp ze zs zm zargs zbelow zmeth zc C zr zlk znm
  refine k_pc (pc' := 0) (st' := []) rfl rfl ?_
  show K zp zl ze (gv_rm 2 0 0) zs zm zargs zbelow zmeth zc D base 4 (gv_E D [(cI, .int), (cN, .object "AlgebraTree$Node"), (cR, .object "AlgebraTree$Rows")] base zbelow zargs zs 0 0 (pr t V)) V 0 0 [(0, .ref mo), (1, .int (nI i)), (2, .int (nI g0))] 0 []
  refine k_iload_n C dX1_tableOf_0 rfl 1 rfl ?_
  refine k_iconst (v := nI 4) C dX1_tableOf_1 rfl ?_
  refine k_imul C dX1_tableOf_2 ?_
  refine k_val (y := nI (i * 4)) (pk_mul i 4) ?_
  refine k_iload_n C dX1_tableOf_3 rfl 2 rfl ?_
  refine k_iadd C dX1_tableOf_4 ?_
  refine k_val (y := nI ((i * 4) + g0)) (nI_add (i * 4) g0) ?_
  refine k_istore_n (lv' := [(3, .int (nI ((i * 4) + g0))), (0, .ref mo), (1, .int (nI i)), (2, .int (nI g0))]) C dX1_tableOf_5 rfl (by decide) rfl ?_
  refine k_aload_n C dX1_tableOf_6 rfl 1 rfl ?_
  refine k_get (ci := 1) (k := 3) C fl_1_34 h_mo rfl dX1_tableOf_7 ?_
  refine k_iload_n C dX1_tableOf_10 rfl 0 rfl ?_
  refine k_aald (v := .ref t) C 2 h_tb rfl (vp_in_nI (by omega) (by omega)) (by rw [nI_clamp (by omega), ht]; rfl) dX1_tableOf_11 ?_
  refine k_ifnonnull (tgt := 28) C dX1_tableOf_12 (by decide) ?_
  refine k_aload_n C dX1_tableOf_28 rfl 1 rfl ?_
  refine k_get (ci := 1) (k := 3) C fl_1_34 h_mo rfl dX1_tableOf_29 ?_
  refine k_iload_n C dX1_tableOf_32 rfl 0 rfl ?_
  refine k_aald (v := .ref t) C 2 h_tb rfl (vp_in_nI (by omega) (by omega)) (by rw [nI_clamp (by omega), ht]; rfl) dX1_tableOf_33 ?_
  exact k_aret C zr zlk (pr_of rfl rfl) (Nat.le_refl _) (Nat.le_refl _) dX1_tableOf_34
set_option maxHeartbeats 4000000 in
set_option maxRecDepth 100000 in
theorem c_tableOfN {zl : Launch} {D : va_G} {cI cN cR : ClassId} {base : Nat} {V : gv_V} {mo tr nd tb wg ky pl : Nat} {xe : Nat} {tf : Nat → Option Nat} {i g0 : Nat}  (h_mo : V mo = some (.inr (1, [.ref tr, .ref xe, .ref nd, .ref tb, .ref wg, .ref ky, .ref pl]))) (h_tb : V tb = some (.inl (cR, 120, .inr (.inr (.inr (.inr tf)))))) (hi : i < 30) (hg : g0 < 4) (ht : tf (i * 4 + g0) = none) : ct zl D [(cI, .int), (cN, .object "AlgebraTree$Node"), (cR, .object "AlgebraTree$Rows")] base yX1_tableOf cX1_tableOf 4 (some (.object "AlgebraTree$Rows")) 2 2 490 [.ref mo, .int (nI i), .int (nI g0)] V (fun zv zV => ∃ t : Nat, ∃ q : Nat, zv = some (.ref t) ∧ zV = gv_up (gv_up (gv_up V t (.inr (4, [.ref q, .int 0, .int 0, .int (-1 : Int32)]))) q (.inl (cI, 486, .inl (fun _ => 0)))) tb (.inl (cR, 120, .inr (.inr (.inr (.inr (va_up tf (i * 4 + g0) (some t))))))) ∧ (V t = none) ∧ (V q = none) ∧ (nq t q)) := by
  refine ct_of "AlgebraTree$Maker" rfl (by decide) (Nat.le_of_ble_eq_true rfl) ?_
  intro zp ze zs zm zargs zbelow zmeth zc C zr zlk znm
  refine k_pc (pc' := 0) (st' := []) rfl rfl ?_
  show K zp zl ze (gv_rm 2 2 490) zs zm zargs zbelow zmeth zc D base 4 (gv_E D [(cI, .int), (cN, .object "AlgebraTree$Node"), (cR, .object "AlgebraTree$Rows")] base zbelow zargs zs 2 490 (fun zv zV => ∃ t : Nat, ∃ q : Nat, zv = some (.ref t) ∧ zV = gv_up (gv_up (gv_up V t (.inr (4, [.ref q, .int 0, .int 0, .int (-1 : Int32)]))) q (.inl (cI, 486, .inl (fun _ => 0)))) tb (.inl (cR, 120, .inr (.inr (.inr (.inr (va_up tf (i * 4 + g0) (some t))))))) ∧ (V t = none) ∧ (V q = none) ∧ (nq t q))) V 0 0 [(0, .ref mo), (1, .int (nI i)), (2, .int (nI g0))] 0 []
  refine k_iload_n C dX1_tableOf_0 rfl 1 rfl ?_
  refine k_iconst (v := nI 4) C dX1_tableOf_1 rfl ?_
  refine k_imul C dX1_tableOf_2 ?_
  refine k_val (y := nI (i * 4)) (pk_mul i 4) ?_
  refine k_iload_n C dX1_tableOf_3 rfl 2 rfl ?_
  refine k_iadd C dX1_tableOf_4 ?_
  refine k_val (y := nI ((i * 4) + g0)) (nI_add (i * 4) g0) ?_
  refine k_istore_n (lv' := [(3, .int (nI ((i * 4) + g0))), (0, .ref mo), (1, .int (nI i)), (2, .int (nI g0))]) C dX1_tableOf_5 rfl (by decide) rfl ?_
  refine k_aload_n C dX1_tableOf_6 rfl 1 rfl ?_
  refine k_get (ci := 1) (k := 3) C fl_1_34 h_mo rfl dX1_tableOf_7 ?_
  refine k_iload_n C dX1_tableOf_10 rfl 0 rfl ?_
  refine k_aald (v := .null) C 2 h_tb rfl (vp_in_nI (by omega) (by omega)) (by rw [nI_clamp (by omega), ht]; rfl) dX1_tableOf_11 ?_
  refine k_ifnonnullN C dX1_tableOf_12 ?_
  refine k_aload_n C dX1_tableOf_15 rfl 1 rfl ?_
  refine k_get (ci := 1) (k := 3) C fl_1_34 h_mo rfl dX1_tableOf_16 ?_
  refine k_iload_n C dX1_tableOf_19 rfl 0 rfl ?_
  refine k_new C nw_1_32 (by decide) (by decide) dX1_tableOf_20 (fun q1 hq1 => ?_)
  have ne2 : nq mo q1 := gv_nf hq1 h_mo
  have ne3 : nq tb q1 := gv_nf hq1 h_tb
  refine k_dup C dX1_tableOf_23 rfl ?_
  refine k_callI C mi_1_83 (c_X4_init  gv_up_s ) rfl rfl (by simp [Value.category]) ⟨by decide, by decide⟩ ⟨(by decide), (by decide)⟩ dX1_tableOf_24 (fun zv zV zh => ?_)
  obtain ⟨q_w4, rfl, rfl, hq_w4, hqa_w4⟩ := zh
  refine k_pc (pc' := 27) (st' := [.ref q1, .int (nI ((i * 4) + g0)), .ref tb]) rfl rfl ?_
  have ne5 : nq mo q_w4 := gv_nf hq_w4 ((gv_up_n ne2).trans h_mo)
  have ne6 : nq tb q_w4 := gv_nf hq_w4 ((gv_up_n ne3).trans h_tb)
  have ne7 : nq q1 q_w4 := gv_nf hq_w4 gv_up_s
  refine k_view (V1 := gv_up (gv_up V q1 (.inr (4, [.ref q_w4, .int 0, .int 0, .int (-1 : Int32)]))) q_w4 (.inl (cI, 486, .inl (fun _ => 0)))) ((gv_uc hqa_w4).trans (congrArg (fun W => gv_up W q_w4 (.inl (cI, 486, .inl (fun _ => 0)))) gv_uu)) ?_
  refine k_aast (f' := va_up tf ((i * 4) + g0) (some q1)) C 2 4 ((gv_up_n ne6).trans ((gv_up_n ne3).trans h_tb)) rfl ((gv_up_n hqa_w4).trans gv_up_s) rfl (vp_in_nI (by omega) (by omega)) (by rw [nI_clamp (by omega)]) dX1_tableOf_27 ?_
  refine k_aload_n C dX1_tableOf_28 rfl 1 rfl ?_
  have ne8 : nq mo tb := gv_ne h_tb h_mo (by simp)
  refine k_get (ci := 1) (k := 3) C fl_1_34 ((gv_up_n ne8).trans ((gv_up_n ne5).trans ((gv_up_n ne2).trans h_mo))) rfl dX1_tableOf_29 ?_
  refine k_iload_n C dX1_tableOf_32 rfl 0 rfl ?_
  refine k_aald (v := .ref q1) C 2 gv_up_s rfl (vp_in_nI (by omega) (by omega)) (by rw [nI_clamp (by omega)]; simp [va_up, va_rf]) dX1_tableOf_33 ?_
  refine k_view (V1 := gv_up (gv_up (gv_up V q1 (.inr (4, [.ref q_w4, .int 0, .int 0, .int (-1 : Int32)]))) q_w4 (.inl (cI, 486, .inl (fun _ => 0)))) tb (.inl (cR, 120, .inr (.inr (.inr (.inr (va_up tf (i * 4 + g0) (some q1)))))))) rfl ?_
  exact k_aret C zr zlk ⟨q1, q_w4, rfl, rfl, hq1, (gv_none hq_w4).2, hqa_w4⟩ (Nat.le_refl _) (Nat.le_refl _) dX1_tableOf_34
set_option maxHeartbeats 4000000 in
set_option maxRecDepth 100000 in
theorem c_X1_graphsBelow {zl : Launch} {D : va_G} {cI cN cR : ClassId} {base : Nat} {V : gv_V} {no : Nat} {na nb ps pp po ex va st fr ln dn ag gr : Int32} {q : Nat} {w : Int32}  (h_no : V no = some (.inr (2, [.int (nI q), .int na, .int nb, .int ps, .int pp, .int po, .int ex, .int va, .int st, .int fr, .int ln, .int dn, .int ag, .int gr]))) (hq : q ≤ 13) : ct zl D [(cI, .int), (cN, .object "AlgebraTree$Node"), (cR, .object "AlgebraTree$Rows")] base yX1_graphsBelow cX1_graphsBelow 2 (some .int) 0 0 0 [.ref no, .int w] V (pi (gbl q gr w) V) := by
  refine ct_of "AlgebraTree$Maker" rfl (by decide) (Nat.le_of_ble_eq_true rfl) ?_
  intro zp ze zs zm zargs zbelow zmeth zc C zr zlk znm
  refine k_pc (pc' := 0) (st' := []) rfl rfl ?_
  show K zp zl ze (gv_rm 0 0 0) zs zm zargs zbelow zmeth zc D base 2 (gv_E D [(cI, .int), (cN, .object "AlgebraTree$Node"), (cR, .object "AlgebraTree$Rows")] base zbelow zargs zs 0 0 (pi (gbl q gr w) V)) V 0 0 [(0, .ref no), (1, .int w)] 0 []
  refine k_iload_n C dX1_graphsBelow_0 rfl 1 rfl ?_
  refine k_if_ne (tgt := 6) C dX1_graphsBelow_1 (by decide) (fun c1 => ?_) (fun c1 => ?_)
  · skip
    refine k_aload_n C dX1_graphsBelow_6 rfl 0 rfl ?_
    refine k_get (ci := 2) (k := 0) C fl_1_77 h_no rfl dX1_graphsBelow_7 ?_
    rcases (show q = 0 ∨ q = 1 ∨ q = 2 ∨ q = 3 ∨ q = 4 ∨ q = 5 ∨ q = 6 ∨ q = 7 ∨ q = 8 ∨ q = 9 ∨ q = 10 ∨ q = 11 ∨ q = 12 ∨ q = 13 from by omega) with sw10 | sw10 | sw10 | sw10 | sw10 | sw10 | sw10 | sw10 | sw10 | sw10 | sw10 | sw10 | sw10 | sw10
    · skip
      refine k_val (y := nI 0) (by rw [sw10]) ?_
      refine k_lookup (tgt := 46) C dX1_graphsBelow_10 (by decide) rfl (by decide) ?_
      refine k_iload_n C dX1_graphsBelow_46 rfl 1 rfl ?_
      exact k_iret C zr zlk (pi_of (by unfold gbl; rw [if_neg c1, sw10]; rfl) rfl) (Nat.le_refl _) (Nat.le_refl _) dX1_graphsBelow_47
    · skip
      refine k_val (y := nI 1) (by rw [sw10]) ?_
      refine k_lookup (tgt := 46) C dX1_graphsBelow_10 (by decide) rfl (by decide) ?_
      refine k_iload_n C dX1_graphsBelow_46 rfl 1 rfl ?_
      exact k_iret C zr zlk (pi_of (by unfold gbl; rw [if_neg c1, sw10]; rfl) rfl) (Nat.le_refl _) (Nat.le_refl _) dX1_graphsBelow_47
    · skip
      refine k_val (y := nI 2) (by rw [sw10]) ?_
      refine k_lookup (tgt := 46) C dX1_graphsBelow_10 (by decide) rfl (by decide) ?_
      refine k_iload_n C dX1_graphsBelow_46 rfl 1 rfl ?_
      exact k_iret C zr zlk (pi_of (by unfold gbl; rw [if_neg c1, sw10]; rfl) rfl) (Nat.le_refl _) (Nat.le_refl _) dX1_graphsBelow_47
    · skip
      refine k_val (y := nI 3) (by rw [sw10]) ?_
      refine k_lookup (tgt := 46) C dX1_graphsBelow_10 (by decide) rfl (by decide) ?_
      refine k_iload_n C dX1_graphsBelow_46 rfl 1 rfl ?_
      exact k_iret C zr zlk (pi_of (by unfold gbl; rw [if_neg c1, sw10]; rfl) rfl) (Nat.le_refl _) (Nat.le_refl _) dX1_graphsBelow_47
    · skip
      refine k_val (y := nI 4) (by rw [sw10]) ?_
      refine k_lookup (tgt := 46) C dX1_graphsBelow_10 (by decide) rfl (by decide) ?_
      refine k_iload_n C dX1_graphsBelow_46 rfl 1 rfl ?_
      exact k_iret C zr zlk (pi_of (by unfold gbl; rw [if_neg c1, sw10]; rfl) rfl) (Nat.le_refl _) (Nat.le_refl _) dX1_graphsBelow_47
    · skip
      refine k_val (y := nI 5) (by rw [sw10]) ?_
      refine k_lookup (tgt := 46) C dX1_graphsBelow_10 (by decide) rfl (by decide) ?_
      refine k_iload_n C dX1_graphsBelow_46 rfl 1 rfl ?_
      exact k_iret C zr zlk (pi_of (by unfold gbl; rw [if_neg c1, sw10]; rfl) rfl) (Nat.le_refl _) (Nat.le_refl _) dX1_graphsBelow_47
    · skip
      refine k_val (y := nI 6) (by rw [sw10]) ?_
      refine k_lookup (tgt := 46) C dX1_graphsBelow_10 (by decide) rfl (by decide) ?_
      refine k_iload_n C dX1_graphsBelow_46 rfl 1 rfl ?_
      exact k_iret C zr zlk (pi_of (by unfold gbl; rw [if_neg c1, sw10]; rfl) rfl) (Nat.le_refl _) (Nat.le_refl _) dX1_graphsBelow_47
    · skip
      refine k_val (y := nI 7) (by rw [sw10]) ?_
      refine k_lookup (tgt := 46) C dX1_graphsBelow_10 (by decide) rfl (by decide) ?_
      refine k_iload_n C dX1_graphsBelow_46 rfl 1 rfl ?_
      exact k_iret C zr zlk (pi_of (by unfold gbl; rw [if_neg c1, sw10]; rfl) rfl) (Nat.le_refl _) (Nat.le_refl _) dX1_graphsBelow_47
    · skip
      refine k_val (y := nI 8) (by rw [sw10]) ?_
      refine k_lookup (tgt := 46) C dX1_graphsBelow_10 (by decide) rfl (by decide) ?_
      refine k_iload_n C dX1_graphsBelow_46 rfl 1 rfl ?_
      exact k_iret C zr zlk (pi_of (by unfold gbl; rw [if_neg c1, sw10]; rfl) rfl) (Nat.le_refl _) (Nat.le_refl _) dX1_graphsBelow_47
    · skip
      refine k_val (y := nI 9) (by rw [sw10]) ?_
      refine k_lookup (tgt := 46) C dX1_graphsBelow_10 (by decide) rfl (by decide) ?_
      refine k_iload_n C dX1_graphsBelow_46 rfl 1 rfl ?_
      exact k_iret C zr zlk (pi_of (by unfold gbl; rw [if_neg c1, sw10]; rfl) rfl) (Nat.le_refl _) (Nat.le_refl _) dX1_graphsBelow_47
    · skip
      refine k_val (y := nI 10) (by rw [sw10]) ?_
      refine k_lookup (tgt := 46) C dX1_graphsBelow_10 (by decide) rfl (by decide) ?_
      refine k_iload_n C dX1_graphsBelow_46 rfl 1 rfl ?_
      exact k_iret C zr zlk (pi_of (by unfold gbl; rw [if_neg c1, sw10]; rfl) rfl) (Nat.le_refl _) (Nat.le_refl _) dX1_graphsBelow_47
    · skip
      refine k_val (y := nI 11) (by rw [sw10]) ?_
      refine k_lookup (tgt := 46) C dX1_graphsBelow_10 (by decide) rfl (by decide) ?_
      refine k_iload_n C dX1_graphsBelow_46 rfl 1 rfl ?_
      exact k_iret C zr zlk (pi_of (by unfold gbl; rw [if_neg c1, sw10]; rfl) rfl) (Nat.le_refl _) (Nat.le_refl _) dX1_graphsBelow_47
    · skip
      refine k_val (y := nI 12) (by rw [sw10]) ?_
      refine k_lookup (tgt := 36) C dX1_graphsBelow_10 (by decide) rfl (by decide) ?_
      refine k_iconst (v := nI 1) C dX1_graphsBelow_36 rfl ?_
      refine k_aload_n C dX1_graphsBelow_37 rfl 0 rfl ?_
      refine k_get (ci := 2) (k := 13) C fl_1_80 h_no rfl dX1_graphsBelow_38 ?_
      refine k_ishl C dX1_graphsBelow_41 ?_
      exact k_iret C zr zlk (pi_of (by unfold gbl; rw [if_neg c1, sw10]; rfl) rfl) (Nat.le_refl _) (Nat.le_refl _) dX1_graphsBelow_42
    · skip
      refine k_val (y := nI 13) (by rw [sw10]) ?_
      refine k_lookup (tgt := 43) C dX1_graphsBelow_10 (by decide) rfl (by decide) ?_
      refine k_bipush (v := nI 14) C dX1_graphsBelow_43 rfl ?_
      exact k_iret C zr zlk (pi_of (by unfold gbl; rw [if_neg c1, sw10]; rfl) rfl) (Nat.le_refl _) (Nat.le_refl _) dX1_graphsBelow_45
  · skip
    refine k_iconst (v := nI 0) C dX1_graphsBelow_4 rfl ?_
    exact k_iret C zr zlk (pi_of (by unfold gbl; rw [if_pos c1]; rfl) rfl) (Nat.le_refl _) (Nat.le_refl _) dX1_graphsBelow_5
set_option maxHeartbeats 4000000 in
set_option maxRecDepth 100000 in
theorem c_X0_add {zl : Launch} {D : va_G} {cI cN cR : ClassId} {base : Nat} {V : gv_V} {xe ak af as ap av ne : Nat} {kd fs sc pt vl : Nat → Int32} {x y z w : Int32}  (h_xe : V xe = some (.inr (0, [.ref ak, .ref af, .ref as, .ref ap, .ref av, .int (nI ne)]))) (h_ak : V ak = some (.inl (cI, 30, .inl kd))) (h_af : V af = some (.inl (cI, 30, .inl fs))) (h_as : V as = some (.inl (cI, 30, .inl sc))) (h_ap : V ap = some (.inl (cI, 30, .inl pt))) (h_av : V av = some (.inl (cI, 30, .inl vl))) (hne : ne < 30) (hd : [ak, af, as, ap, av].Nodup) : ct zl D [(cI, .int), (cN, .object "AlgebraTree$Node"), (cR, .object "AlgebraTree$Rows")] base yX0_add cX0_add 5 (some .int) 0 0 0 [.ref xe, .int x, .int y, .int z, .int w] V (pi (nI ne) (gv_up (gv_up (gv_up (gv_up (gv_up V ak (.inl (cI, 30, .inl (upd kd ne x)))) af (.inl (cI, 30, .inl (upd fs ne y)))) as (.inl (cI, 30, .inl (upd sc ne z)))) ap (.inl (cI, 30, .inl (upd pt ne (w ||| nI 1 <<< (nI ne &&& 31)))))) xe (.inr (0, [.ref ak, .ref af, .ref as, .ref ap, .ref av, .int (nI (ne + 1))])))) := by
  refine ct_of "AlgebraTree$Expressions" rfl (by decide) (Nat.le_of_ble_eq_true rfl) ?_
  intro zp ze zs zm zargs zbelow zmeth zc C zr zlk znm
  refine k_pc (pc' := 0) (st' := []) rfl rfl ?_
  show K zp zl ze (gv_rm 0 0 0) zs zm zargs zbelow zmeth zc D base 5 (gv_E D [(cI, .int), (cN, .object "AlgebraTree$Node"), (cR, .object "AlgebraTree$Rows")] base zbelow zargs zs 0 0 (pi (nI ne) (gv_up (gv_up (gv_up (gv_up (gv_up V ak (.inl (cI, 30, .inl (upd kd ne x)))) af (.inl (cI, 30, .inl (upd fs ne y)))) as (.inl (cI, 30, .inl (upd sc ne z)))) ap (.inl (cI, 30, .inl (upd pt ne (w ||| nI 1 <<< (nI ne &&& 31)))))) xe (.inr (0, [.ref ak, .ref af, .ref as, .ref ap, .ref av, .int (nI (ne + 1))]))))) V 0 0 [(0, .ref xe), (1, .int x), (2, .int y), (3, .int z), (4, .int w)] 0 []
  refine k_aload_n C dX0_add_0 rfl 0 rfl ?_
  refine k_get (ci := 0) (k := 5) C fl_0_27 h_xe rfl dX0_add_1 ?_
  refine k_bipush (v := nI 30) C dX0_add_4 rfl ?_
  refine k_icmp_ne (tgt := 11) C dX0_add_6 (by decide) (fun c6 => ?_) (fun c6 => ?_)
  · skip
    have b6 : ¬ ne = 30 := fun z => c6 ((nI_eq (a := ne) (b := 30) (by omega) (by omega)).mpr z)
    refine k_aload_n C dX0_add_11 rfl 0 rfl ?_
    refine k_get (ci := 0) (k := 0) C fl_0_9 h_xe rfl dX0_add_12 ?_
    refine k_aload_n C dX0_add_15 rfl 0 rfl ?_
    refine k_get (ci := 0) (k := 5) C fl_0_27 h_xe rfl dX0_add_16 ?_
    refine k_iload_n C dX0_add_19 rfl 1 rfl ?_
    refine k_iast (f' := upd kd ne x) C 0 h_ak rfl (vp_in_nI (by omega) (by omega)) (by rw [nI_clamp (by omega)]) dX0_add_20 ?_
    refine k_aload_n C dX0_add_21 rfl 0 rfl ?_
    have ne1 : nq xe ak := gv_ne h_ak h_xe (by simp)
    refine k_get (ci := 0) (k := 1) C fl_0_15 ((gv_up_n ne1).trans h_xe) rfl dX0_add_22 ?_
    refine k_aload_n C dX0_add_25 rfl 0 rfl ?_
    refine k_get (ci := 0) (k := 5) C fl_0_27 ((gv_up_n ne1).trans h_xe) rfl dX0_add_26 ?_
    refine k_iload_n C dX0_add_29 rfl 2 rfl ?_
    refine k_iast (f' := upd fs ne y) C 0 ((gv_up_n (ndp hd 1 0 rfl rfl (by decide))).trans h_af) rfl (vp_in_nI (by omega) (by omega)) (by rw [nI_clamp (by omega)]) dX0_add_30 ?_
    refine k_aload_n C dX0_add_31 rfl 0 rfl ?_
    have ne2 : nq xe af := gv_ne h_af h_xe (by simp)
    refine k_get (ci := 0) (k := 2) C fl_0_18 ((gv_up_n ne2).trans ((gv_up_n ne1).trans h_xe)) rfl dX0_add_32 ?_
    refine k_aload_n C dX0_add_35 rfl 0 rfl ?_
    refine k_get (ci := 0) (k := 5) C fl_0_27 ((gv_up_n ne2).trans ((gv_up_n ne1).trans h_xe)) rfl dX0_add_36 ?_
    refine k_iload_n C dX0_add_39 rfl 3 rfl ?_
    refine k_iast (f' := upd sc ne z) C 0 ((gv_up_n (ndp hd 2 1 rfl rfl (by decide))).trans ((gv_up_n (ndp hd 2 0 rfl rfl (by decide))).trans h_as)) rfl (vp_in_nI (by omega) (by omega)) (by rw [nI_clamp (by omega)]) dX0_add_40 ?_
    refine k_aload_n C dX0_add_41 rfl 0 rfl ?_
    have ne3 : nq xe as := gv_ne h_as h_xe (by simp)
    refine k_get (ci := 0) (k := 3) C fl_0_21 ((gv_up_n ne3).trans ((gv_up_n ne2).trans ((gv_up_n ne1).trans h_xe))) rfl dX0_add_42 ?_
    refine k_aload_n C dX0_add_45 rfl 0 rfl ?_
    refine k_get (ci := 0) (k := 5) C fl_0_27 ((gv_up_n ne3).trans ((gv_up_n ne2).trans ((gv_up_n ne1).trans h_xe))) rfl dX0_add_46 ?_
    refine k_iload C dX0_add_49 4 rfl ?_
    refine k_iconst (v := nI 1) C dX0_add_51 rfl ?_
    refine k_aload_n C dX0_add_52 rfl 0 rfl ?_
    refine k_get (ci := 0) (k := 5) C fl_0_27 ((gv_up_n ne3).trans ((gv_up_n ne2).trans ((gv_up_n ne1).trans h_xe))) rfl dX0_add_53 ?_
    refine k_ishl C dX0_add_56 ?_
    refine k_ior C dX0_add_57 ?_
    refine k_iast (f' := upd pt ne (w ||| ((nI 1) <<< ((nI ne) &&& 31)))) C 0 ((gv_up_n (ndp hd 3 2 rfl rfl (by decide))).trans ((gv_up_n (ndp hd 3 1 rfl rfl (by decide))).trans ((gv_up_n (ndp hd 3 0 rfl rfl (by decide))).trans h_ap))) rfl (vp_in_nI (by omega) (by omega)) (by rw [nI_clamp (by omega)]) dX0_add_58 ?_
    refine k_aload_n C dX0_add_59 rfl 0 rfl ?_
    refine k_dup C dX0_add_60 rfl ?_
    have ne4 : nq xe ap := gv_ne h_ap h_xe (by simp)
    refine k_get (ci := 0) (k := 5) C fl_0_27 ((gv_up_n ne4).trans ((gv_up_n ne3).trans ((gv_up_n ne2).trans ((gv_up_n ne1).trans h_xe)))) rfl dX0_add_61 ?_
    refine k_iconst (v := nI 1) C dX0_add_64 rfl ?_
    refine k_iadd C dX0_add_65 ?_
    refine k_val (y := nI (ne + 1)) (nI_add ne 1) ?_
    refine k_put (ci := 0) (k := 5) (fs' := [.ref ak, .ref af, .ref as, .ref ap, .ref av, .int (nI (ne + 1))]) C fl_0_27 pf_0_5 ((gv_up_n ne4).trans ((gv_up_n ne3).trans ((gv_up_n ne2).trans ((gv_up_n ne1).trans h_xe)))) rfl rfl (Nat.le_of_ble_eq_true rfl) rfl dX0_add_66 ?_
    refine k_aload_n C dX0_add_69 rfl 0 rfl ?_
    refine k_get (ci := 0) (k := 5) C fl_0_27 gv_up_s rfl dX0_add_70 ?_
    refine k_iconst (v := nI 1) C dX0_add_73 rfl ?_
    refine k_isub C dX0_add_74 ?_
    refine k_val (y := nI ne) (by rw [pk_sub (by omega), Nat.add_sub_cancel]) ?_
    refine k_view (V1 := gv_up (gv_up (gv_up (gv_up (gv_up V ak (.inl (cI, 30, .inl (upd kd ne x)))) af (.inl (cI, 30, .inl (upd fs ne y)))) as (.inl (cI, 30, .inl (upd sc ne z)))) ap (.inl (cI, 30, .inl (upd pt ne (w ||| nI 1 <<< (nI ne &&& 31)))))) xe (.inr (0, [.ref ak, .ref af, .ref as, .ref ap, .ref av, .int (nI (ne + 1))]))) rfl ?_
    exact k_iret C zr zlk (pi_of rfl rfl) (Nat.le_refl _) (Nat.le_refl _) dX0_add_75
  · skip
    exact absurd ((nI_eq (by omega) (by omega)).mp c6) (by omega)
set_option maxHeartbeats 4000000 in
set_option maxRecDepth 100000 in
theorem c_xAddN {zl : Launch} {D : va_G} {cI cN cR : ClassId} {base : Nat} {V : gv_V} {xe ak af as ap av ne : Nat} {kd fs sc pt vl : Nat → Int32} {x y z w : Int32}  (h_xe : V xe = some (.inr (0, [.ref ak, .ref af, .ref as, .ref ap, .ref av, .int (nI ne)]))) (h_ak : V ak = some (.inl (cI, 30, .inl kd))) (h_af : V af = some (.inl (cI, 30, .inl fs))) (h_as : V as = some (.inl (cI, 30, .inl sc))) (h_ap : V ap = some (.inl (cI, 30, .inl pt))) (h_av : V av = some (.inl (cI, 30, .inl vl))) (hne : ne = 30) : ct zl D [(cI, .int), (cN, .object "AlgebraTree$Node"), (cR, .object "AlgebraTree$Rows")] base yX0_add cX0_add 5 (some .int) 0 0 0 [.ref xe, .int x, .int y, .int z, .int w] V (pi (-1 : Int32) V) := by
  refine ct_of "AlgebraTree$Expressions" rfl (by decide) (Nat.le_of_ble_eq_true rfl) ?_
  intro zp ze zs zm zargs zbelow zmeth zc C zr zlk znm
  refine k_pc (pc' := 0) (st' := []) rfl rfl ?_
  show K zp zl ze (gv_rm 0 0 0) zs zm zargs zbelow zmeth zc D base 5 (gv_E D [(cI, .int), (cN, .object "AlgebraTree$Node"), (cR, .object "AlgebraTree$Rows")] base zbelow zargs zs 0 0 (pi (-1 : Int32) V)) V 0 0 [(0, .ref xe), (1, .int x), (2, .int y), (3, .int z), (4, .int w)] 0 []
  refine k_aload_n C dX0_add_0 rfl 0 rfl ?_
  refine k_get (ci := 0) (k := 5) C fl_0_27 h_xe rfl dX0_add_1 ?_
  refine k_bipush (v := nI 30) C dX0_add_4 rfl ?_
  refine k_icmp_ne (tgt := 11) C dX0_add_6 (by decide) (fun c6 => ?_) (fun c6 => ?_)
  · skip
    exact absurd (by rw [hne]) c6
  · skip
    have b6 : ne = 30 := (nI_eq (a := ne) (b := 30) (by omega) (by omega)).mp c6
    refine k_iconst (v := (-1 : Int32)) C dX0_add_9 (by decide) ?_
    exact k_iret C zr zlk (pi_of rfl rfl) (Nat.le_refl _) (Nat.le_refl _) dX0_add_10
set_option maxHeartbeats 4000000 in
set_option maxRecDepth 100000 in
theorem c_addLeaf {zl : Launch} {D : va_G} {cI cN cR : ClassId} {base : Nat} {V : gv_V} {xe ak af as ap av ne : Nat} {kd fs sc pt vl : Nat → Int32} {q : Nat} {x : Int32}  (h_xe : V xe = some (.inr (0, [.ref ak, .ref af, .ref as, .ref ap, .ref av, .int (nI ne)]))) (h_ak : V ak = some (.inl (cI, 30, .inl kd))) (h_af : V af = some (.inl (cI, 30, .inl fs))) (h_as : V as = some (.inl (cI, 30, .inl sc))) (h_ap : V ap = some (.inl (cI, 30, .inl pt))) (h_av : V av = some (.inl (cI, 30, .inl vl))) (hne : ne < 30) (hd : [ak, af, as, ap, av].Nodup) : ct zl D [(cI, .int), (cN, .object "AlgebraTree$Node"), (cR, .object "AlgebraTree$Rows")] base yX0_addLeaf cX0_addLeaf 3 (some .int) 1 0 0 [.ref xe, .int (nI q), .int x] V (pi (nI ne) (gv_up (gv_up (gv_up (gv_up (gv_up V ak (.inl (cI, 30, .inl (upd kd ne (nI (9 + q)))))) af (.inl (cI, 30, .inl (upd fs ne x)))) as (.inl (cI, 30, .inl (upd sc ne (nI 0))))) ap (.inl (cI, 30, .inl (upd pt ne (nI 0 ||| nI 1 <<< (nI ne &&& 31)))))) xe (.inr (0, [.ref ak, .ref af, .ref as, .ref ap, .ref av, .int (nI (ne + 1))])))) := by
  refine ct_of "AlgebraTree$Expressions" rfl (by decide) (Nat.le_of_ble_eq_true rfl) ?_
  intro zp ze zs zm zargs zbelow zmeth zc C zr zlk znm
  refine k_pc (pc' := 0) (st' := []) rfl rfl ?_
  show K zp zl ze (gv_rm 1 0 0) zs zm zargs zbelow zmeth zc D base 3 (gv_E D [(cI, .int), (cN, .object "AlgebraTree$Node"), (cR, .object "AlgebraTree$Rows")] base zbelow zargs zs 0 0 (pi (nI ne) (gv_up (gv_up (gv_up (gv_up (gv_up V ak (.inl (cI, 30, .inl (upd kd ne (nI (9 + q)))))) af (.inl (cI, 30, .inl (upd fs ne x)))) as (.inl (cI, 30, .inl (upd sc ne (nI 0))))) ap (.inl (cI, 30, .inl (upd pt ne (nI 0 ||| nI 1 <<< (nI ne &&& 31)))))) xe (.inr (0, [.ref ak, .ref af, .ref as, .ref ap, .ref av, .int (nI (ne + 1))]))))) V 0 0 [(0, .ref xe), (1, .int (nI q)), (2, .int x)] 0 []
  refine k_aload_n C dX0_addLeaf_0 rfl 0 rfl ?_
  refine k_bipush (v := nI 9) C dX0_addLeaf_1 rfl ?_
  refine k_iload_n C dX0_addLeaf_3 rfl 1 rfl ?_
  refine k_iadd C dX0_addLeaf_4 ?_
  refine k_val (y := nI (9 + q)) (nI_add 9 q) ?_
  refine k_iload_n C dX0_addLeaf_5 rfl 2 rfl ?_
  refine k_iconst (v := nI 0) C dX0_addLeaf_6 rfl ?_
  refine k_iconst (v := nI 0) C dX0_addLeaf_7 rfl ?_
  refine k_callV_pi C mv_0_35 (c_X0_add  h_xe h_ak h_af h_as h_ap h_av (by first | assumption | omega) (by first | assumption | omega)) h_xe rfl rfl (by simp [Value.category]) ⟨by decide, by decide⟩ ⟨(by decide), (by decide)⟩ dX0_addLeaf_8 ?_
  refine k_view (V1 := gv_up (gv_up (gv_up (gv_up (gv_up V ak (.inl (cI, 30, .inl (upd kd ne (nI (9 + q)))))) af (.inl (cI, 30, .inl (upd fs ne x)))) as (.inl (cI, 30, .inl (upd sc ne (nI 0))))) ap (.inl (cI, 30, .inl (upd pt ne (nI 0 ||| nI 1 <<< (nI ne &&& 31)))))) xe (.inr (0, [.ref ak, .ref af, .ref as, .ref ap, .ref av, .int (nI (ne + 1))]))) rfl ?_
  exact k_iret C zr zlk (pi_of rfl rfl) (Nat.le_refl _) (Nat.le_refl _) dX0_addLeaf_11
set_option maxHeartbeats 4000000 in
set_option maxRecDepth 100000 in
theorem c_addOp {zl : Launch} {D : va_G} {cI cN cR : ClassId} {base : Nat} {V : gv_V} {xe ak af as ap av ne : Nat} {kd fs sc pt vl : Nat → Int32} {q i j : Nat}  (h_xe : V xe = some (.inr (0, [.ref ak, .ref af, .ref as, .ref ap, .ref av, .int (nI ne)]))) (h_ak : V ak = some (.inl (cI, 30, .inl kd))) (h_af : V af = some (.inl (cI, 30, .inl fs))) (h_as : V as = some (.inl (cI, 30, .inl sc))) (h_ap : V ap = some (.inl (cI, 30, .inl pt))) (h_av : V av = some (.inl (cI, 30, .inl vl))) (hne : ne < 30) (hd : [ak, af, as, ap, av].Nodup) (hi : i < 30) (hj : j < 30) : ct zl D [(cI, .int), (cN, .object "AlgebraTree$Node"), (cR, .object "AlgebraTree$Rows")] base yX0_addOperation cX0_addOperation 4 (some .int) 1 0 0 [.ref xe, .int (nI q), .int (nI i), .int (nI j)] V (pi (nI ne) (gv_up (gv_up (gv_up (gv_up (gv_up V ak (.inl (cI, 30, .inl (upd kd ne (nI q))))) af (.inl (cI, 30, .inl (upd fs ne (nI i))))) as (.inl (cI, 30, .inl (upd sc ne (nI j))))) ap (.inl (cI, 30, .inl (upd pt ne ((pt i ||| pt j) ||| nI 1 <<< (nI ne &&& 31)))))) xe (.inr (0, [.ref ak, .ref af, .ref as, .ref ap, .ref av, .int (nI (ne + 1))])))) := by
  refine ct_of "AlgebraTree$Expressions" rfl (by decide) (Nat.le_of_ble_eq_true rfl) ?_
  intro zp ze zs zm zargs zbelow zmeth zc C zr zlk znm
  refine k_pc (pc' := 0) (st' := []) rfl rfl ?_
  show K zp zl ze (gv_rm 1 0 0) zs zm zargs zbelow zmeth zc D base 4 (gv_E D [(cI, .int), (cN, .object "AlgebraTree$Node"), (cR, .object "AlgebraTree$Rows")] base zbelow zargs zs 0 0 (pi (nI ne) (gv_up (gv_up (gv_up (gv_up (gv_up V ak (.inl (cI, 30, .inl (upd kd ne (nI q))))) af (.inl (cI, 30, .inl (upd fs ne (nI i))))) as (.inl (cI, 30, .inl (upd sc ne (nI j))))) ap (.inl (cI, 30, .inl (upd pt ne ((pt i ||| pt j) ||| nI 1 <<< (nI ne &&& 31)))))) xe (.inr (0, [.ref ak, .ref af, .ref as, .ref ap, .ref av, .int (nI (ne + 1))]))))) V 0 0 [(0, .ref xe), (1, .int (nI q)), (2, .int (nI i)), (3, .int (nI j))] 0 []
  refine k_aload_n C dX0_addOperation_0 rfl 0 rfl ?_
  refine k_iload_n C dX0_addOperation_1 rfl 1 rfl ?_
  refine k_iload_n C dX0_addOperation_2 rfl 2 rfl ?_
  refine k_iload_n C dX0_addOperation_3 rfl 3 rfl ?_
  refine k_aload_n C dX0_addOperation_4 rfl 0 rfl ?_
  refine k_get (ci := 0) (k := 3) C fl_0_21 h_xe rfl dX0_addOperation_5 ?_
  refine k_iload_n C dX0_addOperation_8 rfl 2 rfl ?_
  refine k_iald (v := pt i) C 0 h_ap rfl (vp_in_nI (by omega) (by omega)) (by rw [nI_clamp (by omega)]) dX0_addOperation_9 ?_
  refine k_aload_n C dX0_addOperation_10 rfl 0 rfl ?_
  refine k_get (ci := 0) (k := 3) C fl_0_21 h_xe rfl dX0_addOperation_11 ?_
  refine k_iload_n C dX0_addOperation_14 rfl 3 rfl ?_
  refine k_iald (v := pt j) C 0 h_ap rfl (vp_in_nI (by omega) (by omega)) (by rw [nI_clamp (by omega)]) dX0_addOperation_15 ?_
  refine k_ior C dX0_addOperation_16 ?_
  refine k_callV_pi C mv_0_35 (c_X0_add  h_xe h_ak h_af h_as h_ap h_av (by first | assumption | omega) (by first | assumption | omega)) h_xe rfl rfl (by simp [Value.category]) ⟨by decide, by decide⟩ ⟨(by decide), (by decide)⟩ dX0_addOperation_17 ?_
  refine k_view (V1 := gv_up (gv_up (gv_up (gv_up (gv_up V ak (.inl (cI, 30, .inl (upd kd ne (nI q))))) af (.inl (cI, 30, .inl (upd fs ne (nI i))))) as (.inl (cI, 30, .inl (upd sc ne (nI j))))) ap (.inl (cI, 30, .inl (upd pt ne ((pt i ||| pt j) ||| nI 1 <<< (nI ne &&& 31)))))) xe (.inr (0, [.ref ak, .ref af, .ref as, .ref ap, .ref av, .int (nI (ne + 1))]))) rfl ?_
  exact k_iret C zr zlk (pi_of rfl rfl) (Nat.le_refl _) (Nat.le_refl _) dX0_addOperation_20
set_option maxHeartbeats 4000000 in
set_option maxRecDepth 100000 in
theorem c_addLeafN {zl : Launch} {D : va_G} {cI cN cR : ClassId} {base : Nat} {V : gv_V} {xe ak af as ap av ne : Nat} {kd fs sc pt vl : Nat → Int32} {q : Nat} {x : Int32}  (h_xe : V xe = some (.inr (0, [.ref ak, .ref af, .ref as, .ref ap, .ref av, .int (nI ne)]))) (h_ak : V ak = some (.inl (cI, 30, .inl kd))) (h_af : V af = some (.inl (cI, 30, .inl fs))) (h_as : V as = some (.inl (cI, 30, .inl sc))) (h_ap : V ap = some (.inl (cI, 30, .inl pt))) (h_av : V av = some (.inl (cI, 30, .inl vl))) (hne : ne = 30) : ct zl D [(cI, .int), (cN, .object "AlgebraTree$Node"), (cR, .object "AlgebraTree$Rows")] base yX0_addLeaf cX0_addLeaf 3 (some .int) 1 0 0 [.ref xe, .int (nI q), .int x] V (pi (-1 : Int32) V) := by
  refine ct_of "AlgebraTree$Expressions" rfl (by decide) (Nat.le_of_ble_eq_true rfl) ?_
  intro zp ze zs zm zargs zbelow zmeth zc C zr zlk znm
  refine k_pc (pc' := 0) (st' := []) rfl rfl ?_
  show K zp zl ze (gv_rm 1 0 0) zs zm zargs zbelow zmeth zc D base 3 (gv_E D [(cI, .int), (cN, .object "AlgebraTree$Node"), (cR, .object "AlgebraTree$Rows")] base zbelow zargs zs 0 0 (pi (-1 : Int32) V)) V 0 0 [(0, .ref xe), (1, .int (nI q)), (2, .int x)] 0 []
  refine k_aload_n C dX0_addLeaf_0 rfl 0 rfl ?_
  refine k_bipush (v := nI 9) C dX0_addLeaf_1 rfl ?_
  refine k_iload_n C dX0_addLeaf_3 rfl 1 rfl ?_
  refine k_iadd C dX0_addLeaf_4 ?_
  refine k_val (y := nI (9 + q)) (nI_add 9 q) ?_
  refine k_iload_n C dX0_addLeaf_5 rfl 2 rfl ?_
  refine k_iconst (v := nI 0) C dX0_addLeaf_6 rfl ?_
  refine k_iconst (v := nI 0) C dX0_addLeaf_7 rfl ?_
  refine k_callV_pi C mv_0_35 (c_xAddN  h_xe h_ak h_af h_as h_ap h_av (by first | assumption | omega)) h_xe rfl rfl (by simp [Value.category]) ⟨by decide, by decide⟩ ⟨(by decide), (by decide)⟩ dX0_addLeaf_8 ?_
  exact k_iret C zr zlk (pi_of rfl rfl) (Nat.le_refl _) (Nat.le_refl _) dX0_addLeaf_11
set_option maxHeartbeats 4000000 in
set_option maxRecDepth 100000 in
theorem c_addOpN {zl : Launch} {D : va_G} {cI cN cR : ClassId} {base : Nat} {V : gv_V} {xe ak af as ap av ne : Nat} {kd fs sc pt vl : Nat → Int32} {q i j : Nat}  (h_xe : V xe = some (.inr (0, [.ref ak, .ref af, .ref as, .ref ap, .ref av, .int (nI ne)]))) (h_ak : V ak = some (.inl (cI, 30, .inl kd))) (h_af : V af = some (.inl (cI, 30, .inl fs))) (h_as : V as = some (.inl (cI, 30, .inl sc))) (h_ap : V ap = some (.inl (cI, 30, .inl pt))) (h_av : V av = some (.inl (cI, 30, .inl vl))) (hne : ne = 30) (hi : i < 30) (hj : j < 30) : ct zl D [(cI, .int), (cN, .object "AlgebraTree$Node"), (cR, .object "AlgebraTree$Rows")] base yX0_addOperation cX0_addOperation 4 (some .int) 1 0 0 [.ref xe, .int (nI q), .int (nI i), .int (nI j)] V (pi (-1 : Int32) V) := by
  refine ct_of "AlgebraTree$Expressions" rfl (by decide) (Nat.le_of_ble_eq_true rfl) ?_
  intro zp ze zs zm zargs zbelow zmeth zc C zr zlk znm
  refine k_pc (pc' := 0) (st' := []) rfl rfl ?_
  show K zp zl ze (gv_rm 1 0 0) zs zm zargs zbelow zmeth zc D base 4 (gv_E D [(cI, .int), (cN, .object "AlgebraTree$Node"), (cR, .object "AlgebraTree$Rows")] base zbelow zargs zs 0 0 (pi (-1 : Int32) V)) V 0 0 [(0, .ref xe), (1, .int (nI q)), (2, .int (nI i)), (3, .int (nI j))] 0 []
  refine k_aload_n C dX0_addOperation_0 rfl 0 rfl ?_
  refine k_iload_n C dX0_addOperation_1 rfl 1 rfl ?_
  refine k_iload_n C dX0_addOperation_2 rfl 2 rfl ?_
  refine k_iload_n C dX0_addOperation_3 rfl 3 rfl ?_
  refine k_aload_n C dX0_addOperation_4 rfl 0 rfl ?_
  refine k_get (ci := 0) (k := 3) C fl_0_21 h_xe rfl dX0_addOperation_5 ?_
  refine k_iload_n C dX0_addOperation_8 rfl 2 rfl ?_
  refine k_iald (v := pt i) C 0 h_ap rfl (vp_in_nI (by omega) (by omega)) (by rw [nI_clamp (by omega)]) dX0_addOperation_9 ?_
  refine k_aload_n C dX0_addOperation_10 rfl 0 rfl ?_
  refine k_get (ci := 0) (k := 3) C fl_0_21 h_xe rfl dX0_addOperation_11 ?_
  refine k_iload_n C dX0_addOperation_14 rfl 3 rfl ?_
  refine k_iald (v := pt j) C 0 h_ap rfl (vp_in_nI (by omega) (by omega)) (by rw [nI_clamp (by omega)]) dX0_addOperation_15 ?_
  refine k_ior C dX0_addOperation_16 ?_
  refine k_callV_pi C mv_0_35 (c_xAddN  h_xe h_ak h_af h_as h_ap h_av (by first | assumption | omega)) h_xe rfl rfl (by simp [Value.category]) ⟨by decide, by decide⟩ ⟨(by decide), (by decide)⟩ dX0_addOperation_17 ?_
  exact k_iret C zr zlk (pi_of rfl rfl) (Nat.le_refl _) (Nat.le_refl _) dX0_addOperation_20
